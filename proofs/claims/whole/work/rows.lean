section
-- ===== PART A: goes FIRST, ahead of the names: the tables' words, and 'selects' of the private methods out of them =====
/-- a private method of a class that the tables say can be made, by its rows of tables_1 -/
def lw_okq (q : MethodName × Nat) : Prop := (q.1.cls ≠ "java/lang/invoke/MethodHandle" ∧ q.1.cls ≠ "java/lang/invoke/VarHandle") ∧ Cond.instantiable q.1.cls q.2 ∈ tables_1 ∧ Cond.privateMethod q.1 ∈ tables_1 ∧ Cond.instanceMethod q.1 ∈ tables_1
theorem lw_p0 : lw_okq (⟨"PointsOffice$RuleText", "add", "(I)Z"⟩, 5) := ⟨⟨by decide +kernel, by decide +kernel⟩, List.mem_of_getElem? (i := 23) (by decide +kernel), List.mem_of_getElem? (i := 269) (by decide +kernel), List.mem_of_getElem? (i := 270) (by decide +kernel)⟩
theorem lw_p1 : lw_okq (⟨"PointsOffice$RuleText", "readInto", "(LPointsOffice$Rules;)V"⟩, 5) := ⟨⟨by decide +kernel, by decide +kernel⟩, List.mem_of_getElem? (i := 23) (by decide +kernel), List.mem_of_getElem? (i := 273) (by decide +kernel), List.mem_of_getElem? (i := 274) (by decide +kernel)⟩
theorem lw_p2 : lw_okq (⟨"PointsOffice$Rules", "reset", "()V"⟩, 4) := ⟨⟨by decide +kernel, by decide +kernel⟩, List.mem_of_getElem? (i := 49) (by decide +kernel), List.mem_of_getElem? (i := 277) (by decide +kernel), List.mem_of_getElem? (i := 278) (by decide +kernel)⟩
theorem lw_p3 : lw_okq (⟨"PointsOffice$RuleText", "readItem", "(LPointsOffice$Rules;)V"⟩, 5) := ⟨⟨by decide +kernel, by decide +kernel⟩, List.mem_of_getElem? (i := 23) (by decide +kernel), List.mem_of_getElem? (i := 283) (by decide +kernel), List.mem_of_getElem? (i := 284) (by decide +kernel)⟩
theorem lw_p4 : lw_okq (⟨"PointsOffice$RuleText", "peek", "()I"⟩, 5) := ⟨⟨by decide +kernel, by decide +kernel⟩, List.mem_of_getElem? (i := 23) (by decide +kernel), List.mem_of_getElem? (i := 287) (by decide +kernel), List.mem_of_getElem? (i := 288) (by decide +kernel)⟩
theorem lw_p5 : lw_okq (⟨"PointsOffice$RuleText", "readRule", "(LPointsOffice$Rules;II)V"⟩, 5) := ⟨⟨by decide +kernel, by decide +kernel⟩, List.mem_of_getElem? (i := 23) (by decide +kernel), List.mem_of_getElem? (i := 291) (by decide +kernel), List.mem_of_getElem? (i := 292) (by decide +kernel)⟩
theorem lw_p6 : lw_okq (⟨"PointsOffice$RuleText", "readNumber", "(I)I"⟩, 5) := ⟨⟨by decide +kernel, by decide +kernel⟩, List.mem_of_getElem? (i := 23) (by decide +kernel), List.mem_of_getElem? (i := 295) (by decide +kernel), List.mem_of_getElem? (i := 296) (by decide +kernel)⟩
theorem lw_p7 : lw_okq (⟨"PointsOffice$Rules", "allows", "(II)Z"⟩, 4) := ⟨⟨by decide +kernel, by decide +kernel⟩, List.mem_of_getElem? (i := 49) (by decide +kernel), List.mem_of_getElem? (i := 299) (by decide +kernel), List.mem_of_getElem? (i := 300) (by decide +kernel)⟩
theorem lw_p8 : lw_okq (⟨"PointsOffice$Rules", "put", "(II)V"⟩, 4) := ⟨⟨by decide +kernel, by decide +kernel⟩, List.mem_of_getElem? (i := 49) (by decide +kernel), List.mem_of_getElem? (i := 310) (by decide +kernel), List.mem_of_getElem? (i := 311) (by decide +kernel)⟩
theorem lw_p9 : lw_okq (⟨"PointsOffice$RuleText", "readCode", "(LPointsOffice$Rules;)V"⟩, 5) := ⟨⟨by decide +kernel, by decide +kernel⟩, List.mem_of_getElem? (i := 23) (by decide +kernel), List.mem_of_getElem? (i := 314) (by decide +kernel), List.mem_of_getElem? (i := 315) (by decide +kernel)⟩
theorem lw_p10 : lw_okq (⟨"PointsOffice$Rules", "addCode", "(II)V"⟩, 4) := ⟨⟨by decide +kernel, by decide +kernel⟩, List.mem_of_getElem? (i := 49) (by decide +kernel), List.mem_of_getElem? (i := 318) (by decide +kernel), List.mem_of_getElem? (i := 319) (by decide +kernel)⟩
theorem lw_p11 : lw_okq (⟨"PointsOffice$RuleText", "readEnd", "()V"⟩, 5) := ⟨⟨by decide +kernel, by decide +kernel⟩, List.mem_of_getElem? (i := 23) (by decide +kernel), List.mem_of_getElem? (i := 322) (by decide +kernel), List.mem_of_getElem? (i := 323) (by decide +kernel)⟩
theorem lw_p12 : lw_okq (⟨"PointsOffice$RuleText", "clear", "()V"⟩, 5) := ⟨⟨by decide +kernel, by decide +kernel⟩, List.mem_of_getElem? (i := 23) (by decide +kernel), List.mem_of_getElem? (i := 326) (by decide +kernel), List.mem_of_getElem? (i := 327) (by decide +kernel)⟩
theorem lw_p13 : lw_okq (⟨"PointsOffice$Rules", "copy", "(LPointsOffice$Rules;)V"⟩, 4) := ⟨⟨by decide +kernel, by decide +kernel⟩, List.mem_of_getElem? (i := 49) (by decide +kernel), List.mem_of_getElem? (i := 376) (by decide +kernel), List.mem_of_getElem? (i := 377) (by decide +kernel)⟩
theorem lw_p14 : lw_okq (⟨"PointsOffice$Reckoner", "reckonAll", "()V"⟩, 4) := ⟨⟨by decide +kernel, by decide +kernel⟩, List.mem_of_getElem? (i := 169) (by decide +kernel), List.mem_of_getElem? (i := 380) (by decide +kernel), List.mem_of_getElem? (i := 381) (by decide +kernel)⟩
theorem lw_p15 : lw_okq (⟨"PointsOffice$Reckoner", "reckonNext", "()V"⟩, 4) := ⟨⟨by decide +kernel, by decide +kernel⟩, List.mem_of_getElem? (i := 169) (by decide +kernel), List.mem_of_getElem? (i := 384) (by decide +kernel), List.mem_of_getElem? (i := 385) (by decide +kernel)⟩
def lw_privs_1 : List (MethodName × Nat) := [(⟨"PointsOffice$RuleText", "add", "(I)Z"⟩, 5), (⟨"PointsOffice$RuleText", "readInto", "(LPointsOffice$Rules;)V"⟩, 5), (⟨"PointsOffice$Rules", "reset", "()V"⟩, 4), (⟨"PointsOffice$RuleText", "readItem", "(LPointsOffice$Rules;)V"⟩, 5), (⟨"PointsOffice$RuleText", "peek", "()I"⟩, 5), (⟨"PointsOffice$RuleText", "readRule", "(LPointsOffice$Rules;II)V"⟩, 5), (⟨"PointsOffice$RuleText", "readNumber", "(I)I"⟩, 5), (⟨"PointsOffice$Rules", "allows", "(II)Z"⟩, 4), (⟨"PointsOffice$Rules", "put", "(II)V"⟩, 4), (⟨"PointsOffice$RuleText", "readCode", "(LPointsOffice$Rules;)V"⟩, 5), (⟨"PointsOffice$Rules", "addCode", "(II)V"⟩, 4), (⟨"PointsOffice$RuleText", "readEnd", "()V"⟩, 5), (⟨"PointsOffice$RuleText", "clear", "()V"⟩, 5), (⟨"PointsOffice$Rules", "copy", "(LPointsOffice$Rules;)V"⟩, 4), (⟨"PointsOffice$Reckoner", "reckonAll", "()V"⟩, 4), (⟨"PointsOffice$Reckoner", "reckonNext", "()V"⟩, 4)]
theorem lw_r1 : ∀ q ∈ lw_privs_1, lw_okq q := List.forall_mem_cons.mpr ⟨lw_p0, List.forall_mem_cons.mpr ⟨lw_p1, List.forall_mem_cons.mpr ⟨lw_p2, List.forall_mem_cons.mpr ⟨lw_p3, List.forall_mem_cons.mpr ⟨lw_p4, List.forall_mem_cons.mpr ⟨lw_p5, List.forall_mem_cons.mpr ⟨lw_p6, List.forall_mem_cons.mpr ⟨lw_p7, List.forall_mem_cons.mpr ⟨lw_p8, List.forall_mem_cons.mpr ⟨lw_p9, List.forall_mem_cons.mpr ⟨lw_p10, List.forall_mem_cons.mpr ⟨lw_p11, List.forall_mem_cons.mpr ⟨lw_p12, List.forall_mem_cons.mpr ⟨lw_p13, List.forall_mem_cons.mpr ⟨lw_p14, List.forall_mem_cons.mpr ⟨lw_p15, fun _ h => absurd h List.not_mem_nil⟩⟩⟩⟩⟩⟩⟩⟩⟩⟩⟩⟩⟩⟩⟩⟩
theorem lw_p16 : lw_okq (⟨"PointsOffice$Events", "isThere", "(I)Z"⟩, 13) := ⟨⟨by decide +kernel, by decide +kernel⟩, List.mem_of_getElem? (i := 70) (by decide +kernel), List.mem_of_getElem? (i := 388) (by decide +kernel), List.mem_of_getElem? (i := 389) (by decide +kernel)⟩
theorem lw_p17 : lw_okq (⟨"PointsOffice$Events", "clearMarks", "(I)V"⟩, 13) := ⟨⟨by decide +kernel, by decide +kernel⟩, List.mem_of_getElem? (i := 70) (by decide +kernel), List.mem_of_getElem? (i := 392) (by decide +kernel), List.mem_of_getElem? (i := 393) (by decide +kernel)⟩
theorem lw_p18 : lw_okq (⟨"PointsOffice$Reckoner", "reckonLong", "(I)V"⟩, 4) := ⟨⟨by decide +kernel, by decide +kernel⟩, List.mem_of_getElem? (i := 169) (by decide +kernel), List.mem_of_getElem? (i := 397) (by decide +kernel), List.mem_of_getElem? (i := 398) (by decide +kernel)⟩
theorem lw_p19 : lw_okq (⟨"PointsOffice$Bans", "toShorten", "(II)I"⟩, 8) := ⟨⟨by decide +kernel, by decide +kernel⟩, List.mem_of_getElem? (i := 136) (by decide +kernel), List.mem_of_getElem? (i := 401) (by decide +kernel), List.mem_of_getElem? (i := 402) (by decide +kernel)⟩
theorem lw_p20 : lw_okq (⟨"PointsOffice$Bans", "has", "(III)Z"⟩, 8) := ⟨⟨by decide +kernel, by decide +kernel⟩, List.mem_of_getElem? (i := 136) (by decide +kernel), List.mem_of_getElem? (i := 405) (by decide +kernel), List.mem_of_getElem? (i := 406) (by decide +kernel)⟩
theorem lw_p21 : lw_okq (⟨"PointsOffice$Bans", "shorten", "(II)V"⟩, 8) := ⟨⟨by decide +kernel, by decide +kernel⟩, List.mem_of_getElem? (i := 136) (by decide +kernel), List.mem_of_getElem? (i := 409) (by decide +kernel), List.mem_of_getElem? (i := 410) (by decide +kernel)⟩
theorem lw_p22 : lw_okq (⟨"PointsOffice$Reckoner", "reckonConviction", "(I)V"⟩, 4) := ⟨⟨by decide +kernel, by decide +kernel⟩, List.mem_of_getElem? (i := 169) (by decide +kernel), List.mem_of_getElem? (i := 416) (by decide +kernel), List.mem_of_getElem? (i := 417) (by decide +kernel)⟩
theorem lw_p23 : lw_okq (⟨"PointsOffice$Bans", "hold", "(II)Z"⟩, 8) := ⟨⟨by decide +kernel, by decide +kernel⟩, List.mem_of_getElem? (i := 136) (by decide +kernel), List.mem_of_getElem? (i := 420) (by decide +kernel), List.mem_of_getElem? (i := 421) (by decide +kernel)⟩
theorem lw_p24 : lw_okq (⟨"PointsOffice$Rules", "ownBanOf", "(I)I"⟩, 4) := ⟨⟨by decide +kernel, by decide +kernel⟩, List.mem_of_getElem? (i := 49) (by decide +kernel), List.mem_of_getElem? (i := 424) (by decide +kernel), List.mem_of_getElem? (i := 425) (by decide +kernel)⟩
theorem lw_p25 : lw_okq (⟨"PointsOffice$Rules", "hasCode", "(I)Z"⟩, 4) := ⟨⟨by decide +kernel, by decide +kernel⟩, List.mem_of_getElem? (i := 49) (by decide +kernel), List.mem_of_getElem? (i := 428) (by decide +kernel), List.mem_of_getElem? (i := 429) (by decide +kernel)⟩
theorem lw_p26 : lw_okq (⟨"PointsOffice$Bans", "add", "(IIIIII)V"⟩, 8) := ⟨⟨by decide +kernel, by decide +kernel⟩, List.mem_of_getElem? (i := 136) (by decide +kernel), List.mem_of_getElem? (i := 432) (by decide +kernel), List.mem_of_getElem? (i := 433) (by decide +kernel)⟩
theorem lw_p27 : lw_okq (⟨"PointsOffice$Reckoner", "heaviest", "(II)I"⟩, 4) := ⟨⟨by decide +kernel, by decide +kernel⟩, List.mem_of_getElem? (i := 169) (by decide +kernel), List.mem_of_getElem? (i := 436) (by decide +kernel), List.mem_of_getElem? (i := 437) (by decide +kernel)⟩
theorem lw_p28 : lw_okq (⟨"PointsOffice$Rules", "get", "(I)I"⟩, 4) := ⟨⟨by decide +kernel, by decide +kernel⟩, List.mem_of_getElem? (i := 49) (by decide +kernel), List.mem_of_getElem? (i := 440) (by decide +kernel), List.mem_of_getElem? (i := 441) (by decide +kernel)⟩
theorem lw_p29 : lw_okq (⟨"PointsOffice$Events", "weigh", "(IIII)I"⟩, 13) := ⟨⟨by decide +kernel, by decide +kernel⟩, List.mem_of_getElem? (i := 70) (by decide +kernel), List.mem_of_getElem? (i := 444) (by decide +kernel), List.mem_of_getElem? (i := 445) (by decide +kernel)⟩
theorem lw_p30 : lw_okq (⟨"PointsOffice$Reckoner", "giveGreatBan", "(III)V"⟩, 4) := ⟨⟨by decide +kernel, by decide +kernel⟩, List.mem_of_getElem? (i := 169) (by decide +kernel), List.mem_of_getElem? (i := 449) (by decide +kernel), List.mem_of_getElem? (i := 450) (by decide +kernel)⟩
theorem lw_p31 : lw_okq (⟨"PointsOffice$Bans", "greatSince", "(II)I"⟩, 8) := ⟨⟨by decide +kernel, by decide +kernel⟩, List.mem_of_getElem? (i := 136) (by decide +kernel), List.mem_of_getElem? (i := 453) (by decide +kernel), List.mem_of_getElem? (i := 454) (by decide +kernel)⟩
def lw_privs_2 : List (MethodName × Nat) := [(⟨"PointsOffice$Events", "isThere", "(I)Z"⟩, 13), (⟨"PointsOffice$Events", "clearMarks", "(I)V"⟩, 13), (⟨"PointsOffice$Reckoner", "reckonLong", "(I)V"⟩, 4), (⟨"PointsOffice$Bans", "toShorten", "(II)I"⟩, 8), (⟨"PointsOffice$Bans", "has", "(III)Z"⟩, 8), (⟨"PointsOffice$Bans", "shorten", "(II)V"⟩, 8), (⟨"PointsOffice$Reckoner", "reckonConviction", "(I)V"⟩, 4), (⟨"PointsOffice$Bans", "hold", "(II)Z"⟩, 8), (⟨"PointsOffice$Rules", "ownBanOf", "(I)I"⟩, 4), (⟨"PointsOffice$Rules", "hasCode", "(I)Z"⟩, 4), (⟨"PointsOffice$Bans", "add", "(IIIIII)V"⟩, 8), (⟨"PointsOffice$Reckoner", "heaviest", "(II)I"⟩, 4), (⟨"PointsOffice$Rules", "get", "(I)I"⟩, 4), (⟨"PointsOffice$Events", "weigh", "(IIII)I"⟩, 13), (⟨"PointsOffice$Reckoner", "giveGreatBan", "(III)V"⟩, 4), (⟨"PointsOffice$Bans", "greatSince", "(II)I"⟩, 8)]
theorem lw_r2 : ∀ q ∈ lw_privs_2, lw_okq q := List.forall_mem_cons.mpr ⟨lw_p16, List.forall_mem_cons.mpr ⟨lw_p17, List.forall_mem_cons.mpr ⟨lw_p18, List.forall_mem_cons.mpr ⟨lw_p19, List.forall_mem_cons.mpr ⟨lw_p20, List.forall_mem_cons.mpr ⟨lw_p21, List.forall_mem_cons.mpr ⟨lw_p22, List.forall_mem_cons.mpr ⟨lw_p23, List.forall_mem_cons.mpr ⟨lw_p24, List.forall_mem_cons.mpr ⟨lw_p25, List.forall_mem_cons.mpr ⟨lw_p26, List.forall_mem_cons.mpr ⟨lw_p27, List.forall_mem_cons.mpr ⟨lw_p28, List.forall_mem_cons.mpr ⟨lw_p29, List.forall_mem_cons.mpr ⟨lw_p30, List.forall_mem_cons.mpr ⟨lw_p31, fun _ h => absurd h List.not_mem_nil⟩⟩⟩⟩⟩⟩⟩⟩⟩⟩⟩⟩⟩⟩⟩⟩
theorem lw_p32 : lw_okq (⟨"PointsOffice$Bans", "latestDay", "(I)I"⟩, 8) := ⟨⟨by decide +kernel, by decide +kernel⟩, List.mem_of_getElem? (i := 136) (by decide +kernel), List.mem_of_getElem? (i := 457) (by decide +kernel), List.mem_of_getElem? (i := 458) (by decide +kernel)⟩
theorem lw_p33 : lw_okq (⟨"PointsOffice$Events", "spend", "(II)V"⟩, 13) := ⟨⟨by decide +kernel, by decide +kernel⟩, List.mem_of_getElem? (i := 70) (by decide +kernel), List.mem_of_getElem? (i := 461) (by decide +kernel), List.mem_of_getElem? (i := 462) (by decide +kernel)⟩
theorem lw_p34 : lw_okq (⟨"PointsOffice$Changes", "note", "(III)V"⟩, 7) := ⟨⟨by decide +kernel, by decide +kernel⟩, List.mem_of_getElem? (i := 188) (by decide +kernel), List.mem_of_getElem? (i := 472) (by decide +kernel), List.mem_of_getElem? (i := 473) (by decide +kernel)⟩
theorem lw_p35 : lw_okq (⟨"PointsOffice$Changes", "forgetOldest", "()V"⟩, 7) := ⟨⟨by decide +kernel, by decide +kernel⟩, List.mem_of_getElem? (i := 188) (by decide +kernel), List.mem_of_getElem? (i := 476) (by decide +kernel), List.mem_of_getElem? (i := 477) (by decide +kernel)⟩
theorem lw_p36 : lw_okq (⟨"PointsOffice$Rules", "pointsOf", "(I)I"⟩, 4) := ⟨⟨by decide +kernel, by decide +kernel⟩, List.mem_of_getElem? (i := 49) (by decide +kernel), List.mem_of_getElem? (i := 485) (by decide +kernel), List.mem_of_getElem? (i := 486) (by decide +kernel)⟩
theorem lw_p37 : lw_okq (⟨"PointsOffice", "canBeOffence", "(III)Z"⟩, 8) := ⟨⟨by decide +kernel, by decide +kernel⟩, List.mem_of_getElem? (i := 15) (by decide +kernel), List.mem_of_getElem? (i := 498) (by decide +kernel), List.mem_of_getElem? (i := 499) (by decide +kernel)⟩
theorem lw_p38 : lw_okq (⟨"PointsOffice$Events", "addConviction", "(IIIIII)V"⟩, 13) := ⟨⟨by decide +kernel, by decide +kernel⟩, List.mem_of_getElem? (i := 70) (by decide +kernel), List.mem_of_getElem? (i := 505) (by decide +kernel), List.mem_of_getElem? (i := 506) (by decide +kernel)⟩
theorem lw_p39 : lw_okq (⟨"PointsOffice", "noteNewEvent", "()I"⟩, 8) := ⟨⟨by decide +kernel, by decide +kernel⟩, List.mem_of_getElem? (i := 15) (by decide +kernel), List.mem_of_getElem? (i := 509) (by decide +kernel), List.mem_of_getElem? (i := 510) (by decide +kernel)⟩
theorem lw_p40 : lw_okq (⟨"PointsOffice$Events", "hasLightAfter", "(II)Z"⟩, 13) := ⟨⟨by decide +kernel, by decide +kernel⟩, List.mem_of_getElem? (i := 70) (by decide +kernel), List.mem_of_getElem? (i := 518) (by decide +kernel), List.mem_of_getElem? (i := 519) (by decide +kernel)⟩
theorem lw_p41 : lw_okq (⟨"PointsOffice$Events", "addCourse", "(III)V"⟩, 13) := ⟨⟨by decide +kernel, by decide +kernel⟩, List.mem_of_getElem? (i := 70) (by decide +kernel), List.mem_of_getElem? (i := 523) (by decide +kernel), List.mem_of_getElem? (i := 524) (by decide +kernel)⟩
theorem lw_p42 : lw_okq (⟨"PointsOffice$Events", "isConviction", "(I)Z"⟩, 13) := ⟨⟨by decide +kernel, by decide +kernel⟩, List.mem_of_getElem? (i := 70) (by decide +kernel), List.mem_of_getElem? (i := 531) (by decide +kernel), List.mem_of_getElem? (i := 532) (by decide +kernel)⟩
theorem lw_p43 : lw_okq (⟨"PointsOffice", "retell", "(III)I"⟩, 8) := ⟨⟨by decide +kernel, by decide +kernel⟩, List.mem_of_getElem? (i := 15) (by decide +kernel), List.mem_of_getElem? (i := 535) (by decide +kernel), List.mem_of_getElem? (i := 536) (by decide +kernel)⟩
theorem lw_p44 : lw_okq (⟨"PointsOffice", "daysInAll", "(I)I"⟩, 8) := ⟨⟨by decide +kernel, by decide +kernel⟩, List.mem_of_getElem? (i := 15) (by decide +kernel), List.mem_of_getElem? (i := 539) (by decide +kernel), List.mem_of_getElem? (i := 540) (by decide +kernel)⟩
theorem lw_p45 : lw_okq (⟨"PointsOffice$Bans", "daysBetween", "(III)I"⟩, 8) := ⟨⟨by decide +kernel, by decide +kernel⟩, List.mem_of_getElem? (i := 136) (by decide +kernel), List.mem_of_getElem? (i := 544) (by decide +kernel), List.mem_of_getElem? (i := 545) (by decide +kernel)⟩
theorem lw_p46 : lw_okq (⟨"PointsOffice$Bans", "firstFree", "(II)I"⟩, 8) := ⟨⟨by decide +kernel, by decide +kernel⟩, List.mem_of_getElem? (i := 136) (by decide +kernel), List.mem_of_getElem? (i := 548) (by decide +kernel), List.mem_of_getElem? (i := 549) (by decide +kernel)⟩
theorem lw_p47 : lw_okq (⟨"PointsOffice$Bans", "dayBehindBansOn", "(II)I"⟩, 8) := ⟨⟨by decide +kernel, by decide +kernel⟩, List.mem_of_getElem? (i := 136) (by decide +kernel), List.mem_of_getElem? (i := 552) (by decide +kernel), List.mem_of_getElem? (i := 553) (by decide +kernel)⟩
def lw_privs_3 : List (MethodName × Nat) := [(⟨"PointsOffice$Bans", "latestDay", "(I)I"⟩, 8), (⟨"PointsOffice$Events", "spend", "(II)V"⟩, 13), (⟨"PointsOffice$Changes", "note", "(III)V"⟩, 7), (⟨"PointsOffice$Changes", "forgetOldest", "()V"⟩, 7), (⟨"PointsOffice$Rules", "pointsOf", "(I)I"⟩, 4), (⟨"PointsOffice", "canBeOffence", "(III)Z"⟩, 8), (⟨"PointsOffice$Events", "addConviction", "(IIIIII)V"⟩, 13), (⟨"PointsOffice", "noteNewEvent", "()I"⟩, 8), (⟨"PointsOffice$Events", "hasLightAfter", "(II)Z"⟩, 13), (⟨"PointsOffice$Events", "addCourse", "(III)V"⟩, 13), (⟨"PointsOffice$Events", "isConviction", "(I)Z"⟩, 13), (⟨"PointsOffice", "retell", "(III)I"⟩, 8), (⟨"PointsOffice", "daysInAll", "(I)I"⟩, 8), (⟨"PointsOffice$Bans", "daysBetween", "(III)I"⟩, 8), (⟨"PointsOffice$Bans", "firstFree", "(II)I"⟩, 8), (⟨"PointsOffice$Bans", "dayBehindBansOn", "(II)I"⟩, 8)]
theorem lw_r3 : ∀ q ∈ lw_privs_3, lw_okq q := List.forall_mem_cons.mpr ⟨lw_p32, List.forall_mem_cons.mpr ⟨lw_p33, List.forall_mem_cons.mpr ⟨lw_p34, List.forall_mem_cons.mpr ⟨lw_p35, List.forall_mem_cons.mpr ⟨lw_p36, List.forall_mem_cons.mpr ⟨lw_p37, List.forall_mem_cons.mpr ⟨lw_p38, List.forall_mem_cons.mpr ⟨lw_p39, List.forall_mem_cons.mpr ⟨lw_p40, List.forall_mem_cons.mpr ⟨lw_p41, List.forall_mem_cons.mpr ⟨lw_p42, List.forall_mem_cons.mpr ⟨lw_p43, List.forall_mem_cons.mpr ⟨lw_p44, List.forall_mem_cons.mpr ⟨lw_p45, List.forall_mem_cons.mpr ⟨lw_p46, List.forall_mem_cons.mpr ⟨lw_p47, fun _ h => absurd h List.not_mem_nil⟩⟩⟩⟩⟩⟩⟩⟩⟩⟩⟩⟩⟩⟩⟩⟩
theorem lw_p48 : lw_okq (⟨"PointsOffice$Bans", "nextFirstDay", "(III)I"⟩, 8) := ⟨⟨by decide +kernel, by decide +kernel⟩, List.mem_of_getElem? (i := 136) (by decide +kernel), List.mem_of_getElem? (i := 559) (by decide +kernel), List.mem_of_getElem? (i := 560) (by decide +kernel)⟩
theorem lw_p49 : lw_okq (⟨"PointsOffice$Events", "tell", "(III)I"⟩, 13) := ⟨⟨by decide +kernel, by decide +kernel⟩, List.mem_of_getElem? (i := 70) (by decide +kernel), List.mem_of_getElem? (i := 563) (by decide +kernel), List.mem_of_getElem? (i := 564) (by decide +kernel)⟩
theorem lw_p50 : lw_okq (⟨"PointsOffice$Events", "swap", "([III)I"⟩, 13) := ⟨⟨by decide +kernel, by decide +kernel⟩, List.mem_of_getElem? (i := 70) (by decide +kernel), List.mem_of_getElem? (i := 567) (by decide +kernel), List.mem_of_getElem? (i := 568) (by decide +kernel)⟩
theorem lw_p51 : lw_okq (⟨"PointsOffice$Changes", "dropLast", "()Z"⟩, 7) := ⟨⟨by decide +kernel, by decide +kernel⟩, List.mem_of_getElem? (i := 188) (by decide +kernel), List.mem_of_getElem? (i := 588) (by decide +kernel), List.mem_of_getElem? (i := 589) (by decide +kernel)⟩
theorem lw_p52 : lw_okq (⟨"PointsOffice$Events", "dropLast", "()V"⟩, 13) := ⟨⟨by decide +kernel, by decide +kernel⟩, List.mem_of_getElem? (i := 70) (by decide +kernel), List.mem_of_getElem? (i := 592) (by decide +kernel), List.mem_of_getElem? (i := 593) (by decide +kernel)⟩
theorem lw_p53 : lw_okq (⟨"PointsOffice", "liveThrough", "(I)V"⟩, 8) := ⟨⟨by decide +kernel, by decide +kernel⟩, List.mem_of_getElem? (i := 15) (by decide +kernel), List.mem_of_getElem? (i := 603) (by decide +kernel), List.mem_of_getElem? (i := 604) (by decide +kernel)⟩
theorem lw_p54 : lw_okq (⟨"PointsOffice$Events", "tellOf", "(II)I"⟩, 13) := ⟨⟨by decide +kernel, by decide +kernel⟩, List.mem_of_getElem? (i := 70) (by decide +kernel), List.mem_of_getElem? (i := 614) (by decide +kernel), List.mem_of_getElem? (i := 615) (by decide +kernel)⟩
theorem lw_p55 : lw_okq (⟨"PointsOffice$Events", "tellOfConviction", "(II)I"⟩, 13) := ⟨⟨by decide +kernel, by decide +kernel⟩, List.mem_of_getElem? (i := 70) (by decide +kernel), List.mem_of_getElem? (i := 618) (by decide +kernel), List.mem_of_getElem? (i := 619) (by decide +kernel)⟩
theorem lw_p56 : lw_okq (⟨"PointsOffice$Bans", "givenTo", "(I)I"⟩, 8) := ⟨⟨by decide +kernel, by decide +kernel⟩, List.mem_of_getElem? (i := 136) (by decide +kernel), List.mem_of_getElem? (i := 653) (by decide +kernel), List.mem_of_getElem? (i := 654) (by decide +kernel)⟩
theorem lw_p57 : lw_okq (⟨"PointsOffice$Bans", "placeOf", "(II)I"⟩, 8) := ⟨⟨by decide +kernel, by decide +kernel⟩, List.mem_of_getElem? (i := 136) (by decide +kernel), List.mem_of_getElem? (i := 657) (by decide +kernel), List.mem_of_getElem? (i := 658) (by decide +kernel)⟩
theorem lw_p58 : lw_okq (⟨"PointsOffice$Bans", "tellOf", "(II)I"⟩, 8) := ⟨⟨by decide +kernel, by decide +kernel⟩, List.mem_of_getElem? (i := 136) (by decide +kernel), List.mem_of_getElem? (i := 661) (by decide +kernel), List.mem_of_getElem? (i := 662) (by decide +kernel)⟩
theorem lw_p59 : lw_okq (⟨"PointsOffice", "sees", "(II)Z"⟩, 8) := ⟨⟨by decide +kernel, by decide +kernel⟩, List.mem_of_getElem? (i := 15) (by decide +kernel), List.mem_of_getElem? (i := 669) (by decide +kernel), List.mem_of_getElem? (i := 670) (by decide +kernel)⟩
theorem lw_p60 : lw_okq (⟨"PointsOfficeModel", "empty", "()V"⟩, 26) := ⟨⟨by decide +kernel, by decide +kernel⟩, List.mem_of_getElem? (i := 677) (by decide +kernel), List.mem_of_getElem? (i := 683) (by decide +kernel), List.mem_of_getElem? (i := 684) (by decide +kernel)⟩
theorem lw_p61 : lw_okq (⟨"PointsOfficeModel", "codeIs", "(II)V"⟩, 26) := ⟨⟨by decide +kernel, by decide +kernel⟩, List.mem_of_getElem? (i := 677) (by decide +kernel), List.mem_of_getElem? (i := 687) (by decide +kernel), List.mem_of_getElem? (i := 688) (by decide +kernel)⟩
theorem lw_p62 : lw_okq (⟨"PointsOfficeModel", "begin", "()V"⟩, 26) := ⟨⟨by decide +kernel, by decide +kernel⟩, List.mem_of_getElem? (i := 677) (by decide +kernel), List.mem_of_getElem? (i := 691) (by decide +kernel), List.mem_of_getElem? (i := 692) (by decide +kernel)⟩
theorem lw_p63 : lw_okq (⟨"PointsOfficeModel", "readAll", "()I"⟩, 26) := ⟨⟨by decide +kernel, by decide +kernel⟩, List.mem_of_getElem? (i := 677) (by decide +kernel), List.mem_of_getElem? (i := 791) (by decide +kernel), List.mem_of_getElem? (i := 792) (by decide +kernel)⟩
def lw_privs_4 : List (MethodName × Nat) := [(⟨"PointsOffice$Bans", "nextFirstDay", "(III)I"⟩, 8), (⟨"PointsOffice$Events", "tell", "(III)I"⟩, 13), (⟨"PointsOffice$Events", "swap", "([III)I"⟩, 13), (⟨"PointsOffice$Changes", "dropLast", "()Z"⟩, 7), (⟨"PointsOffice$Events", "dropLast", "()V"⟩, 13), (⟨"PointsOffice", "liveThrough", "(I)V"⟩, 8), (⟨"PointsOffice$Events", "tellOf", "(II)I"⟩, 13), (⟨"PointsOffice$Events", "tellOfConviction", "(II)I"⟩, 13), (⟨"PointsOffice$Bans", "givenTo", "(I)I"⟩, 8), (⟨"PointsOffice$Bans", "placeOf", "(II)I"⟩, 8), (⟨"PointsOffice$Bans", "tellOf", "(II)I"⟩, 8), (⟨"PointsOffice", "sees", "(II)Z"⟩, 8), (⟨"PointsOfficeModel", "empty", "()V"⟩, 26), (⟨"PointsOfficeModel", "codeIs", "(II)V"⟩, 26), (⟨"PointsOfficeModel", "begin", "()V"⟩, 26), (⟨"PointsOfficeModel", "readAll", "()I"⟩, 26)]
theorem lw_r4 : ∀ q ∈ lw_privs_4, lw_okq q := List.forall_mem_cons.mpr ⟨lw_p48, List.forall_mem_cons.mpr ⟨lw_p49, List.forall_mem_cons.mpr ⟨lw_p50, List.forall_mem_cons.mpr ⟨lw_p51, List.forall_mem_cons.mpr ⟨lw_p52, List.forall_mem_cons.mpr ⟨lw_p53, List.forall_mem_cons.mpr ⟨lw_p54, List.forall_mem_cons.mpr ⟨lw_p55, List.forall_mem_cons.mpr ⟨lw_p56, List.forall_mem_cons.mpr ⟨lw_p57, List.forall_mem_cons.mpr ⟨lw_p58, List.forall_mem_cons.mpr ⟨lw_p59, List.forall_mem_cons.mpr ⟨lw_p60, List.forall_mem_cons.mpr ⟨lw_p61, List.forall_mem_cons.mpr ⟨lw_p62, List.forall_mem_cons.mpr ⟨lw_p63, fun _ h => absurd h List.not_mem_nil⟩⟩⟩⟩⟩⟩⟩⟩⟩⟩⟩⟩⟩⟩⟩⟩
theorem lw_p64 : lw_okq (⟨"PointsOfficeModel", "letterAt", "(I)I"⟩, 26) := ⟨⟨by decide +kernel, by decide +kernel⟩, List.mem_of_getElem? (i := 677) (by decide +kernel), List.mem_of_getElem? (i := 795) (by decide +kernel), List.mem_of_getElem? (i := 796) (by decide +kernel)⟩
theorem lw_p65 : lw_okq (⟨"PointsOfficeModel", "item", "(I)I"⟩, 26) := ⟨⟨by decide +kernel, by decide +kernel⟩, List.mem_of_getElem? (i := 677) (by decide +kernel), List.mem_of_getElem? (i := 799) (by decide +kernel), List.mem_of_getElem? (i := 800) (by decide +kernel)⟩
theorem lw_p66 : lw_okq (⟨"PointsOfficeModel", "ruleItem", "(III)I"⟩, 26) := ⟨⟨by decide +kernel, by decide +kernel⟩, List.mem_of_getElem? (i := 677) (by decide +kernel), List.mem_of_getElem? (i := 803) (by decide +kernel), List.mem_of_getElem? (i := 804) (by decide +kernel)⟩
theorem lw_p67 : lw_okq (⟨"PointsOfficeModel", "number", "(II)I"⟩, 26) := ⟨⟨by decide +kernel, by decide +kernel⟩, List.mem_of_getElem? (i := 677) (by decide +kernel), List.mem_of_getElem? (i := 807) (by decide +kernel), List.mem_of_getElem? (i := 808) (by decide +kernel)⟩
theorem lw_p68 : lw_okq (⟨"PointsOfficeModel", "staysItem", "()I"⟩, 26) := ⟨⟨by decide +kernel, by decide +kernel⟩, List.mem_of_getElem? (i := 677) (by decide +kernel), List.mem_of_getElem? (i := 813) (by decide +kernel), List.mem_of_getElem? (i := 814) (by decide +kernel)⟩
theorem lw_p69 : lw_okq (⟨"PointsOfficeModel", "codeItem", "()I"⟩, 26) := ⟨⟨by decide +kernel, by decide +kernel⟩, List.mem_of_getElem? (i := 677) (by decide +kernel), List.mem_of_getElem? (i := 817) (by decide +kernel), List.mem_of_getElem? (i := 818) (by decide +kernel)⟩
theorem lw_p70 : lw_okq (⟨"PointsOfficeModel", "ends", "()I"⟩, 26) := ⟨⟨by decide +kernel, by decide +kernel⟩, List.mem_of_getElem? (i := 677) (by decide +kernel), List.mem_of_getElem? (i := 821) (by decide +kernel), List.mem_of_getElem? (i := 822) (by decide +kernel)⟩
theorem lw_p71 : lw_okq (⟨"PointsOfficeModel", "ruleOf", "(I)I"⟩, 26) := ⟨⟨by decide +kernel, by decide +kernel⟩, List.mem_of_getElem? (i := 677) (by decide +kernel), List.mem_of_getElem? (i := 840) (by decide +kernel), List.mem_of_getElem? (i := 841) (by decide +kernel)⟩
theorem lw_p72 : lw_okq (⟨"PointsOfficeModel", "note", "()V"⟩, 26) := ⟨⟨by decide +kernel, by decide +kernel⟩, List.mem_of_getElem? (i := 677) (by decide +kernel), List.mem_of_getElem? (i := 844) (by decide +kernel), List.mem_of_getElem? (i := 845) (by decide +kernel)⟩
theorem lw_p73 : lw_okq (⟨"PointsOfficeModel", "isCode", "(I)Z"⟩, 26) := ⟨⟨by decide +kernel, by decide +kernel⟩, List.mem_of_getElem? (i := 677) (by decide +kernel), List.mem_of_getElem? (i := 852) (by decide +kernel), List.mem_of_getElem? (i := 853) (by decide +kernel)⟩
theorem lw_p74 : lw_okq (⟨"PointsOfficeModel", "comes", "(IIIII)V"⟩, 26) := ⟨⟨by decide +kernel, by decide +kernel⟩, List.mem_of_getElem? (i := 677) (by decide +kernel), List.mem_of_getElem? (i := 869) (by decide +kernel), List.mem_of_getElem? (i := 870) (by decide +kernel)⟩
theorem lw_p75 : lw_okq (⟨"PointsOfficeModel", "know", "()V"⟩, 26) := ⟨⟨by decide +kernel, by decide +kernel⟩, List.mem_of_getElem? (i := 677) (by decide +kernel), List.mem_of_getElem? (i := 877) (by decide +kernel), List.mem_of_getElem? (i := 878) (by decide +kernel)⟩
theorem lw_p76 : lw_okq (⟨"PointsOfficeModel", "reckon", "()V"⟩, 26) := ⟨⟨by decide +kernel, by decide +kernel⟩, List.mem_of_getElem? (i := 677) (by decide +kernel), List.mem_of_getElem? (i := 881) (by decide +kernel), List.mem_of_getElem? (i := 882) (by decide +kernel)⟩
theorem lw_p77 : lw_okq (⟨"PointsOfficeModel", "of", "(II)I"⟩, 26) := ⟨⟨by decide +kernel, by decide +kernel⟩, List.mem_of_getElem? (i := 677) (by decide +kernel), List.mem_of_getElem? (i := 885) (by decide +kernel), List.mem_of_getElem? (i := 886) (by decide +kernel)⟩
theorem lw_p78 : lw_okq (⟨"PointsOfficeModel", "convicts", "(I)V"⟩, 26) := ⟨⟨by decide +kernel, by decide +kernel⟩, List.mem_of_getElem? (i := 677) (by decide +kernel), List.mem_of_getElem? (i := 889) (by decide +kernel), List.mem_of_getElem? (i := 890) (by decide +kernel)⟩
theorem lw_p79 : lw_okq (⟨"PointsOfficeModel", "isBanned", "(II)Z"⟩, 26) := ⟨⟨by decide +kernel, by decide +kernel⟩, List.mem_of_getElem? (i := 677) (by decide +kernel), List.mem_of_getElem? (i := 893) (by decide +kernel), List.mem_of_getElem? (i := 894) (by decide +kernel)⟩
def lw_privs_5 : List (MethodName × Nat) := [(⟨"PointsOfficeModel", "letterAt", "(I)I"⟩, 26), (⟨"PointsOfficeModel", "item", "(I)I"⟩, 26), (⟨"PointsOfficeModel", "ruleItem", "(III)I"⟩, 26), (⟨"PointsOfficeModel", "number", "(II)I"⟩, 26), (⟨"PointsOfficeModel", "staysItem", "()I"⟩, 26), (⟨"PointsOfficeModel", "codeItem", "()I"⟩, 26), (⟨"PointsOfficeModel", "ends", "()I"⟩, 26), (⟨"PointsOfficeModel", "ruleOf", "(I)I"⟩, 26), (⟨"PointsOfficeModel", "note", "()V"⟩, 26), (⟨"PointsOfficeModel", "isCode", "(I)Z"⟩, 26), (⟨"PointsOfficeModel", "comes", "(IIIII)V"⟩, 26), (⟨"PointsOfficeModel", "know", "()V"⟩, 26), (⟨"PointsOfficeModel", "reckon", "()V"⟩, 26), (⟨"PointsOfficeModel", "of", "(II)I"⟩, 26), (⟨"PointsOfficeModel", "convicts", "(I)V"⟩, 26), (⟨"PointsOfficeModel", "isBanned", "(II)Z"⟩, 26)]
theorem lw_r5 : ∀ q ∈ lw_privs_5, lw_okq q := List.forall_mem_cons.mpr ⟨lw_p64, List.forall_mem_cons.mpr ⟨lw_p65, List.forall_mem_cons.mpr ⟨lw_p66, List.forall_mem_cons.mpr ⟨lw_p67, List.forall_mem_cons.mpr ⟨lw_p68, List.forall_mem_cons.mpr ⟨lw_p69, List.forall_mem_cons.mpr ⟨lw_p70, List.forall_mem_cons.mpr ⟨lw_p71, List.forall_mem_cons.mpr ⟨lw_p72, List.forall_mem_cons.mpr ⟨lw_p73, List.forall_mem_cons.mpr ⟨lw_p74, List.forall_mem_cons.mpr ⟨lw_p75, List.forall_mem_cons.mpr ⟨lw_p76, List.forall_mem_cons.mpr ⟨lw_p77, List.forall_mem_cons.mpr ⟨lw_p78, List.forall_mem_cons.mpr ⟨lw_p79, fun _ h => absurd h List.not_mem_nil⟩⟩⟩⟩⟩⟩⟩⟩⟩⟩⟩⟩⟩⟩⟩⟩
theorem lw_p80 : lw_okq (⟨"PointsOfficeModel", "lastOf", "(I)I"⟩, 26) := ⟨⟨by decide +kernel, by decide +kernel⟩, List.mem_of_getElem? (i := 677) (by decide +kernel), List.mem_of_getElem? (i := 897) (by decide +kernel), List.mem_of_getElem? (i := 898) (by decide +kernel)⟩
theorem lw_p81 : lw_okq (⟨"PointsOfficeModel", "gives", "(IIIII)V"⟩, 26) := ⟨⟨by decide +kernel, by decide +kernel⟩, List.mem_of_getElem? (i := 677) (by decide +kernel), List.mem_of_getElem? (i := 901) (by decide +kernel), List.mem_of_getElem? (i := 902) (by decide +kernel)⟩
theorem lw_p82 : lw_okq (⟨"PointsOfficeModel", "mostOf", "(III)I"⟩, 26) := ⟨⟨by decide +kernel, by decide +kernel⟩, List.mem_of_getElem? (i := 677) (by decide +kernel), List.mem_of_getElem? (i := 905) (by decide +kernel), List.mem_of_getElem? (i := 906) (by decide +kernel)⟩
theorem lw_p83 : lw_okq (⟨"PointsOfficeModel", "countOf", "(I)I"⟩, 26) := ⟨⟨by decide +kernel, by decide +kernel⟩, List.mem_of_getElem? (i := 677) (by decide +kernel), List.mem_of_getElem? (i := 910) (by decide +kernel), List.mem_of_getElem? (i := 911) (by decide +kernel)⟩
theorem lw_p84 : lw_okq (⟨"PointsOfficeModel", "greatOnes", "(II)I"⟩, 26) := ⟨⟨by decide +kernel, by decide +kernel⟩, List.mem_of_getElem? (i := 677) (by decide +kernel), List.mem_of_getElem? (i := 914) (by decide +kernel), List.mem_of_getElem? (i := 915) (by decide +kernel)⟩
theorem lw_p85 : lw_okq (⟨"PointsOfficeModel", "beginOf", "(II)I"⟩, 26) := ⟨⟨by decide +kernel, by decide +kernel⟩, List.mem_of_getElem? (i := 677) (by decide +kernel), List.mem_of_getElem? (i := 918) (by decide +kernel), List.mem_of_getElem? (i := 919) (by decide +kernel)⟩
theorem lw_p86 : lw_okq (⟨"PointsOfficeModel", "shortens", "(I)V"⟩, 26) := ⟨⟨by decide +kernel, by decide +kernel⟩, List.mem_of_getElem? (i := 677) (by decide +kernel), List.mem_of_getElem? (i := 922) (by decide +kernel), List.mem_of_getElem? (i := 923) (by decide +kernel)⟩
theorem lw_p87 : lw_okq (⟨"PointsOfficeModel", "toShorten", "(II)I"⟩, 26) := ⟨⟨by decide +kernel, by decide +kernel⟩, List.mem_of_getElem? (i := 677) (by decide +kernel), List.mem_of_getElem? (i := 926) (by decide +kernel), List.mem_of_getElem? (i := 927) (by decide +kernel)⟩
theorem lw_p88 : lw_okq (⟨"PointsOfficeModel", "wasLight", "(I)Z"⟩, 26) := ⟨⟨by decide +kernel, by decide +kernel⟩, List.mem_of_getElem? (i := 677) (by decide +kernel), List.mem_of_getElem? (i := 930) (by decide +kernel), List.mem_of_getElem? (i := 931) (by decide +kernel)⟩
theorem lw_p89 : lw_okq (⟨"PointsOfficeModel", "isConviction", "(I)Z"⟩, 26) := ⟨⟨by decide +kernel, by decide +kernel⟩, List.mem_of_getElem? (i := 677) (by decide +kernel), List.mem_of_getElem? (i := 938) (by decide +kernel), List.mem_of_getElem? (i := 939) (by decide +kernel)⟩
theorem lw_p90 : lw_okq (⟨"PointsOfficeModel", "isEvent", "(I)Z"⟩, 26) := ⟨⟨by decide +kernel, by decide +kernel⟩, List.mem_of_getElem? (i := 677) (by decide +kernel), List.mem_of_getElem? (i := 942) (by decide +kernel), List.mem_of_getElem? (i := 943) (by decide +kernel)⟩
theorem lw_p91 : lw_okq (⟨"PointsOfficeModel", "retell", "(III)I"⟩, 26) := ⟨⟨by decide +kernel, by decide +kernel⟩, List.mem_of_getElem? (i := 677) (by decide +kernel), List.mem_of_getElem? (i := 946) (by decide +kernel), List.mem_of_getElem? (i := 947) (by decide +kernel)⟩
theorem lw_p92 : lw_okq (⟨"PointsOfficeModel", "daysOf", "(I)I"⟩, 26) := ⟨⟨by decide +kernel, by decide +kernel⟩, List.mem_of_getElem? (i := 677) (by decide +kernel), List.mem_of_getElem? (i := 950) (by decide +kernel), List.mem_of_getElem? (i := 951) (by decide +kernel)⟩
theorem lw_p93 : lw_okq (⟨"PointsOfficeModel", "endOf", "(I)I"⟩, 26) := ⟨⟨by decide +kernel, by decide +kernel⟩, List.mem_of_getElem? (i := 677) (by decide +kernel), List.mem_of_getElem? (i := 954) (by decide +kernel), List.mem_of_getElem? (i := 955) (by decide +kernel)⟩
theorem lw_p94 : lw_okq (⟨"PointsOfficeModel", "daysFrom", "(III)I"⟩, 26) := ⟨⟨by decide +kernel, by decide +kernel⟩, List.mem_of_getElem? (i := 677) (by decide +kernel), List.mem_of_getElem? (i := 958) (by decide +kernel), List.mem_of_getElem? (i := 959) (by decide +kernel)⟩
theorem lw_p95 : lw_okq (⟨"PointsOfficeModel", "banAt", "(II)I"⟩, 26) := ⟨⟨by decide +kernel, by decide +kernel⟩, List.mem_of_getElem? (i := 677) (by decide +kernel), List.mem_of_getElem? (i := 1023) (by decide +kernel), List.mem_of_getElem? (i := 1024) (by decide +kernel)⟩
def lw_privs_6 : List (MethodName × Nat) := [(⟨"PointsOfficeModel", "lastOf", "(I)I"⟩, 26), (⟨"PointsOfficeModel", "gives", "(IIIII)V"⟩, 26), (⟨"PointsOfficeModel", "mostOf", "(III)I"⟩, 26), (⟨"PointsOfficeModel", "countOf", "(I)I"⟩, 26), (⟨"PointsOfficeModel", "greatOnes", "(II)I"⟩, 26), (⟨"PointsOfficeModel", "beginOf", "(II)I"⟩, 26), (⟨"PointsOfficeModel", "shortens", "(I)V"⟩, 26), (⟨"PointsOfficeModel", "toShorten", "(II)I"⟩, 26), (⟨"PointsOfficeModel", "wasLight", "(I)Z"⟩, 26), (⟨"PointsOfficeModel", "isConviction", "(I)Z"⟩, 26), (⟨"PointsOfficeModel", "isEvent", "(I)Z"⟩, 26), (⟨"PointsOfficeModel", "retell", "(III)I"⟩, 26), (⟨"PointsOfficeModel", "daysOf", "(I)I"⟩, 26), (⟨"PointsOfficeModel", "endOf", "(I)I"⟩, 26), (⟨"PointsOfficeModel", "daysFrom", "(III)I"⟩, 26), (⟨"PointsOfficeModel", "banAt", "(II)I"⟩, 26)]
theorem lw_r6 : ∀ q ∈ lw_privs_6, lw_okq q := List.forall_mem_cons.mpr ⟨lw_p80, List.forall_mem_cons.mpr ⟨lw_p81, List.forall_mem_cons.mpr ⟨lw_p82, List.forall_mem_cons.mpr ⟨lw_p83, List.forall_mem_cons.mpr ⟨lw_p84, List.forall_mem_cons.mpr ⟨lw_p85, List.forall_mem_cons.mpr ⟨lw_p86, List.forall_mem_cons.mpr ⟨lw_p87, List.forall_mem_cons.mpr ⟨lw_p88, List.forall_mem_cons.mpr ⟨lw_p89, List.forall_mem_cons.mpr ⟨lw_p90, List.forall_mem_cons.mpr ⟨lw_p91, List.forall_mem_cons.mpr ⟨lw_p92, List.forall_mem_cons.mpr ⟨lw_p93, List.forall_mem_cons.mpr ⟨lw_p94, List.forall_mem_cons.mpr ⟨lw_p95, fun _ h => absurd h List.not_mem_nil⟩⟩⟩⟩⟩⟩⟩⟩⟩⟩⟩⟩⟩⟩⟩⟩
theorem lw_p96 : lw_okq (⟨"PointsOfficeModel", "isSeen", "(II)Z"⟩, 26) := ⟨⟨by decide +kernel, by decide +kernel⟩, List.mem_of_getElem? (i := 677) (by decide +kernel), List.mem_of_getElem? (i := 1032) (by decide +kernel), List.mem_of_getElem? (i := 1033) (by decide +kernel)⟩
def lw_privs_7 : List (MethodName × Nat) := [(⟨"PointsOfficeModel", "isSeen", "(II)Z"⟩, 26)]
theorem lw_r7 : ∀ q ∈ lw_privs_7, lw_okq q := List.forall_mem_cons.mpr ⟨lw_p96, fun _ h => absurd h List.not_mem_nil⟩
def lw_privs : List (MethodName × Nat) := lw_privs_1 ++ (lw_privs_2 ++ (lw_privs_3 ++ (lw_privs_4 ++ (lw_privs_5 ++ (lw_privs_6 ++ (lw_privs_7))))))
def lw_tbl : List Cond := k2_sels lw_privs ++ tables_1
theorem lw_privs_ok : ∀ q ∈ lw_privs, lw_okq q := by
  show ∀ q ∈ lw_privs_1 ++ (lw_privs_2 ++ (lw_privs_3 ++ (lw_privs_4 ++ (lw_privs_5 ++ (lw_privs_6 ++ (lw_privs_7)))))), lw_okq q
  exact List.forall_mem_append.mpr ⟨lw_r1, List.forall_mem_append.mpr ⟨lw_r2, List.forall_mem_append.mpr ⟨lw_r3, List.forall_mem_append.mpr ⟨lw_r4, List.forall_mem_append.mpr ⟨lw_r5, List.forall_mem_append.mpr ⟨lw_r6, lw_r7⟩⟩⟩⟩⟩⟩
theorem goodIn_r {big : List Cond} (ws : List Cond) (ps : List Nat) (hp : ws = ps.filterMap (fun i => big[i]?)) (h : ws.all goodWord = true) : GoodIn big ws := by
  intro w hw
  have h1 := List.all_eq_true.mp h w hw
  rw [hp] at hw
  obtain ⟨i, -, hi⟩ := List.mem_filterMap.mp hw
  have hm : w ∈ big := by first | exact List.mem_of_getElem? hi | exact List.getElem?_mem hi
  exact ⟨hm, good_of_word h1⟩
theorem goodIn_app {big a b : List Cond} (ha : GoodIn big a) (hb : GoodIn big b) : GoodIn big (a ++ b) := fun w h => (List.mem_append.mp h).elim (ha w) (hb w)
theorem goodIn_ca {big a b : List Cond} {c : Cond} (ha : GoodIn big (c :: a)) (hb : GoodIn big b) : GoodIn big (c :: (a ++ b)) := fun w h => (List.mem_cons.mp h).elim (fun e => ha w (List.mem_cons.mpr (Or.inl e))) (fun h => (List.mem_append.mp h).elim (fun h => ha w (List.mem_cons.mpr (Or.inr h))) (hb w))
theorem goodIn_sub {big ws : List Cond} (hm : ∀ w ∈ ws, w ∈ big) (h : ws.all goodWord = true) : GoodIn big ws := fun w hw => ⟨hm w hw, good_of_word (List.all_eq_true.mp h w hw)⟩
def RX0 : String := "PointsOffice$Bans"
def TX0 : u_T := fun k => match k with
  | 0 => ("PointsOffice$Bans", "driver", "[I", true)
  | 1 => ("PointsOffice$Bans", "first", "[I", true)
  | 2 => ("PointsOffice$Bans", "last", "[I", true)
  | 3 => ("PointsOffice$Bans", "conviction", "[I", true)
  | 4 => ("PointsOffice$Bans", "givenOn", "[I", true)
  | 5 => ("PointsOffice$Bans", "great", "[I", true)
  | 6 => ("PointsOffice$Bans", "shortened", "[I", true)
  | _ => ("PointsOffice$Bans", "size", "I", false)
def tyX0 : Nat → FieldType := fun k => match k with
  | 0 => .array .int
  | 1 => .array .int
  | 2 => .array .int
  | 3 => .array .int
  | 4 => .array .int
  | 5 => .array .int
  | 6 => .array .int
  | _ => .int
theorem nmX0 : ∀ a, a < 8 → ∀ b, b < 8 → a ≠ b → (TX0 a).2.1 ≠ (TX0 b).2.1 := by decide +kernel
theorem tyX0_ok : ∀ k, k < 8 → parseFieldDescriptor (TX0 k).2.2.1 = some (tyX0 k) := by decide +kernel
abbrev cX0_init : ByteArray := prog_2_method_1_code
def yX0_init : MethodName := ⟨RX0, "<init>", "()V"⟩
abbrev cX0_add : ByteArray := prog_2_method_2_code
def yX0_add : MethodName := ⟨RX0, "add", "(IIIIII)V"⟩
abbrev cX0_has : ByteArray := prog_2_method_3_code
def yX0_has : MethodName := ⟨RX0, "has", "(III)Z"⟩
abbrev cX0_hold : ByteArray := prog_2_method_4_code
def yX0_hold : MethodName := ⟨RX0, "hold", "(II)Z"⟩
abbrev cX0_firstFree : ByteArray := prog_2_method_5_code
def yX0_firstFree : MethodName := ⟨RX0, "firstFree", "(II)I"⟩
abbrev cX0_dayBehindBansOn : ByteArray := prog_2_method_6_code
def yX0_dayBehindBansOn : MethodName := ⟨RX0, "dayBehindBansOn", "(II)I"⟩
abbrev cX0_daysBetween : ByteArray := prog_2_method_7_code
def yX0_daysBetween : MethodName := ⟨RX0, "daysBetween", "(III)I"⟩
abbrev cX0_nextFirstDay : ByteArray := prog_2_method_8_code
def yX0_nextFirstDay : MethodName := ⟨RX0, "nextFirstDay", "(III)I"⟩
abbrev cX0_latestDay : ByteArray := prog_2_method_9_code
def yX0_latestDay : MethodName := ⟨RX0, "latestDay", "(I)I"⟩
abbrev cX0_greatSince : ByteArray := prog_2_method_10_code
def yX0_greatSince : MethodName := ⟨RX0, "greatSince", "(II)I"⟩
abbrev cX0_toShorten : ByteArray := prog_2_method_11_code
def yX0_toShorten : MethodName := ⟨RX0, "toShorten", "(II)I"⟩
abbrev cX0_shorten : ByteArray := prog_2_method_12_code
def yX0_shorten : MethodName := ⟨RX0, "shorten", "(II)V"⟩
abbrev cX0_givenTo : ByteArray := prog_2_method_13_code
def yX0_givenTo : MethodName := ⟨RX0, "givenTo", "(I)I"⟩
abbrev cX0_placeOf : ByteArray := prog_2_method_14_code
def yX0_placeOf : MethodName := ⟨RX0, "placeOf", "(II)I"⟩
abbrev cX0_tellOf : ByteArray := prog_2_method_15_code
def yX0_tellOf : MethodName := ⟨RX0, "tellOf", "(II)I"⟩
def RX1 : String := "PointsOffice$Changes"
def TX1 : u_T := fun k => match k with
  | 0 => ("PointsOffice$Changes", "kind", "[I", true)
  | 1 => ("PointsOffice$Changes", "where", "[I", true)
  | 2 => ("PointsOffice$Changes", "was", "[I", true)
  | 3 => ("PointsOffice$Changes", "size", "I", false)
  | 4 => ("PointsOffice$Changes", "droppedKind", "I", false)
  | 5 => ("PointsOffice$Changes", "droppedWhere", "I", false)
  | _ => ("PointsOffice$Changes", "droppedWas", "I", false)
def tyX1 : Nat → FieldType := fun k => match k with
  | 0 => .array .int
  | 1 => .array .int
  | 2 => .array .int
  | 3 => .int
  | 4 => .int
  | 5 => .int
  | _ => .int
theorem nmX1 : ∀ a, a < 7 → ∀ b, b < 7 → a ≠ b → (TX1 a).2.1 ≠ (TX1 b).2.1 := by decide +kernel
theorem tyX1_ok : ∀ k, k < 7 → parseFieldDescriptor (TX1 k).2.2.1 = some (tyX1 k) := by decide +kernel
abbrev cX1_init : ByteArray := prog_3_method_1_code
def yX1_init : MethodName := ⟨RX1, "<init>", "()V"⟩
abbrev cX1_note : ByteArray := prog_3_method_2_code
def yX1_note : MethodName := ⟨RX1, "note", "(III)V"⟩
abbrev cX1_forgetOldest : ByteArray := prog_3_method_3_code
def yX1_forgetOldest : MethodName := ⟨RX1, "forgetOldest", "()V"⟩
abbrev cX1_dropLast : ByteArray := prog_3_method_4_code
def yX1_dropLast : MethodName := ⟨RX1, "dropLast", "()Z"⟩
def RX2 : String := "PointsOffice$Events"
def TX2 : u_T := fun k => match k with
  | 0 => ("PointsOffice$Events", "driver", "[I", true)
  | 1 => ("PointsOffice$Events", "day", "[I", true)
  | 2 => ("PointsOffice$Events", "kind", "[I", true)
  | 3 => ("PointsOffice$Events", "offence", "[I", true)
  | 4 => ("PointsOffice$Events", "code", "[I", true)
  | 5 => ("PointsOffice$Events", "points", "[I", true)
  | 6 => ("PointsOffice$Events", "special", "[I", true)
  | 7 => ("PointsOffice$Events", "struck", "[I", true)
  | 8 => ("PointsOffice$Events", "twice", "[I", true)
  | 9 => ("PointsOffice$Events", "spent", "[I", true)
  | 10 => ("PointsOffice$Events", "idle", "[I", true)
  | 11 => ("PointsOffice$Events", "weight", "[I", true)
  | _ => ("PointsOffice$Events", "size", "I", false)
def tyX2 : Nat → FieldType := fun k => match k with
  | 0 => .array .int
  | 1 => .array .int
  | 2 => .array .int
  | 3 => .array .int
  | 4 => .array .int
  | 5 => .array .int
  | 6 => .array .int
  | 7 => .array .int
  | 8 => .array .int
  | 9 => .array .int
  | 10 => .array .int
  | 11 => .array .int
  | _ => .int
theorem nmX2 : ∀ a, a < 13 → ∀ b, b < 13 → a ≠ b → (TX2 a).2.1 ≠ (TX2 b).2.1 := by decide +kernel
theorem tyX2_ok : ∀ k, k < 13 → parseFieldDescriptor (TX2 k).2.2.1 = some (tyX2 k) := by decide +kernel
abbrev cX2_init : ByteArray := prog_4_method_1_code
def yX2_init : MethodName := ⟨RX2, "<init>", "()V"⟩
abbrev cX2_isThere : ByteArray := prog_4_method_2_code
def yX2_isThere : MethodName := ⟨RX2, "isThere", "(I)Z"⟩
abbrev cX2_isConviction : ByteArray := prog_4_method_3_code
def yX2_isConviction : MethodName := ⟨RX2, "isConviction", "(I)Z"⟩
abbrev cX2_addConviction : ByteArray := prog_4_method_4_code
def yX2_addConviction : MethodName := ⟨RX2, "addConviction", "(IIIIII)V"⟩
abbrev cX2_addCourse : ByteArray := prog_4_method_5_code
def yX2_addCourse : MethodName := ⟨RX2, "addCourse", "(III)V"⟩
abbrev cX2_dropLast : ByteArray := prog_4_method_6_code
def yX2_dropLast : MethodName := ⟨RX2, "dropLast", "()V"⟩
abbrev cX2_hasLightAfter : ByteArray := prog_4_method_7_code
def yX2_hasLightAfter : MethodName := ⟨RX2, "hasLightAfter", "(II)Z"⟩
abbrev cX2_tell : ByteArray := prog_4_method_8_code
def yX2_tell : MethodName := ⟨RX2, "tell", "(III)I"⟩
abbrev cX2_swap : ByteArray := prog_4_method_9_code
def yX2_swap : MethodName := ⟨RX2, "swap", "([III)I"⟩
abbrev cX2_tellOf : ByteArray := prog_4_method_10_code
def yX2_tellOf : MethodName := ⟨RX2, "tellOf", "(II)I"⟩
abbrev cX2_tellOfConviction : ByteArray := prog_4_method_11_code
def yX2_tellOfConviction : MethodName := ⟨RX2, "tellOfConviction", "(II)I"⟩
abbrev cX2_clearMarks : ByteArray := prog_4_method_12_code
def yX2_clearMarks : MethodName := ⟨RX2, "clearMarks", "(I)V"⟩
abbrev cX2_spend : ByteArray := prog_4_method_13_code
def yX2_spend : MethodName := ⟨RX2, "spend", "(II)V"⟩
abbrev cX2_weigh : ByteArray := prog_4_method_14_code
def yX2_weigh : MethodName := ⟨RX2, "weigh", "(IIII)I"⟩
def RX3 : String := "PointsOffice$Reckoner"
def TX3 : u_T := fun k => match k with
  | 0 => ("PointsOffice$Reckoner", "rules", "LPointsOffice$Rules;", true)
  | 1 => ("PointsOffice$Reckoner", "events", "LPointsOffice$Events;", true)
  | 2 => ("PointsOffice$Reckoner", "bans", "LPointsOffice$Bans;", true)
  | _ => ("PointsOffice$Reckoner", "soFar", "I", false)
def tyX3 : Nat → FieldType := fun k => match k with
  | 0 => .object "PointsOffice$Rules"
  | 1 => .object "PointsOffice$Events"
  | 2 => .object "PointsOffice$Bans"
  | _ => .int
theorem nmX3 : ∀ a, a < 4 → ∀ b, b < 4 → a ≠ b → (TX3 a).2.1 ≠ (TX3 b).2.1 := by decide +kernel
theorem tyX3_ok : ∀ k, k < 4 → parseFieldDescriptor (TX3 k).2.2.1 = some (tyX3 k) := by decide +kernel
abbrev cX3_init : ByteArray := prog_5_method_1_code
def yX3_init : MethodName := ⟨RX3, "<init>", "(LPointsOffice$Rules;LPointsOffice$Events;LPointsOffice$Bans;)V"⟩
abbrev cX3_reckonAll : ByteArray := prog_5_method_2_code
def yX3_reckonAll : MethodName := ⟨RX3, "reckonAll", "()V"⟩
abbrev cX3_reckonNext : ByteArray := prog_5_method_3_code
def yX3_reckonNext : MethodName := ⟨RX3, "reckonNext", "()V"⟩
abbrev cX3_reckonLong : ByteArray := prog_5_method_4_code
def yX3_reckonLong : MethodName := ⟨RX3, "reckonLong", "(I)V"⟩
abbrev cX3_reckonConviction : ByteArray := prog_5_method_5_code
def yX3_reckonConviction : MethodName := ⟨RX3, "reckonConviction", "(I)V"⟩
abbrev cX3_giveGreatBan : ByteArray := prog_5_method_6_code
def yX3_giveGreatBan : MethodName := ⟨RX3, "giveGreatBan", "(III)V"⟩
abbrev cX3_heaviest : ByteArray := prog_5_method_7_code
def yX3_heaviest : MethodName := ⟨RX3, "heaviest", "(II)I"⟩
def RX4 : String := "PointsOffice$RuleText"
def TX4 : u_T := fun k => match k with
  | 0 => ("PointsOffice$RuleText", "letters", "[I", true)
  | 1 => ("PointsOffice$RuleText", "length", "I", false)
  | 2 => ("PointsOffice$RuleText", "at", "I", false)
  | 3 => ("PointsOffice$RuleText", "place", "I", false)
  | _ => ("PointsOffice$RuleText", "why", "I", false)
def tyX4 : Nat → FieldType := fun k => match k with
  | 0 => .array .int
  | 1 => .int
  | 2 => .int
  | 3 => .int
  | _ => .int
theorem nmX4 : ∀ a, a < 5 → ∀ b, b < 5 → a ≠ b → (TX4 a).2.1 ≠ (TX4 b).2.1 := by decide +kernel
theorem tyX4_ok : ∀ k, k < 5 → parseFieldDescriptor (TX4 k).2.2.1 = some (tyX4 k) := by decide +kernel
abbrev cX4_init : ByteArray := prog_6_method_1_code
def yX4_init : MethodName := ⟨RX4, "<init>", "()V"⟩
abbrev cX4_add : ByteArray := prog_6_method_2_code
def yX4_add : MethodName := ⟨RX4, "add", "(I)Z"⟩
abbrev cX4_clear : ByteArray := prog_6_method_3_code
def yX4_clear : MethodName := ⟨RX4, "clear", "()V"⟩
abbrev cX4_readInto : ByteArray := prog_6_method_4_code
def yX4_readInto : MethodName := ⟨RX4, "readInto", "(LPointsOffice$Rules;)V"⟩
abbrev cX4_readItem : ByteArray := prog_6_method_5_code
def yX4_readItem : MethodName := ⟨RX4, "readItem", "(LPointsOffice$Rules;)V"⟩
abbrev cX4_peek : ByteArray := prog_6_method_6_code
def yX4_peek : MethodName := ⟨RX4, "peek", "()I"⟩
abbrev cX4_readRule : ByteArray := prog_6_method_7_code
def yX4_readRule : MethodName := ⟨RX4, "readRule", "(LPointsOffice$Rules;II)V"⟩
abbrev cX4_readCode : ByteArray := prog_6_method_8_code
def yX4_readCode : MethodName := ⟨RX4, "readCode", "(LPointsOffice$Rules;)V"⟩
abbrev cX4_readNumber : ByteArray := prog_6_method_9_code
def yX4_readNumber : MethodName := ⟨RX4, "readNumber", "(I)I"⟩
abbrev cX4_readEnd : ByteArray := prog_6_method_10_code
def yX4_readEnd : MethodName := ⟨RX4, "readEnd", "()V"⟩
def RX5 : String := "PointsOffice$Rules"
def TX5 : u_T := fun k => match k with
  | 0 => ("PointsOffice$Rules", "numbers", "[I", true)
  | 1 => ("PointsOffice$Rules", "codePoints", "[I", true)
  | 2 => ("PointsOffice$Rules", "codeBans", "[I", true)
  | _ => ("PointsOffice$Rules", "codes", "I", false)
def tyX5 : Nat → FieldType := fun k => match k with
  | 0 => .array .int
  | 1 => .array .int
  | 2 => .array .int
  | _ => .int
theorem nmX5 : ∀ a, a < 4 → ∀ b, b < 4 → a ≠ b → (TX5 a).2.1 ≠ (TX5 b).2.1 := by decide +kernel
theorem tyX5_ok : ∀ k, k < 4 → parseFieldDescriptor (TX5 k).2.2.1 = some (tyX5 k) := by decide +kernel
abbrev cX5_init : ByteArray := prog_7_method_1_code
def yX5_init : MethodName := ⟨RX5, "<init>", "()V"⟩
abbrev cX5_reset : ByteArray := prog_7_method_2_code
def yX5_reset : MethodName := ⟨RX5, "reset", "()V"⟩
abbrev cX5_copy : ByteArray := prog_7_method_3_code
def yX5_copy : MethodName := ⟨RX5, "copy", "(LPointsOffice$Rules;)V"⟩
abbrev cX5_isRule : ByteArray := prog_7_method_4_code
def yX5_isRule : MethodName := ⟨RX5, "isRule", "(I)Z"⟩
abbrev cX5_allows : ByteArray := prog_7_method_5_code
def yX5_allows : MethodName := ⟨RX5, "allows", "(II)Z"⟩
abbrev cX5_get : ByteArray := prog_7_method_6_code
def yX5_get : MethodName := ⟨RX5, "get", "(I)I"⟩
abbrev cX5_put : ByteArray := prog_7_method_7_code
def yX5_put : MethodName := ⟨RX5, "put", "(II)V"⟩
abbrev cX5_hasCode : ByteArray := prog_7_method_8_code
def yX5_hasCode : MethodName := ⟨RX5, "hasCode", "(I)Z"⟩
abbrev cX5_pointsOf : ByteArray := prog_7_method_9_code
def yX5_pointsOf : MethodName := ⟨RX5, "pointsOf", "(I)I"⟩
abbrev cX5_ownBanOf : ByteArray := prog_7_method_10_code
def yX5_ownBanOf : MethodName := ⟨RX5, "ownBanOf", "(I)I"⟩
abbrev cX5_addCode : ByteArray := prog_7_method_11_code
def yX5_addCode : MethodName := ⟨RX5, "addCode", "(II)V"⟩
def RX6 : String := "PointsOffice"
def TX6 : u_T := fun k => match k with
  | 0 => ("PointsOffice", "text", "LPointsOffice$RuleText;", true)
  | 1 => ("PointsOffice", "rules", "LPointsOffice$Rules;", true)
  | 2 => ("PointsOffice", "draft", "LPointsOffice$Rules;", true)
  | 3 => ("PointsOffice", "events", "LPointsOffice$Events;", true)
  | 4 => ("PointsOffice", "bans", "LPointsOffice$Bans;", true)
  | 5 => ("PointsOffice", "reckoner", "LPointsOffice$Reckoner;", true)
  | 6 => ("PointsOffice", "changes", "LPointsOffice$Changes;", true)
  | _ => ("PointsOffice", "today", "I", false)
def tyX6 : Nat → FieldType := fun k => match k with
  | 0 => .object "PointsOffice$RuleText"
  | 1 => .object "PointsOffice$Rules"
  | 2 => .object "PointsOffice$Rules"
  | 3 => .object "PointsOffice$Events"
  | 4 => .object "PointsOffice$Bans"
  | 5 => .object "PointsOffice$Reckoner"
  | 6 => .object "PointsOffice$Changes"
  | _ => .int
theorem nmX6 : ∀ a, a < 8 → ∀ b, b < 8 → a ≠ b → (TX6 a).2.1 ≠ (TX6 b).2.1 := by decide +kernel
theorem tyX6_ok : ∀ k, k < 8 → parseFieldDescriptor (TX6 k).2.2.1 = some (tyX6 k) := by decide +kernel
abbrev cX6_init : ByteArray := prog_1_method_1_code
def yX6_init : MethodName := ⟨RX6, "<init>", "()V"⟩
abbrev cX6_write : ByteArray := prog_1_method_2_code
def yX6_write : MethodName := ⟨RX6, "write", "(I)I"⟩
abbrev cX6_wipe : ByteArray := prog_1_method_3_code
def yX6_wipe : MethodName := ⟨RX6, "wipe", "()I"⟩
abbrev cX6_fault : ByteArray := prog_1_method_4_code
def yX6_fault : MethodName := ⟨RX6, "fault", "()I"⟩
abbrev cX6_reason : ByteArray := prog_1_method_5_code
def yX6_reason : MethodName := ⟨RX6, "reason", "()I"⟩
abbrev cX6_lay : ByteArray := prog_1_method_6_code
def yX6_lay : MethodName := ⟨RX6, "lay", "()I"⟩
abbrev cX6_rule : ByteArray := prog_1_method_7_code
def yX6_rule : MethodName := ⟨RX6, "rule", "(II)I"⟩
abbrev cX6_code : ByteArray := prog_1_method_8_code
def yX6_code : MethodName := ⟨RX6, "code", "(II)I"⟩
abbrev cX6_pass : ByteArray := prog_1_method_9_code
def yX6_pass : MethodName := ⟨RX6, "pass", "(I)I"⟩
abbrev cX6_convict : ByteArray := prog_1_method_10_code
def yX6_convict : MethodName := ⟨RX6, "convict", "(IIII)I"⟩
abbrev cX6_course : ByteArray := prog_1_method_11_code
def yX6_course : MethodName := ⟨RX6, "course", "(II)I"⟩
abbrev cX6_strike : ByteArray := prog_1_method_12_code
def yX6_strike : MethodName := ⟨RX6, "strike", "(I)I"⟩
abbrev cX6_lower : ByteArray := prog_1_method_13_code
def yX6_lower : MethodName := ⟨RX6, "lower", "(II)I"⟩
abbrev cX6_redate : ByteArray := prog_1_method_14_code
def yX6_redate : MethodName := ⟨RX6, "redate", "(II)I"⟩
abbrev cX6_excuse : ByteArray := prog_1_method_15_code
def yX6_excuse : MethodName := ⟨RX6, "excuse", "(I)I"⟩
abbrev cX6_undo : ByteArray := prog_1_method_16_code
def yX6_undo : MethodName := ⟨RX6, "undo", "()I"⟩
abbrev cX6_year : ByteArray := prog_1_method_17_code
def yX6_year : MethodName := ⟨RX6, "year", "(II)I"⟩
abbrev cX6_event : ByteArray := prog_1_method_18_code
def yX6_event : MethodName := ⟨RX6, "event", "(II)I"⟩
abbrev cX6_sum : ByteArray := prog_1_method_19_code
def yX6_sum : MethodName := ⟨RX6, "sum", "(II)I"⟩
abbrev cX6_need : ByteArray := prog_1_method_20_code
def yX6_need : MethodName := ⟨RX6, "need", "(I)I"⟩
abbrev cX6_would : ByteArray := prog_1_method_21_code
def yX6_would : MethodName := ⟨RX6, "would", "(III)I"⟩
abbrev cX6_banned : ByteArray := prog_1_method_22_code
def yX6_banned : MethodName := ⟨RX6, "banned", "(II)I"⟩
abbrev cX6_days : ByteArray := prog_1_method_23_code
def yX6_days : MethodName := ⟨RX6, "days", "(III)I"⟩
abbrev cX6_free : ByteArray := prog_1_method_24_code
def yX6_free : MethodName := ⟨RX6, "free", "(I)I"⟩
abbrev cX6_ban : ByteArray := prog_1_method_25_code
def yX6_ban : MethodName := ⟨RX6, "ban", "(III)I"⟩
abbrev cX6_seen : ByteArray := prog_1_method_26_code
def yX6_seen : MethodName := ⟨RX6, "seen", "(III)I"⟩
abbrev cX6_count : ByteArray := prog_1_method_27_code
def yX6_count : MethodName := ⟨RX6, "count", "(I)I"⟩
abbrev cX6_isDriver : ByteArray := prog_1_method_28_code
def yX6_isDriver : MethodName := ⟨RX6, "isDriver", "(I)Z"⟩
abbrev cX6_canBeOffence : ByteArray := prog_1_method_29_code
def yX6_canBeOffence : MethodName := ⟨RX6, "canBeOffence", "(III)Z"⟩
abbrev cX6_daysInAll : ByteArray := prog_1_method_30_code
def yX6_daysInAll : MethodName := ⟨RX6, "daysInAll", "(I)I"⟩
abbrev cX6_noteNewEvent : ByteArray := prog_1_method_31_code
def yX6_noteNewEvent : MethodName := ⟨RX6, "noteNewEvent", "()I"⟩
abbrev cX6_retell : ByteArray := prog_1_method_32_code
def yX6_retell : MethodName := ⟨RX6, "retell", "(III)I"⟩
abbrev cX6_liveThrough : ByteArray := prog_1_method_33_code
def yX6_liveThrough : MethodName := ⟨RX6, "liveThrough", "(I)V"⟩
abbrev cX6_sees : ByteArray := prog_1_method_34_code
def yX6_sees : MethodName := ⟨RX6, "sees", "(II)Z"⟩
def RX7 : String := "PointsOfficeModel"
def TX7 : u_T := fun k => match k with
  | 0 => ("PointsOfficeModel", "length", "I", false)
  | 1 => ("PointsOfficeModel", "text", "[I", true)
  | 2 => ("PointsOfficeModel", "now", "[I", true)
  | 3 => ("PointsOfficeModel", "before", "[I", true)
  | 4 => ("PointsOfficeModel", "undoMany", "I", false)
  | 5 => ("PointsOfficeModel", "today", "I", false)
  | 6 => ("PointsOfficeModel", "codes", "I", false)
  | 7 => ("PointsOfficeModel", "codePoints", "[I", true)
  | 8 => ("PointsOfficeModel", "codeBan", "[I", true)
  | 9 => ("PointsOfficeModel", "readRules", "[I", true)
  | 10 => ("PointsOfficeModel", "readCodes", "I", false)
  | 11 => ("PointsOfficeModel", "readPoints", "[I", true)
  | 12 => ("PointsOfficeModel", "readBan", "[I", true)
  | 13 => ("PointsOfficeModel", "why", "I", false)
  | 14 => ("PointsOfficeModel", "spot", "I", false)
  | 15 => ("PointsOfficeModel", "isKnown", "Z", false)
  | 16 => ("PointsOfficeModel", "twice", "[I", true)
  | 17 => ("PointsOfficeModel", "spent", "[I", true)
  | 18 => ("PointsOfficeModel", "idle", "[I", true)
  | 19 => ("PointsOfficeModel", "bans", "I", false)
  | 20 => ("PointsOfficeModel", "banOf", "[I", true)
  | 21 => ("PointsOfficeModel", "first", "[I", true)
  | 22 => ("PointsOfficeModel", "size", "[I", true)
  | 23 => ("PointsOfficeModel", "by", "[I", true)
  | 24 => ("PointsOfficeModel", "great", "[I", true)
  | _ => ("PointsOfficeModel", "cut", "[I", true)
def tyX7 : Nat → FieldType := fun k => match k with
  | 0 => .int
  | 1 => .array .int
  | 2 => .array .int
  | 3 => .array .int
  | 4 => .int
  | 5 => .int
  | 6 => .int
  | 7 => .array .int
  | 8 => .array .int
  | 9 => .array .int
  | 10 => .int
  | 11 => .array .int
  | 12 => .array .int
  | 13 => .int
  | 14 => .int
  | 15 => .boolean
  | 16 => .array .int
  | 17 => .array .int
  | 18 => .array .int
  | 19 => .int
  | 20 => .array .int
  | 21 => .array .int
  | 22 => .array .int
  | 23 => .array .int
  | 24 => .array .int
  | _ => .array .int
theorem nmX7 : ∀ a, a < 26 → ∀ b, b < 26 → a ≠ b → (TX7 a).2.1 ≠ (TX7 b).2.1 := by decide +kernel
theorem tyX7_ok : ∀ k, k < 26 → parseFieldDescriptor (TX7 k).2.2.1 = some (tyX7 k) := by decide +kernel
abbrev cX7_init : ByteArray := prog_9_method_1_code
def yX7_init : MethodName := ⟨RX7, "<init>", "()V"⟩
abbrev cX7_in : ByteArray := prog_9_method_2_code
def yX7_in : MethodName := ⟨RX7, "in", "(JJJ)Z"⟩
abbrev cX7_empty : ByteArray := prog_9_method_3_code
def yX7_empty : MethodName := ⟨RX7, "empty", "()V"⟩
abbrev cX7_codeIs : ByteArray := prog_9_method_4_code
def yX7_codeIs : MethodName := ⟨RX7, "codeIs", "(II)V"⟩
abbrev cX7_write : ByteArray := prog_9_method_5_code
def yX7_write : MethodName := ⟨RX7, "write", "(I)I"⟩
abbrev cX7_wipe : ByteArray := prog_9_method_6_code
def yX7_wipe : MethodName := ⟨RX7, "wipe", "()I"⟩
abbrev cX7_letterAt : ByteArray := prog_9_method_7_code
def yX7_letterAt : MethodName := ⟨RX7, "letterAt", "(I)I"⟩
abbrev cX7_number : ByteArray := prog_9_method_8_code
def yX7_number : MethodName := ⟨RX7, "number", "(II)I"⟩
abbrev cX7_ends : ByteArray := prog_9_method_9_code
def yX7_ends : MethodName := ⟨RX7, "ends", "()I"⟩
abbrev cX7_ruleItem : ByteArray := prog_9_method_10_code
def yX7_ruleItem : MethodName := ⟨RX7, "ruleItem", "(III)I"⟩
abbrev cX7_codeItem : ByteArray := prog_9_method_11_code
def yX7_codeItem : MethodName := ⟨RX7, "codeItem", "()I"⟩
abbrev cX7_staysItem : ByteArray := prog_9_method_12_code
def yX7_staysItem : MethodName := ⟨RX7, "staysItem", "()I"⟩
abbrev cX7_item : ByteArray := prog_9_method_13_code
def yX7_item : MethodName := ⟨RX7, "item", "(I)I"⟩
abbrev cX7_readAll : ByteArray := prog_9_method_14_code
def yX7_readAll : MethodName := ⟨RX7, "readAll", "()I"⟩
abbrev cX7_fault : ByteArray := prog_9_method_15_code
def yX7_fault : MethodName := ⟨RX7, "fault", "()I"⟩
abbrev cX7_reason : ByteArray := prog_9_method_16_code
def yX7_reason : MethodName := ⟨RX7, "reason", "()I"⟩
abbrev cX7_lay : ByteArray := prog_9_method_17_code
def yX7_lay : MethodName := ⟨RX7, "lay", "()I"⟩
abbrev cX7_begin : ByteArray := prog_9_method_18_code
def yX7_begin : MethodName := ⟨RX7, "begin", "()V"⟩
abbrev cX7_isDriver : ByteArray := prog_9_method_19_code
def yX7_isDriver : MethodName := ⟨RX7, "isDriver", "(I)Z"⟩
abbrev cX7_isCode : ByteArray := prog_9_method_20_code
def yX7_isCode : MethodName := ⟨RX7, "isCode", "(I)Z"⟩
abbrev cX7_isEvent : ByteArray := prog_9_method_21_code
def yX7_isEvent : MethodName := ⟨RX7, "isEvent", "(I)Z"⟩
abbrev cX7_of : ByteArray := prog_9_method_22_code
def yX7_of : MethodName := ⟨RX7, "of", "(II)I"⟩
abbrev cX7_ruleOf : ByteArray := prog_9_method_23_code
def yX7_ruleOf : MethodName := ⟨RX7, "ruleOf", "(I)I"⟩
abbrev cX7_note : ByteArray := prog_9_method_24_code
def yX7_note : MethodName := ⟨RX7, "note", "()V"⟩
abbrev cX7_rule : ByteArray := prog_9_method_25_code
def yX7_rule : MethodName := ⟨RX7, "rule", "(II)I"⟩
abbrev cX7_code : ByteArray := prog_9_method_26_code
def yX7_code : MethodName := ⟨RX7, "code", "(II)I"⟩
abbrev cX7_pass : ByteArray := prog_9_method_27_code
def yX7_pass : MethodName := ⟨RX7, "pass", "(I)I"⟩
abbrev cX7_comes : ByteArray := prog_9_method_28_code
def yX7_comes : MethodName := ⟨RX7, "comes", "(IIIII)V"⟩
abbrev cX7_convict : ByteArray := prog_9_method_29_code
def yX7_convict : MethodName := ⟨RX7, "convict", "(IIII)I"⟩
abbrev cX7_wasLight : ByteArray := prog_9_method_30_code
def yX7_wasLight : MethodName := ⟨RX7, "wasLight", "(I)Z"⟩
abbrev cX7_course : ByteArray := prog_9_method_31_code
def yX7_course : MethodName := ⟨RX7, "course", "(II)I"⟩
abbrev cX7_isConviction : ByteArray := prog_9_method_32_code
def yX7_isConviction : MethodName := ⟨RX7, "isConviction", "(I)Z"⟩
abbrev cX7_retell : ByteArray := prog_9_method_33_code
def yX7_retell : MethodName := ⟨RX7, "retell", "(III)I"⟩
abbrev cX7_strike : ByteArray := prog_9_method_34_code
def yX7_strike : MethodName := ⟨RX7, "strike", "(I)I"⟩
abbrev cX7_lower : ByteArray := prog_9_method_35_code
def yX7_lower : MethodName := ⟨RX7, "lower", "(II)I"⟩
abbrev cX7_redate : ByteArray := prog_9_method_36_code
def yX7_redate : MethodName := ⟨RX7, "redate", "(II)I"⟩
abbrev cX7_excuse : ByteArray := prog_9_method_37_code
def yX7_excuse : MethodName := ⟨RX7, "excuse", "(I)I"⟩
abbrev cX7_undo : ByteArray := prog_9_method_38_code
def yX7_undo : MethodName := ⟨RX7, "undo", "()I"⟩
abbrev cX7_year : ByteArray := prog_9_method_39_code
def yX7_year : MethodName := ⟨RX7, "year", "(II)I"⟩
abbrev cX7_lastOf : ByteArray := prog_9_method_40_code
def yX7_lastOf : MethodName := ⟨RX7, "lastOf", "(I)I"⟩
abbrev cX7_isBanned : ByteArray := prog_9_method_41_code
def yX7_isBanned : MethodName := ⟨RX7, "isBanned", "(II)Z"⟩
abbrev cX7_gives : ByteArray := prog_9_method_42_code
def yX7_gives : MethodName := ⟨RX7, "gives", "(IIIII)V"⟩
abbrev cX7_countOf : ByteArray := prog_9_method_43_code
def yX7_countOf : MethodName := ⟨RX7, "countOf", "(I)I"⟩
abbrev cX7_mostOf : ByteArray := prog_9_method_44_code
def yX7_mostOf : MethodName := ⟨RX7, "mostOf", "(III)I"⟩
abbrev cX7_greatOnes : ByteArray := prog_9_method_45_code
def yX7_greatOnes : MethodName := ⟨RX7, "greatOnes", "(II)I"⟩
abbrev cX7_beginOf : ByteArray := prog_9_method_46_code
def yX7_beginOf : MethodName := ⟨RX7, "beginOf", "(II)I"⟩
abbrev cX7_convicts : ByteArray := prog_9_method_47_code
def yX7_convicts : MethodName := ⟨RX7, "convicts", "(I)V"⟩
abbrev cX7_toShorten : ByteArray := prog_9_method_48_code
def yX7_toShorten : MethodName := ⟨RX7, "toShorten", "(II)I"⟩
abbrev cX7_shortens : ByteArray := prog_9_method_49_code
def yX7_shortens : MethodName := ⟨RX7, "shortens", "(I)V"⟩
abbrev cX7_reckon : ByteArray := prog_9_method_50_code
def yX7_reckon : MethodName := ⟨RX7, "reckon", "()V"⟩
abbrev cX7_know : ByteArray := prog_9_method_51_code
def yX7_know : MethodName := ⟨RX7, "know", "()V"⟩
abbrev cX7_daysFrom : ByteArray := prog_9_method_52_code
def yX7_daysFrom : MethodName := ⟨RX7, "daysFrom", "(III)I"⟩
abbrev cX7_endOf : ByteArray := prog_9_method_53_code
def yX7_endOf : MethodName := ⟨RX7, "endOf", "(I)I"⟩
abbrev cX7_daysOf : ByteArray := prog_9_method_54_code
def yX7_daysOf : MethodName := ⟨RX7, "daysOf", "(I)I"⟩
abbrev cX7_event : ByteArray := prog_9_method_55_code
def yX7_event : MethodName := ⟨RX7, "event", "(II)I"⟩
abbrev cX7_sum : ByteArray := prog_9_method_56_code
def yX7_sum : MethodName := ⟨RX7, "sum", "(II)I"⟩
abbrev cX7_need : ByteArray := prog_9_method_57_code
def yX7_need : MethodName := ⟨RX7, "need", "(I)I"⟩
abbrev cX7_would : ByteArray := prog_9_method_58_code
def yX7_would : MethodName := ⟨RX7, "would", "(III)I"⟩
abbrev cX7_banned : ByteArray := prog_9_method_59_code
def yX7_banned : MethodName := ⟨RX7, "banned", "(II)I"⟩
abbrev cX7_days : ByteArray := prog_9_method_60_code
def yX7_days : MethodName := ⟨RX7, "days", "(III)I"⟩
abbrev cX7_free : ByteArray := prog_9_method_61_code
def yX7_free : MethodName := ⟨RX7, "free", "(I)I"⟩
abbrev cX7_banAt : ByteArray := prog_9_method_62_code
def yX7_banAt : MethodName := ⟨RX7, "banAt", "(II)I"⟩
abbrev cX7_ban : ByteArray := prog_9_method_63_code
def yX7_ban : MethodName := ⟨RX7, "ban", "(III)I"⟩
abbrev cX7_isSeen : ByteArray := prog_9_method_64_code
def yX7_isSeen : MethodName := ⟨RX7, "isSeen", "(II)Z"⟩
abbrev cX7_seen : ByteArray := prog_9_method_65_code
def yX7_seen : MethodName := ⟨RX7, "seen", "(III)I"⟩
abbrev cX7_count : ByteArray := prog_9_method_66_code
def yX7_count : MethodName := ⟨RX7, "count", "(I)I"⟩
end
section
/-! THE SMALL MACHINE (mj_): a heap of numbered cells 'Nat → Nat → Int32' (cell, slot), values whose references are cell numbers, one judgement mj_V a program point; each row of the kit is used once, here. -/
abbrev mj_X : Type := Nat → Nat → Int32
abbrev mj_S : Type := (Nat × List (Option Nat)) ⊕ Nat
abbrev mj_M : Type := MethodName × ByteArray × Nat × Option FieldType × Nat × Nat
def mj_up (x : mj_X) (k i : Nat) (v : Int32) : mj_X := fun k' => if k' = k then upd (x k) i v else x k'
def mj_v (ad : Nat → Nat) (v : Value) : Value := match v with
  | .ref a => .ref (ad a)
  | w => w
theorem mj_v_cat (ad : Nat → Nat) (v : Value) : (mj_v ad v).category = v.category := by cases v <;> rfl
def mj_fv (ad : Nat → Nat) (xk : Nat → Int32) (i : Nat) (f : Option Nat) : Value := match f with
  | some c => .ref (ad c)
  | none => .int (xk i)
def mj_e (ad : Nat → Nat) (cA : ClassId) (xk : Nat → Int32) (sh : mj_S) : va_E := match sh with
  | .inl o => .inr (o.1, o.2.mapIdx (mj_fv ad xk))
  | .inr n => .inl (cA, (n, .inl xk))
def mj_w (ad : Nat → Nat) (cA : ClassId) (x : mj_X) (sh : List mj_S) : va_W := sh.mapIdx (fun k s => (ad k, mj_e ad cA (x k) s))
abbrev mj_cl : List vw_C := [(RX0, TX0, 8), (RX1, TX1, 7), (RX2, TX2, 13), (RX3, TX3, 4), (RX4, TX4, 5), (RX5, TX5, 4), (RX6, TX6, 8), (RX7, TX7, 26)]
def mj_nest (w : Cond) : Bool := match w with
  | .fieldLinkNest _ _ _ _ _ _ => true
  | .methodLinkNest _ _ _ _ => true
  | _ => false
def mj_tb : List Cond := lw_tbl.filter goodWord
def mj_T (U : State) : Prop := (∀ w ∈ mj_tb, w.before #[] U = true) ∧ ∀ w ∈ lw_tbl, mj_nest w = true → va_Nw w U
def mj_st0 (j : Nat) : Int32 := [1, 1, 1, 0, 0, 0].getD j 0
def mj_st1 (j : Nat) : Int32 := [999, 99, 99, 999, 999, 999].getD j 0
def mj_st2 (j : Nat) : Int32 := [100, 12, 10, 200, 300, 150].getD j 0
def mj_Z (A : Nat → Prop) (ad : Nat → Nat) (U : State) (H : Heap) : Prop :=
  (va_Z RX5 "LEAST" "[I" (.ref (ad 100)) A U H ∧ va_T .int (ad 100) 6 (fun j => .int (mj_st0 j)) A U H) ∧
  (va_Z RX5 "MOST" "[I" (.ref (ad 101)) A U H ∧ va_T .int (ad 101) 6 (fun j => .int (mj_st1 j)) A U H) ∧
  (va_Z RX5 "UNTOLD" "[I" (.ref (ad 102)) A U H ∧ va_T .int (ad 102) 6 (fun j => .int (mj_st2 j)) A U H)
def mj_G (D : va_G) (A : Nat → Prop) (ad : Nat → Nat) (cA : ClassId) (sh : List mj_S) (U : State) : Prop :=
  mj_T U ∧ va_K D mj_cl [(cA, .int)] U ∧ mj_Z A ad U U.heap ∧ (∀ i j, i < sh.length → j < sh.length → ad i = ad j → i = j) ∧ ∀ i, i < sh.length → A (ad i)
def mj_Pc (D : va_G) (A : Nat → Prop) (ad : Nat → Nat) (cA : ClassId) (sh : List mj_S) (x : mj_X) (args : List Value) : Array Value → State → Prop :=
  va_Pc (args.map (mj_v ad)) (fun U => va_P D mj_cl (mj_w ad cA x sh) U.heap ∧ mj_G D A ad cA sh U)
def mj_Qc (D : va_G) (A : Nat → Prop) (ad : Nat → Nat) (cA : ClassId) (sh : List mj_S) (Q : Option Value → mj_X → Prop) : Array Value → State → Outcome → State → Prop := fun _ st oc t =>
  (∃ (r : Option Value) (x' : mj_X), oc = .returned (r.map (mj_v ad)) ∧ Q r x' ∧ va_P D mj_cl (mj_w ad cA x' sh) t.heap) ∧ va_F A st t
def mj_rm (M : mj_M) : Room := { frames := M.2.2.2.2.1, cells := 0, slots := 0, locals := M.2.2.2.2.2 }
/-- the contract: from the heap x with these arguments the method returns, with Q of its answer and the new heap -/
def mj_C (M : mj_M) (sh : List mj_S) (args : List Value) (x : mj_X) (Q : Option Value → mj_X → Prop) : Prop :=
  ∀ (l : Launch) (D : va_G) (A : Nat → Prop) (ad : Nat → Nat) (cA : ClassId),
    Met l M.1 [.code M.1 M.2.1 M.2.2.1 M.2.2.2.1] (mj_rm M) (mj_Pc D A ad cA sh x args) (mj_Qc D A ad cA sh Q) 0 0 A
def mj_CI (M : mj_M) (sh : List mj_S) (args : List Value) (x : mj_X) (Q : Int32 → mj_X → Prop) : Prop :=
  mj_C M sh args x (fun r x' => ∃ z, r = some (.int z) ∧ Q z x')
def mj_CV (M : mj_M) (sh : List mj_S) (args : List Value) (x : mj_X) (Q : mj_X → Prop) : Prop :=
  mj_C M sh args x (fun r x' => r = none ∧ Q x')
def mj_B (M : mj_M) (p : Program) (s : State) (m : MethodId) (meth : Method) (c : Code) (D : va_G) (A : Nat → Prop) (ad : Nat → Nat) (cA : ClassId) (sh : List mj_S) : Prop :=
  p.tables.exec = Jvm.exec ∧ c.code = M.2.1 ∧ c.maxLocals = M.2.2.1 ∧ meth.sig.returnType = M.2.2.2.1 ∧ meth.locks = false ∧ s.vm.findClass M.1.cls = some m.cls ∧ mj_G D A ad cA sh s
def mj_L (ad : Nat → Nat) (lsA : Array Slot) (nL : Nat) (ls : List (Option Value)) : Prop :=
  lsA.size = nL ∧ lv_wf lsA ∧ ls.length ≤ nL ∧ ∀ (i : Nat) (v : Value), ls[i]? = some (some v) → lsA[i]? = some (.val (mj_v ad v))
/-- the judgement: from this point of the method, with this heap, these locals, this stack, it comes to its end with Q -/
def mj_V (M : mj_M) (sh : List mj_S) (Q : Option Value → mj_X → Prop) (x : mj_X) (pc : Nat) (ls : List (Option Value)) (st : List Value) : Prop :=
  ∀ (p : Program) (l : Launch) (e : Env) (s : State) (m : MethodId) (args : Array Value) (below : List Frame) (meth : Method) (c : Code) (D : va_G) (A : Nat → Prop) (ad : Nat → Nat) (cA : ClassId),
    mj_B M p s m meth c D A ad cA sh → ∀ (H : Heap) (locs : List Loc) (lsA : Array Slot), va_P D mj_cl (mj_w ad cA x sh) H → va_S A s.heap H locs → mj_L ad lsA M.2.2.1 ls →
      W p l e (mj_rm M) s m args below meth c H locs 0 0 (MQ below (mj_Qc D A ad cA sh Q) args s 0 0 A) (F0 m pc lsA (st.map (mj_v ad)))
theorem mj_use {s : State} (h : mj_T s) {w : Cond} (hw : w ∈ lw_tbl) (hg : goodWord w = true) (args : Array Value) : w.before args s = true :=
  word_at (State.WarmedH.refl s) (good_of_word hg) (h.1 w (List.mem_filter.mpr ⟨hw, hg⟩))
theorem mj_T.all {s : State} (h : mj_T s) (args : Array Value) : ∀ w ∈ mj_tb, w.before args s = true := fun w hw => mj_use h (List.mem_filter.mp hw).1 (List.mem_filter.mp hw).2 args
theorem mj_T.warm {s U : State} (hW : s.WarmedH U.vm) (h : mj_T s) : mj_T U := by
  refine ⟨fun w hw => word_at hW (good_of_word (List.mem_filter.mp hw).2) (h.1 w hw), fun w hw hn => ?_⟩
  have hz := h.2 w hw hn
  cases w <;> first | exact va_Nw.warmF hW hz | exact va_Nw.warmM hW hz | cases hn
theorem mj_Z.kept {A : Nat → Prop} {ad : Nat → Nat} {U : State} {H H1 : Heap} (h : mj_Z A ad U H) (hq : ∀ a : Nat, a < H.size → ¬ A a → H1[a]? = H[a]?) : mj_Z A ad U H1 := by
  obtain ⟨⟨a1, a2⟩, ⟨b1, b2⟩, ⟨c1, c2⟩⟩ := h
  exact ⟨⟨a1.kept hq, a2.kept hq⟩, ⟨b1.kept hq, b2.kept hq⟩, ⟨c1.kept hq, c2.kept hq⟩⟩
theorem mj_Z.moved {A : Nat → Prop} {ad : Nat → Nat} {u U : State} {H : Heap} (hvm : u.vm.Alike U.vm) (h : mj_Z A ad u H) : mj_Z A ad U H := by
  obtain ⟨⟨a1, a2⟩, ⟨b1, b2⟩, ⟨c1, c2⟩⟩ := h
  exact ⟨⟨a1.moved hvm, a2.moved hvm⟩, ⟨b1.moved hvm, b2.moved hvm⟩, ⟨c1.moved hvm, c2.moved hvm⟩⟩
theorem mj_G.go {D : va_G} {A : Nat → Prop} {ad : Nat → Nat} {cA : ClassId} {sh : List mj_S} {s U : State} {H : Heap} {locs : List Loc} (h : mj_G D A ad cA sh s) (hS : va_S A s.heap H locs) (hU : U.heap = H) (hW : s.WarmedH U.vm) : mj_G D A ad cA sh U := by
  obtain ⟨h1, h2, h3, h4⟩ := h
  refine ⟨h1.warm hW, va_K.moved hW.alike h2, ?_, h4⟩
  rw [hU]
  exact (h3.moved hW.alike).kept hS.2.1
theorem mj_w_at {ad : Nat → Nat} {cA : ClassId} {x : mj_X} {sh : List mj_S} {k : Nat} {s : mj_S} (h : sh[k]? = some s) : (mj_w ad cA x sh)[k]? = some (ad k, mj_e ad cA (x k) s) := by
  unfold mj_w
  rw [List.getElem?_mapIdx, h]
  rfl
theorem mj_D {D : va_G} {A : Nat → Prop} {ad : Nat → Nat} {cA : ClassId} {sh : List mj_S} {s : State} (h : mj_G D A ad cA sh s) (x : mj_X) : va_D A (mj_w ad cA x sh) := by
  obtain ⟨-, -, -, h1, h2⟩ := h
  have key : ∀ (k : Nat) (q : Nat × va_E), (mj_w ad cA x sh)[k]? = some q → k < sh.length ∧ q.1 = ad k := by
    intro k q hk
    unfold mj_w at hk
    rw [List.getElem?_mapIdx] at hk
    cases hs : sh[k]? with
    | none => rw [hs] at hk; cases hk
    | some s0 =>
      rw [hs] at hk
      cases hk
      exact ⟨(List.getElem?_eq_some_iff.mp hs).1, rfl⟩
  refine ⟨fun i j p q hi hj hpq => ?_, fun k q hk => ?_⟩
  · obtain ⟨a1, a2⟩ := key i p hi
    obtain ⟨b1, b2⟩ := key j q hj
    exact h1 i j a1 b1 (by rw [← a2, ← b2]; exact hpq)
  · obtain ⟨a1, a2⟩ := key k q hk
    rw [a2]
    exact h2 k a1
theorem mj_w_set {ad : Nat → Nat} {cA : ClassId} {x : mj_X} {sh : List mj_S} {k i : Nat} {v : Int32} {e : va_E} {s : mj_S} (hs : sh[k]? = some s) (he : e = mj_e ad cA (upd (x k) i v) s) : (mj_w ad cA x sh).set k (ad k, e) = mj_w ad cA (mj_up x k i v) sh := by
  subst he
  apply List.ext_getElem?
  intro j
  by_cases hj : j = k
  · subst hj
    rw [mj_w_at (x := mj_up x j i v) hs, List.getElem?_set_self (by unfold mj_w; rw [List.length_mapIdx]; exact (List.getElem?_eq_some_iff.mp hs).1)]
    simp [mj_up]
  · rw [List.getElem?_set_ne (Ne.symm hj)]
    unfold mj_w
    rw [List.getElem?_mapIdx, List.getElem?_mapIdx]
    simp [mj_up, hj]
theorem mj_fs_at {ad : Nat → Nat} {xk : Nat → Int32} {fs : List (Option Nat)} {k : Nat} {f : Option Nat} (h : fs[k]? = some f) : (fs.mapIdx (mj_fv ad xk))[k]? = some (mj_fv ad xk k f) := by
  rw [List.getElem?_mapIdx, h]
  rfl
theorem mj_fs_set {ad : Nat → Nat} {xk : Nat → Int32} {fs : List (Option Nat)} {k : Nat} {v : Int32} (h : fs[k]? = some none) : (fs.mapIdx (mj_fv ad xk)).set k (.int v) = fs.mapIdx (mj_fv ad (upd xk k v)) := by
  apply List.ext_getElem?
  intro j
  by_cases hj : j = k
  · subst hj
    rw [mj_fs_at h, List.getElem?_set_self (by rw [List.length_mapIdx]; exact (List.getElem?_eq_some_iff.mp h).1)]
    simp [mj_fv, upd]
  · rw [List.getElem?_set_ne (Ne.symm hj), List.getElem?_mapIdx, List.getElem?_mapIdx]
    cases fs[j]? with
    | none => rfl
    | some o => cases o <;> simp [mj_fv, upd, hj]
/-! locals -/
def mj_pr (ad : Nat → Nat) (ls : List (Option Value)) : List (Nat × Value) := (List.range ls.length).filterMap (fun i => match ls[i]? with
  | some (some v) => some (i, mj_v ad v)
  | _ => none)
theorem mj_pr_in {ad : Nat → Nat} {ls : List (Option Value)} {i : Nat} {v : Value} (h : ls[i]? = some (some v)) : (i, mj_v ad v) ∈ mj_pr ad ls := by
  refine List.mem_filterMap.mpr ⟨i, List.mem_range.mpr (List.getElem?_eq_some_iff.mp h).1, ?_⟩
  rw [h]
theorem mj_L.has {ad : Nat → Nat} {lsA : Array Slot} {nL : Nat} {ls : List (Option Value)} (h : mj_L ad lsA nL ls) : lv_has lsA nL (mj_pr ad ls) := by
  refine ⟨h.1, h.2.1, fun q hq => ?_⟩
  obtain ⟨i, -, hi⟩ := List.mem_filterMap.mp hq
  cases hl : ls[i]? with
  | none => rw [hl] at hi; cases hi
  | some o =>
    cases o with
    | none => rw [hl] at hi; cases hi
    | some v =>
      rw [hl] at hi
      cases hi
      exact h.2.2.2 i v hl
def mj_nl (o : Option Value) : Bool := match o with
  | some v => v.category == 1
  | none => true
theorem mj_L.set1 {ad : Nat → Nat} {lsA lsB : Array Slot} {nL : Nat} {ls : List (Option Value)} {i : Nat} {v : Value} (h : mj_L ad lsA nL ls) (hno : ∀ j, j + 1 = i → mj_nl (ls.getD j none) = true)
    (hB : lv_has lsB nL ((i, mj_v ad v) :: (mj_pr ad ls).filter (fun q => !(q.1 == i) && !(q.1 + 1 == i && q.2.category == 2)))) : mj_L ad lsB nL (ls.set i (some v)) := by
  refine ⟨hB.1, hB.2.1, by rw [List.length_set]; exact h.2.2.1, fun j w hj => ?_⟩
  by_cases hji : j = i
  · subst hji
    have hlt : j < ls.length := by
      have := (List.getElem?_eq_some_iff.mp hj).1
      rwa [List.length_set] at this
    rw [List.getElem?_set_self hlt] at hj
    cases hj
    exact hB.2.2 (j, mj_v ad v) List.mem_cons_self
  · rw [List.getElem?_set_ne (Ne.symm hji)] at hj
    refine hB.2.2 (j, mj_v ad w) (List.mem_cons_of_mem _ (List.mem_filter.mpr ⟨mj_pr_in hj, ?_⟩))
    have h1 : ¬ (j + 1 = i ∧ w.category = 2) := by
      rintro ⟨a, b⟩
      have := hno j a
      rw [List.getD_eq_getElem?_getD, hj] at this
      simp [mj_nl, b] at this
    simp only [mj_v_cat, Bool.and_eq_true, Bool.not_eq_true', beq_eq_false_iff_ne, ne_eq, hji, not_false_eq_true, true_and, Bool.and_eq_false_iff]
    by_cases a : j + 1 = i
    · right
      exact fun b => h1 ⟨a, b⟩
    · left
      exact a
end
section
section MJV
variable {M : mj_M} {sh : List mj_S} {Q : Option Value → mj_X → Prop} {x : mj_X} {pc : Nat} {ls : List (Option Value)} {st : List Value}
theorem mj_iconst {n : Int} {v : Int32} (hd : decode M.2.1 pc = .ok (.iconst n, 1)) (hv : Int32.ofInt n = v) (k : mj_V M sh Q x (pc + 1) ls (.int v :: st)) : mj_V M sh Q x pc ls (st) := by
  intro p l e s m args below meth c D A ad cA B H locs lsA hP hS hL
  exact lv_iconst B.1 B.2.1 hd hv (k p l e s m args below meth c D A ad cA B H locs lsA hP hS hL)
theorem mj_bipush {n : Int} {v : Int32} (hd : decode M.2.1 pc = .ok (.bipush n, 2)) (hv : (Int8.ofInt n).toInt32 = v) (k : mj_V M sh Q x (pc + 2) ls (.int v :: st)) : mj_V M sh Q x pc ls (st) := by
  intro p l e s m args below meth c D A ad cA B H locs lsA hP hS hL
  exact lv_bipush B.1 B.2.1 hd hv (k p l e s m args below meth c D A ad cA B H locs lsA hP hS hL)
theorem mj_sipush {n : Int} {v : Int32} (hd : decode M.2.1 pc = .ok (.sipush n, 3)) (hv : (Int16.ofInt n).toInt32 = v) (k : mj_V M sh Q x (pc + 3) ls (.int v :: st)) : mj_V M sh Q x pc ls (st) := by
  intro p l e s m args below meth c D A ad cA B H locs lsA hP hS hL
  exact lv_sipush B.1 B.2.1 hd hv (k p l e s m args below meth c D A ad cA B H locs lsA hP hS hL)
theorem mj_lconst {n : Fin 2} {v : Int64} (hd : decode M.2.1 pc = .ok (.lconst n, 1)) (hv : Int64.ofNat (n : Nat) = v) (k : mj_V M sh Q x (pc + 1) ls (.long v :: st)) : mj_V M sh Q x pc ls (st) := by
  intro p l e s m args below meth c D A ad cA B H locs lsA hP hS hL
  exact lv_lconst B.1 B.2.1 hd hv (k p l e s m args below meth c D A ad cA B H locs lsA hP hS hL)
theorem mj_ildn {k0 : Fin 4} {v : Int32} (hd : decode M.2.1 pc = .ok (.iload_n k0, 1)) (hl : ls[(k0 : Nat)]? = some (some (.int v))) (k : mj_V M sh Q x (pc + 1) ls (.int v :: st)) : mj_V M sh Q x pc ls (st) := by
  intro p l e s m args below meth c D A ad cA B H locs lsA hP hS hL
  exact lv_iload_n B.1 B.2.1 hd rfl (hL.2.2.2 _ _ hl) (k p l e s m args below meth c D A ad cA B H locs lsA hP hS hL)
theorem mj_ild {i : Nat} {v : Int32} (hd : decode M.2.1 pc = .ok (.iload i, 2)) (hl : ls[i]? = some (some (.int v))) (k : mj_V M sh Q x (pc + 2) ls (.int v :: st)) : mj_V M sh Q x pc ls (st) := by
  intro p l e s m args below meth c D A ad cA B H locs lsA hP hS hL
  exact lv_iload B.1 B.2.1 hd (hL.2.2.2 _ _ hl) (k p l e s m args below meth c D A ad cA B H locs lsA hP hS hL)
theorem mj_lldn {k0 : Fin 4} {v : Int64} (hd : decode M.2.1 pc = .ok (.lload_n k0, 1)) (hl : ls[(k0 : Nat)]? = some (some (.long v))) (k : mj_V M sh Q x (pc + 1) ls (.long v :: st)) : mj_V M sh Q x pc ls (st) := by
  intro p l e s m args below meth c D A ad cA B H locs lsA hP hS hL
  exact lv_lload_n B.1 B.2.1 hd rfl (hL.2.2.2 _ _ hl) (k p l e s m args below meth c D A ad cA B H locs lsA hP hS hL)
theorem mj_lld {i : Nat} {v : Int64} (hd : decode M.2.1 pc = .ok (.lload i, 2)) (hl : ls[i]? = some (some (.long v))) (k : mj_V M sh Q x (pc + 2) ls (.long v :: st)) : mj_V M sh Q x pc ls (st) := by
  intro p l e s m args below meth c D A ad cA B H locs lsA hP hS hL
  exact lv_lload B.1 B.2.1 hd (hL.2.2.2 _ _ hl) (k p l e s m args below meth c D A ad cA B H locs lsA hP hS hL)
theorem mj_aldn {k0 : Fin 4} {v : Nat} (hd : decode M.2.1 pc = .ok (.aload_n k0, 1)) (hl : ls[(k0 : Nat)]? = some (some (.ref v))) (k : mj_V M sh Q x (pc + 1) ls (.ref v :: st)) : mj_V M sh Q x pc ls (st) := by
  intro p l e s m args below meth c D A ad cA B H locs lsA hP hS hL
  exact lv_aload_n B.1 B.2.1 hd rfl (hL.2.2.2 _ _ hl) (k p l e s m args below meth c D A ad cA B H locs lsA hP hS hL)
theorem mj_iadd {a b : Int32} (hd : decode M.2.1 pc = .ok (.iadd, 1)) (k : mj_V M sh Q x (pc + 1) ls (.int (a + b) :: st)) : mj_V M sh Q x pc ls (.int b :: .int a :: st) := by
  intro p l e s m args below meth c D A ad cA B H locs lsA hP hS hL
  exact lv_iadd B.1 B.2.1 hd (k p l e s m args below meth c D A ad cA B H locs lsA hP hS hL)
theorem mj_isub {a b : Int32} (hd : decode M.2.1 pc = .ok (.isub, 1)) (k : mj_V M sh Q x (pc + 1) ls (.int (a - b) :: st)) : mj_V M sh Q x pc ls (.int b :: .int a :: st) := by
  intro p l e s m args below meth c D A ad cA B H locs lsA hP hS hL
  exact lv_isub B.1 B.2.1 hd (k p l e s m args below meth c D A ad cA B H locs lsA hP hS hL)
theorem mj_imul {a b : Int32} (hd : decode M.2.1 pc = .ok (.imul, 1)) (k : mj_V M sh Q x (pc + 1) ls (.int (a * b) :: st)) : mj_V M sh Q x pc ls (.int b :: .int a :: st) := by
  intro p l e s m args below meth c D A ad cA B H locs lsA hP hS hL
  exact lv_imul B.1 B.2.1 hd (k p l e s m args below meth c D A ad cA B H locs lsA hP hS hL)
theorem mj_iand {a b : Int32} (hd : decode M.2.1 pc = .ok (.iand, 1)) (k : mj_V M sh Q x (pc + 1) ls (.int (a &&& b) :: st)) : mj_V M sh Q x pc ls (.int b :: .int a :: st) := by
  intro p l e s m args below meth c D A ad cA B H locs lsA hP hS hL
  exact lv_iand B.1 B.2.1 hd (k p l e s m args below meth c D A ad cA B H locs lsA hP hS hL)
theorem mj_ladd {a b : Int64} (hd : decode M.2.1 pc = .ok (.ladd, 1)) (k : mj_V M sh Q x (pc + 1) ls (.long (a + b) :: st)) : mj_V M sh Q x pc ls (.long b :: .long a :: st) := by
  intro p l e s m args below meth c D A ad cA B H locs lsA hP hS hL
  exact lv_ladd B.1 B.2.1 hd (k p l e s m args below meth c D A ad cA B H locs lsA hP hS hL)
theorem mj_lsub {a b : Int64} (hd : decode M.2.1 pc = .ok (.lsub, 1)) (k : mj_V M sh Q x (pc + 1) ls (.long (a - b) :: st)) : mj_V M sh Q x pc ls (.long b :: .long a :: st) := by
  intro p l e s m args below meth c D A ad cA B H locs lsA hP hS hL
  exact lv_lsub B.1 B.2.1 hd (k p l e s m args below meth c D A ad cA B H locs lsA hP hS hL)
theorem mj_lmul {a b : Int64} (hd : decode M.2.1 pc = .ok (.lmul, 1)) (k : mj_V M sh Q x (pc + 1) ls (.long (a * b) :: st)) : mj_V M sh Q x pc ls (.long b :: .long a :: st) := by
  intro p l e s m args below meth c D A ad cA B H locs lsA hP hS hL
  exact lv_lmul B.1 B.2.1 hd (k p l e s m args below meth c D A ad cA B H locs lsA hP hS hL)
theorem mj_idiv {a b : Int32} (hd : decode M.2.1 pc = .ok (.idiv, 1)) (hne : ¬ b = 0) (k : mj_V M sh Q x (pc + 1) ls (.int (a / b) :: st)) : mj_V M sh Q x pc ls (.int b :: .int a :: st) := by
  intro p l e s m args below meth c D A ad cA B H locs lsA hP hS hL
  exact lv_idiv B.1 B.2.1 hd hne (k p l e s m args below meth c D A ad cA B H locs lsA hP hS hL)
theorem mj_irem {a b : Int32} (hd : decode M.2.1 pc = .ok (.irem, 1)) (hne : ¬ b = 0) (k : mj_V M sh Q x (pc + 1) ls (.int (a - a / b * b) :: st)) : mj_V M sh Q x pc ls (.int b :: .int a :: st) := by
  intro p l e s m args below meth c D A ad cA B H locs lsA hP hS hL
  exact lv_irem B.1 B.2.1 hd hne (k p l e s m args below meth c D A ad cA B H locs lsA hP hS hL)
theorem mj_lrem {a b : Int64} (hd : decode M.2.1 pc = .ok (.lrem, 1)) (hne : ¬ b = 0) (k : mj_V M sh Q x (pc + 1) ls (.long (a - a / b * b) :: st)) : mj_V M sh Q x pc ls (.long b :: .long a :: st) := by
  intro p l e s m args below meth c D A ad cA B H locs lsA hP hS hL
  exact lv_lrem B.1 B.2.1 hd hne (k p l e s m args below meth c D A ad cA B H locs lsA hP hS hL)
theorem mj_ineg {a : Int32} (hd : decode M.2.1 pc = .ok (.ineg, 1)) (k : mj_V M sh Q x (pc + 1) ls (.int (-a) :: st)) : mj_V M sh Q x pc ls (.int a :: st) := by
  intro p l e s m args below meth c D A ad cA B H locs lsA hP hS hL
  exact lv_ineg B.1 B.2.1 hd (k p l e s m args below meth c D A ad cA B H locs lsA hP hS hL)
theorem mj_i2l {a : Int32} (hd : decode M.2.1 pc = .ok (.i2l, 1)) (k : mj_V M sh Q x (pc + 1) ls (.long a.toInt64 :: st)) : mj_V M sh Q x pc ls (.int a :: st) := by
  intro p l e s m args below meth c D A ad cA B H locs lsA hP hS hL
  exact lv_i2l B.1 B.2.1 hd rfl (k p l e s m args below meth c D A ad cA B H locs lsA hP hS hL)
theorem mj_l2i {a : Int64} (hd : decode M.2.1 pc = .ok (.l2i, 1)) (k : mj_V M sh Q x (pc + 1) ls (.int a.toInt32 :: st)) : mj_V M sh Q x pc ls (.long a :: st) := by
  intro p l e s m args below meth c D A ad cA B H locs lsA hP hS hL
  exact lv_l2i B.1 B.2.1 hd rfl (k p l e s m args below meth c D A ad cA B H locs lsA hP hS hL)
theorem mj_lcmp {a b : Int64} (hd : decode M.2.1 pc = .ok (.lcmp, 1)) (k : mj_V M sh Q x (pc + 1) ls (.int (lg_cmp a b) :: st)) : mj_V M sh Q x pc ls (.long b :: .long a :: st) := by
  intro p l e s m args below meth c D A ad cA B H locs lsA hP hS hL
  exact W.lcmp B.1 B.2.1 hd (k p l e s m args below meth c D A ad cA B H locs lsA hP hS hL)
theorem mj_dupi {a : Int32} (hd : decode M.2.1 pc = .ok (.dup, 1)) (k : mj_V M sh Q x (pc + 1) ls (.int a :: .int a :: st)) : mj_V M sh Q x pc ls (.int a :: st) := by
  intro p l e s m args below meth c D A ad cA B H locs lsA hP hS hL
  exact lv_dup B.1 B.2.1 hd rfl (k p l e s m args below meth c D A ad cA B H locs lsA hP hS hL)
theorem mj_dupr {a : Nat} (hd : decode M.2.1 pc = .ok (.dup, 1)) (k : mj_V M sh Q x (pc + 1) ls (.ref a :: .ref a :: st)) : mj_V M sh Q x pc ls (.ref a :: st) := by
  intro p l e s m args below meth c D A ad cA B H locs lsA hP hS hL
  exact lv_dup B.1 B.2.1 hd rfl (k p l e s m args below meth c D A ad cA B H locs lsA hP hS hL)
theorem mj_dup2 {a : Int32} {b : Nat} (hd : decode M.2.1 pc = .ok (.dup2, 1)) (k : mj_V M sh Q x (pc + 1) ls (.int a :: .ref b :: .int a :: .ref b :: st)) : mj_V M sh Q x pc ls (.int a :: .ref b :: st) := by
  intro p l e s m args below meth c D A ad cA B H locs lsA hP hS hL
  exact lv_dup2_11 B.1 B.2.1 hd rfl rfl (k p l e s m args below meth c D A ad cA B H locs lsA hP hS hL)
theorem mj_popi {a : Int32} (hd : decode M.2.1 pc = .ok (.pop, 1)) (k : mj_V M sh Q x (pc + 1) ls (st)) : mj_V M sh Q x pc ls (.int a :: st) := by
  intro p l e s m args below meth c D A ad cA B H locs lsA hP hS hL
  exact lv_pop B.1 B.2.1 hd rfl (k p l e s m args below meth c D A ad cA B H locs lsA hP hS hL)
theorem mj_if_eq {a : Int32} {off : Int} {tgt : Nat} (hd : decode M.2.1 pc = .ok (.ifCond .eq off, 3)) (ht : (pc : Int) + off = (tgt : Int)) (kt : a = 0 → mj_V M sh Q x tgt ls st) (kf : ¬ a = 0 → mj_V M sh Q x (pc + 3) ls st) : mj_V M sh Q x pc ls (.int a :: st) := by
  intro p l e s m args below meth c D A ad cA B H locs lsA hP hS hL
  exact lv_if_eq B.1 B.2.1 hd ht (fun h => kt h p l e s m args below meth c D A ad cA B H locs lsA hP hS hL) (fun h => kf h p l e s m args below meth c D A ad cA B H locs lsA hP hS hL)
theorem mj_ic_eq {a b : Int32} {off : Int} {tgt : Nat} (hd : decode M.2.1 pc = .ok (.if_icmp .eq off, 3)) (ht : (pc : Int) + off = (tgt : Int)) (kt : a = b → mj_V M sh Q x tgt ls st) (kf : ¬ a = b → mj_V M sh Q x (pc + 3) ls st) : mj_V M sh Q x pc ls (.int b :: .int a :: st) := by
  intro p l e s m args below meth c D A ad cA B H locs lsA hP hS hL
  exact lv_icmp_eq B.1 B.2.1 hd ht (fun h => kt h p l e s m args below meth c D A ad cA B H locs lsA hP hS hL) (fun h => kf h p l e s m args below meth c D A ad cA B H locs lsA hP hS hL)
theorem mj_if_ne {a : Int32} {off : Int} {tgt : Nat} (hd : decode M.2.1 pc = .ok (.ifCond .ne off, 3)) (ht : (pc : Int) + off = (tgt : Int)) (kt : ¬ a = 0 → mj_V M sh Q x tgt ls st) (kf : a = 0 → mj_V M sh Q x (pc + 3) ls st) : mj_V M sh Q x pc ls (.int a :: st) := by
  intro p l e s m args below meth c D A ad cA B H locs lsA hP hS hL
  exact lv_if_ne B.1 B.2.1 hd ht (fun h => kt h p l e s m args below meth c D A ad cA B H locs lsA hP hS hL) (fun h => kf h p l e s m args below meth c D A ad cA B H locs lsA hP hS hL)
theorem mj_ic_ne {a b : Int32} {off : Int} {tgt : Nat} (hd : decode M.2.1 pc = .ok (.if_icmp .ne off, 3)) (ht : (pc : Int) + off = (tgt : Int)) (kt : ¬ a = b → mj_V M sh Q x tgt ls st) (kf : a = b → mj_V M sh Q x (pc + 3) ls st) : mj_V M sh Q x pc ls (.int b :: .int a :: st) := by
  intro p l e s m args below meth c D A ad cA B H locs lsA hP hS hL
  exact lv_icmp_ne B.1 B.2.1 hd ht (fun h => kt h p l e s m args below meth c D A ad cA B H locs lsA hP hS hL) (fun h => kf h p l e s m args below meth c D A ad cA B H locs lsA hP hS hL)
theorem mj_if_lt {a : Int32} {off : Int} {tgt : Nat} (hd : decode M.2.1 pc = .ok (.ifCond .lt off, 3)) (ht : (pc : Int) + off = (tgt : Int)) (kt : a < 0 → mj_V M sh Q x tgt ls st) (kf : ¬ a < 0 → mj_V M sh Q x (pc + 3) ls st) : mj_V M sh Q x pc ls (.int a :: st) := by
  intro p l e s m args below meth c D A ad cA B H locs lsA hP hS hL
  exact lv_if_lt B.1 B.2.1 hd ht (fun h => kt h p l e s m args below meth c D A ad cA B H locs lsA hP hS hL) (fun h => kf h p l e s m args below meth c D A ad cA B H locs lsA hP hS hL)
theorem mj_ic_lt {a b : Int32} {off : Int} {tgt : Nat} (hd : decode M.2.1 pc = .ok (.if_icmp .lt off, 3)) (ht : (pc : Int) + off = (tgt : Int)) (kt : a < b → mj_V M sh Q x tgt ls st) (kf : ¬ a < b → mj_V M sh Q x (pc + 3) ls st) : mj_V M sh Q x pc ls (.int b :: .int a :: st) := by
  intro p l e s m args below meth c D A ad cA B H locs lsA hP hS hL
  exact lv_icmp_lt B.1 B.2.1 hd ht (fun h => kt h p l e s m args below meth c D A ad cA B H locs lsA hP hS hL) (fun h => kf h p l e s m args below meth c D A ad cA B H locs lsA hP hS hL)
theorem mj_if_ge {a : Int32} {off : Int} {tgt : Nat} (hd : decode M.2.1 pc = .ok (.ifCond .ge off, 3)) (ht : (pc : Int) + off = (tgt : Int)) (kt : 0 ≤ a → mj_V M sh Q x tgt ls st) (kf : ¬ 0 ≤ a → mj_V M sh Q x (pc + 3) ls st) : mj_V M sh Q x pc ls (.int a :: st) := by
  intro p l e s m args below meth c D A ad cA B H locs lsA hP hS hL
  exact lv_if_ge B.1 B.2.1 hd ht (fun h => kt h p l e s m args below meth c D A ad cA B H locs lsA hP hS hL) (fun h => kf h p l e s m args below meth c D A ad cA B H locs lsA hP hS hL)
theorem mj_ic_ge {a b : Int32} {off : Int} {tgt : Nat} (hd : decode M.2.1 pc = .ok (.if_icmp .ge off, 3)) (ht : (pc : Int) + off = (tgt : Int)) (kt : b ≤ a → mj_V M sh Q x tgt ls st) (kf : ¬ b ≤ a → mj_V M sh Q x (pc + 3) ls st) : mj_V M sh Q x pc ls (.int b :: .int a :: st) := by
  intro p l e s m args below meth c D A ad cA B H locs lsA hP hS hL
  exact lv_icmp_ge B.1 B.2.1 hd ht (fun h => kt h p l e s m args below meth c D A ad cA B H locs lsA hP hS hL) (fun h => kf h p l e s m args below meth c D A ad cA B H locs lsA hP hS hL)
theorem mj_if_gt {a : Int32} {off : Int} {tgt : Nat} (hd : decode M.2.1 pc = .ok (.ifCond .gt off, 3)) (ht : (pc : Int) + off = (tgt : Int)) (kt : 0 < a → mj_V M sh Q x tgt ls st) (kf : ¬ 0 < a → mj_V M sh Q x (pc + 3) ls st) : mj_V M sh Q x pc ls (.int a :: st) := by
  intro p l e s m args below meth c D A ad cA B H locs lsA hP hS hL
  exact lv_if_gt B.1 B.2.1 hd ht (fun h => kt h p l e s m args below meth c D A ad cA B H locs lsA hP hS hL) (fun h => kf h p l e s m args below meth c D A ad cA B H locs lsA hP hS hL)
theorem mj_ic_gt {a b : Int32} {off : Int} {tgt : Nat} (hd : decode M.2.1 pc = .ok (.if_icmp .gt off, 3)) (ht : (pc : Int) + off = (tgt : Int)) (kt : b < a → mj_V M sh Q x tgt ls st) (kf : ¬ b < a → mj_V M sh Q x (pc + 3) ls st) : mj_V M sh Q x pc ls (.int b :: .int a :: st) := by
  intro p l e s m args below meth c D A ad cA B H locs lsA hP hS hL
  exact lv_icmp_gt B.1 B.2.1 hd ht (fun h => kt h p l e s m args below meth c D A ad cA B H locs lsA hP hS hL) (fun h => kf h p l e s m args below meth c D A ad cA B H locs lsA hP hS hL)
theorem mj_if_le {a : Int32} {off : Int} {tgt : Nat} (hd : decode M.2.1 pc = .ok (.ifCond .le off, 3)) (ht : (pc : Int) + off = (tgt : Int)) (kt : a ≤ 0 → mj_V M sh Q x tgt ls st) (kf : ¬ a ≤ 0 → mj_V M sh Q x (pc + 3) ls st) : mj_V M sh Q x pc ls (.int a :: st) := by
  intro p l e s m args below meth c D A ad cA B H locs lsA hP hS hL
  exact lv_if_le B.1 B.2.1 hd ht (fun h => kt h p l e s m args below meth c D A ad cA B H locs lsA hP hS hL) (fun h => kf h p l e s m args below meth c D A ad cA B H locs lsA hP hS hL)
theorem mj_ic_le {a b : Int32} {off : Int} {tgt : Nat} (hd : decode M.2.1 pc = .ok (.if_icmp .le off, 3)) (ht : (pc : Int) + off = (tgt : Int)) (kt : a ≤ b → mj_V M sh Q x tgt ls st) (kf : ¬ a ≤ b → mj_V M sh Q x (pc + 3) ls st) : mj_V M sh Q x pc ls (.int b :: .int a :: st) := by
  intro p l e s m args below meth c D A ad cA B H locs lsA hP hS hL
  exact lv_icmp_le B.1 B.2.1 hd ht (fun h => kt h p l e s m args below meth c D A ad cA B H locs lsA hP hS hL) (fun h => kf h p l e s m args below meth c D A ad cA B H locs lsA hP hS hL)
theorem mj_goto {off : Int} {tgt : Nat} (hd : decode M.2.1 pc = .ok (.goto off, 3)) (ht : (pc : Int) + off = (tgt : Int)) (k : mj_V M sh Q x tgt ls st) : mj_V M sh Q x pc ls st := by
  intro p l e s m args below meth c D A ad cA B H locs lsA hP hS hL
  exact lv_goto B.1 B.2.1 hd ht (k p l e s m args below meth c D A ad cA B H locs lsA hP hS hL)
theorem mj_ist0 {w : Option Value} {r : List (Option Value)} {v : Int32} (hd : decode M.2.1 pc = .ok (.istore 0, 2)) (k : mj_V M sh Q x (pc + 2) (some (.int v) :: r) st) : mj_V M sh Q x pc (w :: r) (.int v :: st) := by
  intro p l e s m args below meth c D A ad cA B H locs lsA hP hS hL
  exact lv_istore B.1 B.2.1 hd hL.has (Nat.lt_of_lt_of_le (by simp only [List.length_cons]; omega) hL.2.2.1) rfl (fun lsB hB => k p l e s m args below meth c D A ad cA B H locs lsB hP hS (hL.set1 (i := 0) (v := .int v) (fun j hj => by cases hj) hB))
theorem mj_istn0 {w : Option Value} {r : List (Option Value)} {v : Int32} (hd : decode M.2.1 pc = .ok (.istore_n 0, 1)) (k : mj_V M sh Q x (pc + 1) (some (.int v) :: r) st) : mj_V M sh Q x pc (w :: r) (.int v :: st) := by
  intro p l e s m args below meth c D A ad cA B H locs lsA hP hS hL
  exact lv_istore_n B.1 B.2.1 hd rfl hL.has (Nat.lt_of_lt_of_le (by simp only [List.length_cons]; omega) hL.2.2.1) rfl (fun lsB hB => k p l e s m args below meth c D A ad cA B H locs lsB hP hS (hL.set1 (i := 0) (v := .int v) (fun j hj => by cases hj) hB))
theorem mj_inc0 {r : List (Option Value)} {v k0 : Int32} {n : Int} (hd : decode M.2.1 pc = .ok (.iinc 0 n, 3)) (hk : Int32.ofInt n = k0) (k : mj_V M sh Q x (pc + 3) (some (.int (v + k0)) :: r) st) : mj_V M sh Q x pc (some (.int v) :: r) st := by
  intro p l e s m args below meth c D A ad cA B H locs lsA hP hS hL
  obtain ⟨kk, hkk⟩ := List.getElem?_of_mem (mj_pr_in (ad := ad) (ls := some (.int v) :: r) (i := 0) (v := .int v) rfl)
  exact lv_iinc B.1 B.2.1 hd hL.has hkk (by rw [hk]) (Nat.lt_of_lt_of_le (by simp only [List.length_cons]; omega) hL.2.2.1) rfl (fun lsB hB => k p l e s m args below meth c D A ad cA B H locs lsB hP hS (hL.set1 (i := 0) (v := .int (v + k0)) (fun j hj => by cases hj) hB))
theorem mj_ist1 {a0 : Option Value} {w : Option Value} {r : List (Option Value)} {v : Int32} (hd : decode M.2.1 pc = .ok (.istore 1, 2)) (hn : mj_nl a0 = true) (k : mj_V M sh Q x (pc + 2) (a0 :: some (.int v) :: r) st) : mj_V M sh Q x pc (a0 :: w :: r) (.int v :: st) := by
  intro p l e s m args below meth c D A ad cA B H locs lsA hP hS hL
  exact lv_istore B.1 B.2.1 hd hL.has (Nat.lt_of_lt_of_le (by simp only [List.length_cons]; omega) hL.2.2.1) rfl (fun lsB hB => k p l e s m args below meth c D A ad cA B H locs lsB hP hS (hL.set1 (i := 1) (v := .int v) (fun j hj => by cases hj; exact hn) hB))
theorem mj_istn1 {a0 : Option Value} {w : Option Value} {r : List (Option Value)} {v : Int32} (hd : decode M.2.1 pc = .ok (.istore_n 1, 1)) (hn : mj_nl a0 = true) (k : mj_V M sh Q x (pc + 1) (a0 :: some (.int v) :: r) st) : mj_V M sh Q x pc (a0 :: w :: r) (.int v :: st) := by
  intro p l e s m args below meth c D A ad cA B H locs lsA hP hS hL
  exact lv_istore_n B.1 B.2.1 hd rfl hL.has (Nat.lt_of_lt_of_le (by simp only [List.length_cons]; omega) hL.2.2.1) rfl (fun lsB hB => k p l e s m args below meth c D A ad cA B H locs lsB hP hS (hL.set1 (i := 1) (v := .int v) (fun j hj => by cases hj; exact hn) hB))
theorem mj_inc1 {a0 : Option Value} {r : List (Option Value)} {v k0 : Int32} {n : Int} (hd : decode M.2.1 pc = .ok (.iinc 1 n, 3)) (hk : Int32.ofInt n = k0) (hn : mj_nl a0 = true) (k : mj_V M sh Q x (pc + 3) (a0 :: some (.int (v + k0)) :: r) st) : mj_V M sh Q x pc (a0 :: some (.int v) :: r) st := by
  intro p l e s m args below meth c D A ad cA B H locs lsA hP hS hL
  obtain ⟨kk, hkk⟩ := List.getElem?_of_mem (mj_pr_in (ad := ad) (ls := a0 :: some (.int v) :: r) (i := 1) (v := .int v) rfl)
  exact lv_iinc B.1 B.2.1 hd hL.has hkk (by rw [hk]) (Nat.lt_of_lt_of_le (by simp only [List.length_cons]; omega) hL.2.2.1) rfl (fun lsB hB => k p l e s m args below meth c D A ad cA B H locs lsB hP hS (hL.set1 (i := 1) (v := .int (v + k0)) (fun j hj => by cases hj; exact hn) hB))
theorem mj_ist2 {a0 a1 : Option Value} {w : Option Value} {r : List (Option Value)} {v : Int32} (hd : decode M.2.1 pc = .ok (.istore 2, 2)) (hn : mj_nl a1 = true) (k : mj_V M sh Q x (pc + 2) (a0 :: a1 :: some (.int v) :: r) st) : mj_V M sh Q x pc (a0 :: a1 :: w :: r) (.int v :: st) := by
  intro p l e s m args below meth c D A ad cA B H locs lsA hP hS hL
  exact lv_istore B.1 B.2.1 hd hL.has (Nat.lt_of_lt_of_le (by simp only [List.length_cons]; omega) hL.2.2.1) rfl (fun lsB hB => k p l e s m args below meth c D A ad cA B H locs lsB hP hS (hL.set1 (i := 2) (v := .int v) (fun j hj => by cases hj; exact hn) hB))
theorem mj_istn2 {a0 a1 : Option Value} {w : Option Value} {r : List (Option Value)} {v : Int32} (hd : decode M.2.1 pc = .ok (.istore_n 2, 1)) (hn : mj_nl a1 = true) (k : mj_V M sh Q x (pc + 1) (a0 :: a1 :: some (.int v) :: r) st) : mj_V M sh Q x pc (a0 :: a1 :: w :: r) (.int v :: st) := by
  intro p l e s m args below meth c D A ad cA B H locs lsA hP hS hL
  exact lv_istore_n B.1 B.2.1 hd rfl hL.has (Nat.lt_of_lt_of_le (by simp only [List.length_cons]; omega) hL.2.2.1) rfl (fun lsB hB => k p l e s m args below meth c D A ad cA B H locs lsB hP hS (hL.set1 (i := 2) (v := .int v) (fun j hj => by cases hj; exact hn) hB))
theorem mj_inc2 {a0 a1 : Option Value} {r : List (Option Value)} {v k0 : Int32} {n : Int} (hd : decode M.2.1 pc = .ok (.iinc 2 n, 3)) (hk : Int32.ofInt n = k0) (hn : mj_nl a1 = true) (k : mj_V M sh Q x (pc + 3) (a0 :: a1 :: some (.int (v + k0)) :: r) st) : mj_V M sh Q x pc (a0 :: a1 :: some (.int v) :: r) st := by
  intro p l e s m args below meth c D A ad cA B H locs lsA hP hS hL
  obtain ⟨kk, hkk⟩ := List.getElem?_of_mem (mj_pr_in (ad := ad) (ls := a0 :: a1 :: some (.int v) :: r) (i := 2) (v := .int v) rfl)
  exact lv_iinc B.1 B.2.1 hd hL.has hkk (by rw [hk]) (Nat.lt_of_lt_of_le (by simp only [List.length_cons]; omega) hL.2.2.1) rfl (fun lsB hB => k p l e s m args below meth c D A ad cA B H locs lsB hP hS (hL.set1 (i := 2) (v := .int (v + k0)) (fun j hj => by cases hj; exact hn) hB))
theorem mj_ist3 {a0 a1 a2 : Option Value} {w : Option Value} {r : List (Option Value)} {v : Int32} (hd : decode M.2.1 pc = .ok (.istore 3, 2)) (hn : mj_nl a2 = true) (k : mj_V M sh Q x (pc + 2) (a0 :: a1 :: a2 :: some (.int v) :: r) st) : mj_V M sh Q x pc (a0 :: a1 :: a2 :: w :: r) (.int v :: st) := by
  intro p l e s m args below meth c D A ad cA B H locs lsA hP hS hL
  exact lv_istore B.1 B.2.1 hd hL.has (Nat.lt_of_lt_of_le (by simp only [List.length_cons]; omega) hL.2.2.1) rfl (fun lsB hB => k p l e s m args below meth c D A ad cA B H locs lsB hP hS (hL.set1 (i := 3) (v := .int v) (fun j hj => by cases hj; exact hn) hB))
theorem mj_istn3 {a0 a1 a2 : Option Value} {w : Option Value} {r : List (Option Value)} {v : Int32} (hd : decode M.2.1 pc = .ok (.istore_n 3, 1)) (hn : mj_nl a2 = true) (k : mj_V M sh Q x (pc + 1) (a0 :: a1 :: a2 :: some (.int v) :: r) st) : mj_V M sh Q x pc (a0 :: a1 :: a2 :: w :: r) (.int v :: st) := by
  intro p l e s m args below meth c D A ad cA B H locs lsA hP hS hL
  exact lv_istore_n B.1 B.2.1 hd rfl hL.has (Nat.lt_of_lt_of_le (by simp only [List.length_cons]; omega) hL.2.2.1) rfl (fun lsB hB => k p l e s m args below meth c D A ad cA B H locs lsB hP hS (hL.set1 (i := 3) (v := .int v) (fun j hj => by cases hj; exact hn) hB))
theorem mj_inc3 {a0 a1 a2 : Option Value} {r : List (Option Value)} {v k0 : Int32} {n : Int} (hd : decode M.2.1 pc = .ok (.iinc 3 n, 3)) (hk : Int32.ofInt n = k0) (hn : mj_nl a2 = true) (k : mj_V M sh Q x (pc + 3) (a0 :: a1 :: a2 :: some (.int (v + k0)) :: r) st) : mj_V M sh Q x pc (a0 :: a1 :: a2 :: some (.int v) :: r) st := by
  intro p l e s m args below meth c D A ad cA B H locs lsA hP hS hL
  obtain ⟨kk, hkk⟩ := List.getElem?_of_mem (mj_pr_in (ad := ad) (ls := a0 :: a1 :: a2 :: some (.int v) :: r) (i := 3) (v := .int v) rfl)
  exact lv_iinc B.1 B.2.1 hd hL.has hkk (by rw [hk]) (Nat.lt_of_lt_of_le (by simp only [List.length_cons]; omega) hL.2.2.1) rfl (fun lsB hB => k p l e s m args below meth c D A ad cA B H locs lsB hP hS (hL.set1 (i := 3) (v := .int (v + k0)) (fun j hj => by cases hj; exact hn) hB))
theorem mj_ist4 {a0 a1 a2 a3 : Option Value} {w : Option Value} {r : List (Option Value)} {v : Int32} (hd : decode M.2.1 pc = .ok (.istore 4, 2)) (hn : mj_nl a3 = true) (k : mj_V M sh Q x (pc + 2) (a0 :: a1 :: a2 :: a3 :: some (.int v) :: r) st) : mj_V M sh Q x pc (a0 :: a1 :: a2 :: a3 :: w :: r) (.int v :: st) := by
  intro p l e s m args below meth c D A ad cA B H locs lsA hP hS hL
  exact lv_istore B.1 B.2.1 hd hL.has (Nat.lt_of_lt_of_le (by simp only [List.length_cons]; omega) hL.2.2.1) rfl (fun lsB hB => k p l e s m args below meth c D A ad cA B H locs lsB hP hS (hL.set1 (i := 4) (v := .int v) (fun j hj => by cases hj; exact hn) hB))
theorem mj_inc4 {a0 a1 a2 a3 : Option Value} {r : List (Option Value)} {v k0 : Int32} {n : Int} (hd : decode M.2.1 pc = .ok (.iinc 4 n, 3)) (hk : Int32.ofInt n = k0) (hn : mj_nl a3 = true) (k : mj_V M sh Q x (pc + 3) (a0 :: a1 :: a2 :: a3 :: some (.int (v + k0)) :: r) st) : mj_V M sh Q x pc (a0 :: a1 :: a2 :: a3 :: some (.int v) :: r) st := by
  intro p l e s m args below meth c D A ad cA B H locs lsA hP hS hL
  obtain ⟨kk, hkk⟩ := List.getElem?_of_mem (mj_pr_in (ad := ad) (ls := a0 :: a1 :: a2 :: a3 :: some (.int v) :: r) (i := 4) (v := .int v) rfl)
  exact lv_iinc B.1 B.2.1 hd hL.has hkk (by rw [hk]) (Nat.lt_of_lt_of_le (by simp only [List.length_cons]; omega) hL.2.2.1) rfl (fun lsB hB => k p l e s m args below meth c D A ad cA B H locs lsB hP hS (hL.set1 (i := 4) (v := .int (v + k0)) (fun j hj => by cases hj; exact hn) hB))
theorem mj_ist5 {a0 a1 a2 a3 a4 : Option Value} {w : Option Value} {r : List (Option Value)} {v : Int32} (hd : decode M.2.1 pc = .ok (.istore 5, 2)) (hn : mj_nl a4 = true) (k : mj_V M sh Q x (pc + 2) (a0 :: a1 :: a2 :: a3 :: a4 :: some (.int v) :: r) st) : mj_V M sh Q x pc (a0 :: a1 :: a2 :: a3 :: a4 :: w :: r) (.int v :: st) := by
  intro p l e s m args below meth c D A ad cA B H locs lsA hP hS hL
  exact lv_istore B.1 B.2.1 hd hL.has (Nat.lt_of_lt_of_le (by simp only [List.length_cons]; omega) hL.2.2.1) rfl (fun lsB hB => k p l e s m args below meth c D A ad cA B H locs lsB hP hS (hL.set1 (i := 5) (v := .int v) (fun j hj => by cases hj; exact hn) hB))
theorem mj_inc5 {a0 a1 a2 a3 a4 : Option Value} {r : List (Option Value)} {v k0 : Int32} {n : Int} (hd : decode M.2.1 pc = .ok (.iinc 5 n, 3)) (hk : Int32.ofInt n = k0) (hn : mj_nl a4 = true) (k : mj_V M sh Q x (pc + 3) (a0 :: a1 :: a2 :: a3 :: a4 :: some (.int (v + k0)) :: r) st) : mj_V M sh Q x pc (a0 :: a1 :: a2 :: a3 :: a4 :: some (.int v) :: r) st := by
  intro p l e s m args below meth c D A ad cA B H locs lsA hP hS hL
  obtain ⟨kk, hkk⟩ := List.getElem?_of_mem (mj_pr_in (ad := ad) (ls := a0 :: a1 :: a2 :: a3 :: a4 :: some (.int v) :: r) (i := 5) (v := .int v) rfl)
  exact lv_iinc B.1 B.2.1 hd hL.has hkk (by rw [hk]) (Nat.lt_of_lt_of_le (by simp only [List.length_cons]; omega) hL.2.2.1) rfl (fun lsB hB => k p l e s m args below meth c D A ad cA B H locs lsB hP hS (hL.set1 (i := 5) (v := .int (v + k0)) (fun j hj => by cases hj; exact hn) hB))
theorem mj_ist6 {a0 a1 a2 a3 a4 a5 : Option Value} {w : Option Value} {r : List (Option Value)} {v : Int32} (hd : decode M.2.1 pc = .ok (.istore 6, 2)) (hn : mj_nl a5 = true) (k : mj_V M sh Q x (pc + 2) (a0 :: a1 :: a2 :: a3 :: a4 :: a5 :: some (.int v) :: r) st) : mj_V M sh Q x pc (a0 :: a1 :: a2 :: a3 :: a4 :: a5 :: w :: r) (.int v :: st) := by
  intro p l e s m args below meth c D A ad cA B H locs lsA hP hS hL
  exact lv_istore B.1 B.2.1 hd hL.has (Nat.lt_of_lt_of_le (by simp only [List.length_cons]; omega) hL.2.2.1) rfl (fun lsB hB => k p l e s m args below meth c D A ad cA B H locs lsB hP hS (hL.set1 (i := 6) (v := .int v) (fun j hj => by cases hj; exact hn) hB))
theorem mj_inc6 {a0 a1 a2 a3 a4 a5 : Option Value} {r : List (Option Value)} {v k0 : Int32} {n : Int} (hd : decode M.2.1 pc = .ok (.iinc 6 n, 3)) (hk : Int32.ofInt n = k0) (hn : mj_nl a5 = true) (k : mj_V M sh Q x (pc + 3) (a0 :: a1 :: a2 :: a3 :: a4 :: a5 :: some (.int (v + k0)) :: r) st) : mj_V M sh Q x pc (a0 :: a1 :: a2 :: a3 :: a4 :: a5 :: some (.int v) :: r) st := by
  intro p l e s m args below meth c D A ad cA B H locs lsA hP hS hL
  obtain ⟨kk, hkk⟩ := List.getElem?_of_mem (mj_pr_in (ad := ad) (ls := a0 :: a1 :: a2 :: a3 :: a4 :: a5 :: some (.int v) :: r) (i := 6) (v := .int v) rfl)
  exact lv_iinc B.1 B.2.1 hd hL.has hkk (by rw [hk]) (Nat.lt_of_lt_of_le (by simp only [List.length_cons]; omega) hL.2.2.1) rfl (fun lsB hB => k p l e s m args below meth c D A ad cA B H locs lsB hP hS (hL.set1 (i := 6) (v := .int (v + k0)) (fun j hj => by cases hj; exact hn) hB))
theorem mj_ist7 {a0 a1 a2 a3 a4 a5 a6 : Option Value} {w : Option Value} {r : List (Option Value)} {v : Int32} (hd : decode M.2.1 pc = .ok (.istore 7, 2)) (hn : mj_nl a6 = true) (k : mj_V M sh Q x (pc + 2) (a0 :: a1 :: a2 :: a3 :: a4 :: a5 :: a6 :: some (.int v) :: r) st) : mj_V M sh Q x pc (a0 :: a1 :: a2 :: a3 :: a4 :: a5 :: a6 :: w :: r) (.int v :: st) := by
  intro p l e s m args below meth c D A ad cA B H locs lsA hP hS hL
  exact lv_istore B.1 B.2.1 hd hL.has (Nat.lt_of_lt_of_le (by simp only [List.length_cons]; omega) hL.2.2.1) rfl (fun lsB hB => k p l e s m args below meth c D A ad cA B H locs lsB hP hS (hL.set1 (i := 7) (v := .int v) (fun j hj => by cases hj; exact hn) hB))
theorem mj_inc7 {a0 a1 a2 a3 a4 a5 a6 : Option Value} {r : List (Option Value)} {v k0 : Int32} {n : Int} (hd : decode M.2.1 pc = .ok (.iinc 7 n, 3)) (hk : Int32.ofInt n = k0) (hn : mj_nl a6 = true) (k : mj_V M sh Q x (pc + 3) (a0 :: a1 :: a2 :: a3 :: a4 :: a5 :: a6 :: some (.int (v + k0)) :: r) st) : mj_V M sh Q x pc (a0 :: a1 :: a2 :: a3 :: a4 :: a5 :: a6 :: some (.int v) :: r) st := by
  intro p l e s m args below meth c D A ad cA B H locs lsA hP hS hL
  obtain ⟨kk, hkk⟩ := List.getElem?_of_mem (mj_pr_in (ad := ad) (ls := a0 :: a1 :: a2 :: a3 :: a4 :: a5 :: a6 :: some (.int v) :: r) (i := 7) (v := .int v) rfl)
  exact lv_iinc B.1 B.2.1 hd hL.has hkk (by rw [hk]) (Nat.lt_of_lt_of_le (by simp only [List.length_cons]; omega) hL.2.2.1) rfl (fun lsB hB => k p l e s m args below meth c D A ad cA B H locs lsB hP hS (hL.set1 (i := 7) (v := .int (v + k0)) (fun j hj => by cases hj; exact hn) hB))
theorem mj_ist8 {a0 a1 a2 a3 a4 a5 a6 a7 : Option Value} {w : Option Value} {r : List (Option Value)} {v : Int32} (hd : decode M.2.1 pc = .ok (.istore 8, 2)) (hn : mj_nl a7 = true) (k : mj_V M sh Q x (pc + 2) (a0 :: a1 :: a2 :: a3 :: a4 :: a5 :: a6 :: a7 :: some (.int v) :: r) st) : mj_V M sh Q x pc (a0 :: a1 :: a2 :: a3 :: a4 :: a5 :: a6 :: a7 :: w :: r) (.int v :: st) := by
  intro p l e s m args below meth c D A ad cA B H locs lsA hP hS hL
  exact lv_istore B.1 B.2.1 hd hL.has (Nat.lt_of_lt_of_le (by simp only [List.length_cons]; omega) hL.2.2.1) rfl (fun lsB hB => k p l e s m args below meth c D A ad cA B H locs lsB hP hS (hL.set1 (i := 8) (v := .int v) (fun j hj => by cases hj; exact hn) hB))
theorem mj_inc8 {a0 a1 a2 a3 a4 a5 a6 a7 : Option Value} {r : List (Option Value)} {v k0 : Int32} {n : Int} (hd : decode M.2.1 pc = .ok (.iinc 8 n, 3)) (hk : Int32.ofInt n = k0) (hn : mj_nl a7 = true) (k : mj_V M sh Q x (pc + 3) (a0 :: a1 :: a2 :: a3 :: a4 :: a5 :: a6 :: a7 :: some (.int (v + k0)) :: r) st) : mj_V M sh Q x pc (a0 :: a1 :: a2 :: a3 :: a4 :: a5 :: a6 :: a7 :: some (.int v) :: r) st := by
  intro p l e s m args below meth c D A ad cA B H locs lsA hP hS hL
  obtain ⟨kk, hkk⟩ := List.getElem?_of_mem (mj_pr_in (ad := ad) (ls := a0 :: a1 :: a2 :: a3 :: a4 :: a5 :: a6 :: a7 :: some (.int v) :: r) (i := 8) (v := .int v) rfl)
  exact lv_iinc B.1 B.2.1 hd hL.has hkk (by rw [hk]) (Nat.lt_of_lt_of_le (by simp only [List.length_cons]; omega) hL.2.2.1) rfl (fun lsB hB => k p l e s m args below meth c D A ad cA B H locs lsB hP hS (hL.set1 (i := 8) (v := .int (v + k0)) (fun j hj => by cases hj; exact hn) hB))
theorem mj_ist9 {a0 a1 a2 a3 a4 a5 a6 a7 a8 : Option Value} {w : Option Value} {r : List (Option Value)} {v : Int32} (hd : decode M.2.1 pc = .ok (.istore 9, 2)) (hn : mj_nl a8 = true) (k : mj_V M sh Q x (pc + 2) (a0 :: a1 :: a2 :: a3 :: a4 :: a5 :: a6 :: a7 :: a8 :: some (.int v) :: r) st) : mj_V M sh Q x pc (a0 :: a1 :: a2 :: a3 :: a4 :: a5 :: a6 :: a7 :: a8 :: w :: r) (.int v :: st) := by
  intro p l e s m args below meth c D A ad cA B H locs lsA hP hS hL
  exact lv_istore B.1 B.2.1 hd hL.has (Nat.lt_of_lt_of_le (by simp only [List.length_cons]; omega) hL.2.2.1) rfl (fun lsB hB => k p l e s m args below meth c D A ad cA B H locs lsB hP hS (hL.set1 (i := 9) (v := .int v) (fun j hj => by cases hj; exact hn) hB))
theorem mj_inc9 {a0 a1 a2 a3 a4 a5 a6 a7 a8 : Option Value} {r : List (Option Value)} {v k0 : Int32} {n : Int} (hd : decode M.2.1 pc = .ok (.iinc 9 n, 3)) (hk : Int32.ofInt n = k0) (hn : mj_nl a8 = true) (k : mj_V M sh Q x (pc + 3) (a0 :: a1 :: a2 :: a3 :: a4 :: a5 :: a6 :: a7 :: a8 :: some (.int (v + k0)) :: r) st) : mj_V M sh Q x pc (a0 :: a1 :: a2 :: a3 :: a4 :: a5 :: a6 :: a7 :: a8 :: some (.int v) :: r) st := by
  intro p l e s m args below meth c D A ad cA B H locs lsA hP hS hL
  obtain ⟨kk, hkk⟩ := List.getElem?_of_mem (mj_pr_in (ad := ad) (ls := a0 :: a1 :: a2 :: a3 :: a4 :: a5 :: a6 :: a7 :: a8 :: some (.int v) :: r) (i := 9) (v := .int v) rfl)
  exact lv_iinc B.1 B.2.1 hd hL.has hkk (by rw [hk]) (Nat.lt_of_lt_of_le (by simp only [List.length_cons]; omega) hL.2.2.1) rfl (fun lsB hB => k p l e s m args below meth c D A ad cA B H locs lsB hP hS (hL.set1 (i := 9) (v := .int (v + k0)) (fun j hj => by cases hj; exact hn) hB))
theorem mj_ist10 {a0 a1 a2 a3 a4 a5 a6 a7 a8 a9 : Option Value} {w : Option Value} {r : List (Option Value)} {v : Int32} (hd : decode M.2.1 pc = .ok (.istore 10, 2)) (hn : mj_nl a9 = true) (k : mj_V M sh Q x (pc + 2) (a0 :: a1 :: a2 :: a3 :: a4 :: a5 :: a6 :: a7 :: a8 :: a9 :: some (.int v) :: r) st) : mj_V M sh Q x pc (a0 :: a1 :: a2 :: a3 :: a4 :: a5 :: a6 :: a7 :: a8 :: a9 :: w :: r) (.int v :: st) := by
  intro p l e s m args below meth c D A ad cA B H locs lsA hP hS hL
  exact lv_istore B.1 B.2.1 hd hL.has (Nat.lt_of_lt_of_le (by simp only [List.length_cons]; omega) hL.2.2.1) rfl (fun lsB hB => k p l e s m args below meth c D A ad cA B H locs lsB hP hS (hL.set1 (i := 10) (v := .int v) (fun j hj => by cases hj; exact hn) hB))
theorem mj_inc10 {a0 a1 a2 a3 a4 a5 a6 a7 a8 a9 : Option Value} {r : List (Option Value)} {v k0 : Int32} {n : Int} (hd : decode M.2.1 pc = .ok (.iinc 10 n, 3)) (hk : Int32.ofInt n = k0) (hn : mj_nl a9 = true) (k : mj_V M sh Q x (pc + 3) (a0 :: a1 :: a2 :: a3 :: a4 :: a5 :: a6 :: a7 :: a8 :: a9 :: some (.int (v + k0)) :: r) st) : mj_V M sh Q x pc (a0 :: a1 :: a2 :: a3 :: a4 :: a5 :: a6 :: a7 :: a8 :: a9 :: some (.int v) :: r) st := by
  intro p l e s m args below meth c D A ad cA B H locs lsA hP hS hL
  obtain ⟨kk, hkk⟩ := List.getElem?_of_mem (mj_pr_in (ad := ad) (ls := a0 :: a1 :: a2 :: a3 :: a4 :: a5 :: a6 :: a7 :: a8 :: a9 :: some (.int v) :: r) (i := 10) (v := .int v) rfl)
  exact lv_iinc B.1 B.2.1 hd hL.has hkk (by rw [hk]) (Nat.lt_of_lt_of_le (by simp only [List.length_cons]; omega) hL.2.2.1) rfl (fun lsB hB => k p l e s m args below meth c D A ad cA B H locs lsB hP hS (hL.set1 (i := 10) (v := .int (v + k0)) (fun j hj => by cases hj; exact hn) hB))
theorem mj_ist11 {a0 a1 a2 a3 a4 a5 a6 a7 a8 a9 a10 : Option Value} {w : Option Value} {r : List (Option Value)} {v : Int32} (hd : decode M.2.1 pc = .ok (.istore 11, 2)) (hn : mj_nl a10 = true) (k : mj_V M sh Q x (pc + 2) (a0 :: a1 :: a2 :: a3 :: a4 :: a5 :: a6 :: a7 :: a8 :: a9 :: a10 :: some (.int v) :: r) st) : mj_V M sh Q x pc (a0 :: a1 :: a2 :: a3 :: a4 :: a5 :: a6 :: a7 :: a8 :: a9 :: a10 :: w :: r) (.int v :: st) := by
  intro p l e s m args below meth c D A ad cA B H locs lsA hP hS hL
  exact lv_istore B.1 B.2.1 hd hL.has (Nat.lt_of_lt_of_le (by simp only [List.length_cons]; omega) hL.2.2.1) rfl (fun lsB hB => k p l e s m args below meth c D A ad cA B H locs lsB hP hS (hL.set1 (i := 11) (v := .int v) (fun j hj => by cases hj; exact hn) hB))
theorem mj_inc11 {a0 a1 a2 a3 a4 a5 a6 a7 a8 a9 a10 : Option Value} {r : List (Option Value)} {v k0 : Int32} {n : Int} (hd : decode M.2.1 pc = .ok (.iinc 11 n, 3)) (hk : Int32.ofInt n = k0) (hn : mj_nl a10 = true) (k : mj_V M sh Q x (pc + 3) (a0 :: a1 :: a2 :: a3 :: a4 :: a5 :: a6 :: a7 :: a8 :: a9 :: a10 :: some (.int (v + k0)) :: r) st) : mj_V M sh Q x pc (a0 :: a1 :: a2 :: a3 :: a4 :: a5 :: a6 :: a7 :: a8 :: a9 :: a10 :: some (.int v) :: r) st := by
  intro p l e s m args below meth c D A ad cA B H locs lsA hP hS hL
  obtain ⟨kk, hkk⟩ := List.getElem?_of_mem (mj_pr_in (ad := ad) (ls := a0 :: a1 :: a2 :: a3 :: a4 :: a5 :: a6 :: a7 :: a8 :: a9 :: a10 :: some (.int v) :: r) (i := 11) (v := .int v) rfl)
  exact lv_iinc B.1 B.2.1 hd hL.has hkk (by rw [hk]) (Nat.lt_of_lt_of_le (by simp only [List.length_cons]; omega) hL.2.2.1) rfl (fun lsB hB => k p l e s m args below meth c D A ad cA B H locs lsB hP hS (hL.set1 (i := 11) (v := .int (v + k0)) (fun j hj => by cases hj; exact hn) hB))
theorem mj_iald {c0 n : Nat} {i : Int32} (hd : decode M.2.1 pc = .ok (.iaload, 1)) (hsh : sh[c0]? = some (.inr n)) (j : Nat) (hj : j < n) (hi : i = nI j) (hn : n < 2 ^ 31) (k : mj_V M sh Q x (pc + 1) ls (.int (x c0 j) :: st)) : mj_V M sh Q x pc ls (.int i :: .ref c0 :: st) := by
  intro p l e s m args below meth c D A ad cA B H locs lsA hP hS hL
  subst hi
  have hk := k p l e s m args below meth c D A ad cA B H locs lsA hP hS hL
  refine va_iald (i := nI j) B.1 B.2.1 B.2.2.2.2.2.2.2.1 hP c0 0 (mj_w_at hsh) rfl (vp_in_nI hj hn) hd ?_
  rw [nI_clamp (by omega)]
  exact hk
theorem mj_iast {c0 n : Nat} {i v : Int32} (hd : decode M.2.1 pc = .ok (.iastore, 1)) (hsh : sh[c0]? = some (.inr n)) (j : Nat) (hj : j < n) (hi : i = nI j) (hn : n < 2 ^ 31) (k : mj_V M sh Q (mj_up x c0 j v) (pc + 1) ls st) : mj_V M sh Q x pc ls (.int v :: .int i :: .ref c0 :: st) := by
  intro p l e s m args below meth c D A ad cA B H locs lsA hP hS hL
  subst hi
  refine va_iast (i := nI j) (x := v) B.1 B.2.1 B.2.2.2.2.2.2.2.1 hP (mj_D B.2.2.2.2.2.2 x) hS c0 0 (mj_w_at hsh) rfl (vp_in_nI hj hn) hd (fun H1 locs1 hP1 _ hS1 => ?_)
  rw [nI_clamp (by omega), mj_w_set (ad := ad) (cA := cA) (x := x) (k := c0) (i := j) (v := v) (e := .inl (cA, n, .inl (upd (x c0) j v))) hsh rfl] at hP1
  exact k p l e s m args below meth c D A ad cA B H1 locs1 lsA hP1 hS1 hL
theorem mj_alen {c0 n : Nat} (hd : decode M.2.1 pc = .ok (.arraylength, 1)) (hsh : sh[c0]? = some (.inr n)) (k : mj_V M sh Q x (pc + 1) ls (.int (nI n) :: st)) : mj_V M sh Q x pc ls (.ref c0 :: st) := by
  intro p l e s m args below meth c D A ad cA B H locs lsA hP hS hL
  exact va_alen B.1 B.2.1 B.2.2.2.2.2.2.2.1 hP c0 0 (mj_w_at hsh) rfl rfl hd (k p l e s m args below meth c D A ad cA B H locs lsA hP hS hL)
def mj_wd (w : Cond) : Prop := w ∈ lw_tbl ∧ goodWord w = true
def mj_wn (w : Cond) : Prop := w ∈ lw_tbl ∧ mj_nest w = true
theorem mj_in {ws : List Cond} (h : GoodIn lw_tbl ws) (hg : ws.all goodWord = true) : ∀ w ∈ ws, w ∈ mj_tb := fun w hw => List.mem_filter.mpr ⟨(h w hw).1, List.all_eq_true.mp hg w hw⟩
/-- what is known of a field: class ci of the table, place k; its link from the class own -/
def mj_fk (own : String) (idx ci k : Nat) (C : String) (T : u_T) (N : Nat) : Prop :=
  mj_cl[ci]? = some (C, T, N) ∧ k < N ∧ (∀ w ∈ u_ws C T N, w ∈ mj_tb) ∧ (T k).1 = C ∧ (mj_wd (.fieldLink own idx C (T k).2.1 (T k).2.2.1) ∨ ∃ h, mj_wn (.fieldLinkNest own idx C (T k).2.1 (T k).2.2.1 h))
theorem mj_get {ci kf idx c0 : Nat} {C : String} {T : u_T} {N : Nat} {fs : List (Option Nat)} {f : Option Nat} {v : Value} (hk : mj_fk M.1.cls idx ci kf C T N) (hd : decode M.2.1 pc = .ok (.getfield idx, 3)) (hsh : sh[c0]? = some (.inl (ci, fs))) (hf : fs[kf]? = some f) (hv : ∀ ad, mj_v ad v = mj_fv ad (x c0) kf f) (k : mj_V M sh Q x (pc + 3) ls (v :: st)) : mj_V M sh Q x pc ls (.ref c0 :: st) := by
  intro p l e s m args below meth c D A ad cA B H locs lsA hP hS hL
  obtain ⟨h1, h2, h3, h4, h5⟩ := hk
  have hk2 := k p l e s m args below meth c D A ad cA B H locs lsA hP hS hL
  rw [List.map_cons, hv ad] at hk2
  rcases h5 with h5 | ⟨h, h5⟩
  · exact va_get B.1 B.2.1 (B.2.2.2.2.2.2.1.all args) h3 B.2.2.2.2.2.1 B.2.2.2.2.2.2.2.1 hP c0 (mj_w_at hsh) h1 kf h2 (mj_use B.2.2.2.2.2.2.1 h5.1 h5.2 args) (fun z hz => by rw [h4] at hz; exact hz) (mj_fs_at hf) hd hk2
  · exact va_getN B.1 B.2.1 (B.2.2.2.2.2.2.1.all args) h3 B.2.2.2.2.2.1 B.2.2.2.2.2.2.2.1 hP c0 (mj_w_at hsh) h1 kf h2 (va_Nw.use rfl (B.2.2.2.2.2.2.1.2 _ h5.1 h5.2)) (fun z hz => by rw [h4] at hz; exact hz) (mj_fs_at hf) hd hk2
theorem mj_geti {ci kf idx c0 : Nat} {C : String} {T : u_T} {N : Nat} {fs : List (Option Nat)} (hk : mj_fk M.1.cls idx ci kf C T N) (hd : decode M.2.1 pc = .ok (.getfield idx, 3)) (hsh : sh[c0]? = some (.inl (ci, fs))) (hf : fs[kf]? = some none) (k : mj_V M sh Q x (pc + 3) ls (.int (x c0 kf) :: st)) : mj_V M sh Q x pc ls (.ref c0 :: st) :=
  mj_get hk hd hsh hf (fun _ => rfl) k
theorem mj_getr {ci kf idx c0 c1 : Nat} {C : String} {T : u_T} {N : Nat} {fs : List (Option Nat)} (hk : mj_fk M.1.cls idx ci kf C T N) (hd : decode M.2.1 pc = .ok (.getfield idx, 3)) (hsh : sh[c0]? = some (.inl (ci, fs))) (hf : fs[kf]? = some (some c1)) (k : mj_V M sh Q x (pc + 3) ls (.ref c1 :: st)) : mj_V M sh Q x pc ls (.ref c0 :: st) :=
  mj_get hk hd hsh hf (fun _ => rfl) k
theorem mj_put {ci kf idx c0 : Nat} {C : String} {T : u_T} {N : Nat} {fs : List (Option Nat)} {v : Int32} {ty : FieldType} {ty0 : Nat → FieldType} (hk : mj_fk M.1.cls idx ci kf C T N) (hty : ∀ k, k < N → parseFieldDescriptor (T k).2.2.1 = some (ty0 k)) (hnm : ∀ a, a < N → ∀ b, b < N → a ≠ b → (T a).2.1 ≠ (T b).2.1) (hfin : (T kf).2.2.2 = false) (hdty : parseFieldDescriptor (T kf).2.2.1 = some ty) (hn : narrow ty (.int v) = .int v) (hfit : fits ty (.int v) = true) (hd : decode M.2.1 pc = .ok (.putfield idx, 3)) (hsh : sh[c0]? = some (.inl (ci, fs))) (hf : fs[kf]? = some none) (k : mj_V M sh Q (mj_up x c0 kf v) (pc + 3) ls st) : mj_V M sh Q x pc ls (.int v :: .ref c0 :: st) := by
  intro p l e s m args below meth c D A ad cA B H locs lsA hP hS hL
  obtain ⟨h1, h2, h3, h4, h5⟩ := hk
  have hlen : kf < (fs.mapIdx (mj_fv ad (x c0))).length := by rw [List.length_mapIdx]; exact (List.getElem?_eq_some_iff.mp hf).1
  have fin : ∀ (H1 : Heap) (locs1 : List Loc), va_P D mj_cl ((mj_w ad cA x sh).set c0 (ad c0, .inr (ci, (fs.mapIdx (mj_fv ad (x c0))).set kf (.int v)))) H1 → va_S A s.heap H1 locs1 → W p l e (mj_rm M) s m args below meth c H1 locs1 0 0 (MQ below (mj_Qc D A ad cA sh Q) args s 0 0 A) (F0 m (pc + 3) lsA (st.map (mj_v ad))) := by
    intro H1 locs1 hP1 hS1
    rw [mj_fs_set hf, mj_w_set (ad := ad) (cA := cA) (x := x) (k := c0) (i := kf) (v := v) (e := .inr (ci, fs.mapIdx (mj_fv ad (upd (x c0) kf v)))) hsh rfl] at hP1
    exact k p l e s m args below meth c D A ad cA B H1 locs1 lsA hP1 hS1 hL
  rcases h5 with h5 | ⟨h, h5⟩
  · exact va_put B.1 B.2.1 (B.2.2.2.2.2.2.1.all args) h3 ty0 hty hnm B.2.2.2.2.2.1 B.2.2.2.2.2.2.2.1 hP (mj_D B.2.2.2.2.2.2 x) hS c0 (mj_w_at hsh) h1 kf h2 (mj_use B.2.2.2.2.2.2.1 h5.1 h5.2 args) (fun z hz => by rw [h4] at hz; exact hz) hfin hdty hn hfit hlen hd (fun H1 locs1 a _ b => fin H1 locs1 a b)
  · exact va_putN B.1 B.2.1 (B.2.2.2.2.2.2.1.all args) h3 ty0 hty hnm B.2.2.2.2.2.1 B.2.2.2.2.2.2.2.1 hP (mj_D B.2.2.2.2.2.2 x) hS c0 (mj_w_at hsh) h1 kf h2 (va_Nw.use rfl (B.2.2.2.2.2.2.1.2 _ h5.1 h5.2)) (fun z hz => by rw [h4] at hz; exact hz) hfin hdty hn hfit hlen hd (fun H1 locs1 a _ b => fin H1 locs1 a b)
theorem mj_ldc {idx : Nat} {v : Int32} (hw : mj_wd (.constant M.1.cls idx v)) (hd : decode M.2.1 pc = .ok (.ldc idx, 2)) (k : mj_V M sh Q x (pc + 2) ls (.int v :: st)) : mj_V M sh Q x pc ls st := by
  intro p l e s m args below meth c D A ad cA B H locs lsA hP hS hL
  exact lv_ldc B.1 B.2.1 B.2.2.2.2.2.1 (mj_use B.2.2.2.2.2.2.1 hw.1 hw.2 args) hd (k p l e s m args below meth c D A ad cA B H locs lsA hP hS hL)
theorem mj_ldc2 {idx : Nat} {v : Int64} (hw : mj_wd (.constantLong M.1.cls idx v)) (hd : decode M.2.1 pc = .ok (.ldc2_w idx, 3)) (k : mj_V M sh Q x (pc + 3) ls (.long v :: st)) : mj_V M sh Q x pc ls st := by
  intro p l e s m args below meth c D A ad cA B H locs lsA hP hS hL
  exact lv_ldc2 B.1 B.2.1 B.2.2.2.2.2.1 (mj_use B.2.2.2.2.2.2.1 hw.1 hw.2 args) hd (k p l e s m args below meth c D A ad cA B H locs lsA hP hS hL)
/-- returns -/
theorem mj_ret {v : Int32} (hr : M.2.2.2.1 = some .int) (hd : decode M.2.1 pc = .ok (.ireturn, 1)) (hq : Q (some (.int v)) x) : mj_V M sh Q x pc ls [.int v] := by
  intro p l e s m args below meth c D A ad cA B H locs lsA hP hS hL
  exact W.iret (v := v) B.1 B.2.1 (B.2.2.2.1.trans hr) (fun t ht hW => ⟨⟨some (.int v), x, rfl, hq, by rw [ht]; exact hP⟩, hS.F ht⟩) hS.2.2 hd B.2.2.2.2.1
theorem mj_retz {v : Int32} (hr : M.2.2.2.1 = some .boolean) (hv : v = 0 ∨ v = 1) (hd : decode M.2.1 pc = .ok (.ireturn, 1)) (hq : Q (some (.int v)) x) : mj_V M sh Q x pc ls [.int v] := by
  intro p l e s m args below meth c D A ad cA B H locs lsA hP hS hL
  exact W.zret (v := v) B.1 B.2.1 (B.2.2.2.1.trans hr) (by rcases hv with rfl | rfl <;> rfl) (fun t ht hW => ⟨⟨some (.int v), x, rfl, hq, by rw [ht]; exact hP⟩, hS.F ht⟩) hS.2.2 hd B.2.2.2.2.1
theorem mj_retv (hr : M.2.2.2.1 = none) (hd : decode M.2.1 pc = .ok (.return_, 1)) (hq : Q none x) : mj_V M sh Q x pc ls [] := by
  intro p l e s m args below meth c D A ad cA B H locs lsA hP hS hL
  exact W.vret B.1 B.2.1 (B.2.2.2.1.trans hr) (fun t ht hW => ⟨⟨none, x, rfl, hq, by rw [ht]; exact hP⟩, hS.F ht⟩) hS.2.2 hd B.2.2.2.2.1
end MJV
end
section
section MJC
variable {M : mj_M} {sh : List mj_S} {Q : Option Value → mj_X → Prop} {x : mj_X} {pc : Nat} {ls : List (Option Value)} {st : List Value}
theorem mj_Pc_blind {D : va_G} {A : Nat → Prop} {ad : Nat → Nat} {cA : ClassId} {av : List Value} : FrameBlind (mj_Pc D A ad cA sh x av) := by
  intro a U g mk h
  obtain ⟨h1, h2, h3⟩ := h
  exact ⟨h1, h2, h3.go (U := U.calling g mk a) (va_S.rf (H0 := U.heap)) rfl (State.WarmedH.refl U)⟩
theorem mj_after {p : Program} {l : Launch} {e : Env} {R : Room} {s : State} {m : MethodId} {args : Array Value} {below : List Frame} {meth : Method} {c : Code} {H : Heap} {locs : List Loc} {Q0 : State → Prop} {D : va_G} {A : Nat → Prop} {ad : Nat → Nat} {cA : ClassId} {QK : Option Value → mj_X → Prop} {a : Array Value} {lsA : Array Slot} {st0 rest : List Value}
    (hr : va_Run p l e R s m args below meth c H locs 0 0 0 0 (F0 m pc lsA st0) rest (mj_Qc D A ad cA sh QK a) A) (hS : va_S A s.heap H locs)
    (kk : ∀ (r : Option Value) (x' : mj_X) (H1 : Heap) (locs1 : List Loc), QK r x' → va_P D mj_cl (mj_w ad cA x' sh) H1 → va_S A s.heap H1 locs1 → W p l e R s m args below meth c H1 locs1 0 0 Q0 (F0 m (pc + 3) lsA ((r.map (mj_v ad)).toList ++ rest))) : W p l e R s m args below meth c H locs 0 0 Q0 (F0 m pc lsA st0) := by
  intro T hT X
  obtain ⟨v, st₀, t, T', L, h0, X', hL, e1, e2, ⟨⟨r, x', hv, hq, hP⟩, hz, hk⟩, st⟩ := hr T hT X
  cases hv
  rw [h0] at hz hk
  obtain ⟨t2, a1, b1⟩ := kk r x' T'.heap (locs ++ L) hq (by rw [e1]; exact hP)
    ⟨Nat.le_trans hS.1 (by rw [e1]; exact hz), fun q h1 h2 => by rw [e1, hk q (Nat.lt_of_lt_of_le h1 hS.1) h2]; exact hS.2.1 q h1 h2, fun q hq => by
      rcases List.mem_append.mp hq with h | h
      · exact hS.2.2 q h
      · exact hL q h⟩ T' rfl X'
  exact ⟨t2, st t2 a1, b1⟩
/-- what a call's words are: its code, its class, its number of arguments -/
def mj_ck (K : mj_M) (n : Nat) : Prop := mj_wd (.code K.1 K.2.1 K.2.2.1 K.2.2.2.1) ∧ mj_wd (.initialized K.1.cls) ∧ (K.1.cls ≠ "java/lang/invoke/MethodHandle" ∧ K.1.cls ≠ "java/lang/invoke/VarHandle") ∧ (parseMethodDescriptor K.1.desc).map (fun d => d.parameters.length) = some n
def mj_ckV (K : mj_M) (n : Nat) : Prop := mj_ck K n ∧ mj_wd (.instanceMethod K.1) ∧ mj_wd (.selects K.1.cls K.1 K.1)
def mj_ckS (K : mj_M) (n : Nat) : Prop := mj_ck K n ∧ mj_wd (.static K.1)
def mj_lk (own : String) (idx : Nat) (y : MethodName) : Prop := mj_wd (.methodLink own idx y) ∨ ∃ h, mj_wn (.methodLinkNest own idx y h)
def mj_rok (M K : mj_M) : Prop := K.2.2.2.2.1 + 1 ≤ M.2.2.2.2.1 ∧ 8 + (K.2.2.1 + 11) + K.2.2.2.2.2 ≤ M.2.2.2.2.2
theorem mj_len {K : mj_M} {n : Nat} (h : (parseMethodDescriptor K.1.desc).map (fun d => d.parameters.length) = some n) : ∀ sig, parseMethodDescriptor K.1.desc = some sig → n = sig.parameters.length := by
  intro sig hs
  rw [hs] at h
  exact (Option.some.inj h).symm
theorem mj_map_app {ad : Nat → Nat} (r : Option Value) (st : List Value) : (r.map (mj_v ad)).toList ++ st.map (mj_v ad) = (r.toList ++ st).map (mj_v ad) := by cases r <;> rfl
theorem mj_cats {ad : Nat → Nat} (st : List Value) : ((st.map (mj_v ad)).map fun v => v.category).sum = (st.map fun v => v.category).sum := by
  rw [List.map_map]
  congr 1
  exact List.map_congr_left (fun v _ => mj_v_cat ad v)
theorem mj_callV {K : mj_M} {idx n c0 ci : Nat} {fs : List (Option Nat)} {T0 : u_T} {N0 : Nat} {As : List Value} {QK : Option Value → mj_X → Prop} (hC : mj_C K sh (.ref c0 :: As) x QK) (hK : mj_ckV K n) (hl : mj_lk M.1.cls idx K.1) (hrm : mj_rok M K) (hn : As.length = n) (hd : decode M.2.1 pc = .ok (.invokevirtual idx, 3)) (hsh : sh[c0]? = some (.inl (ci, fs))) (hcl : mj_cl[ci]? = some (K.1.cls, T0, N0)) (hcat : (st.map fun v => v.category).sum ≤ 8) (k : ∀ r x', QK r x' → mj_V M sh Q x' (pc + 3) ls (r.toList ++ st)) : mj_V M sh Q x pc ls (As.reverse ++ .ref c0 :: st) := by
  intro p l e s m args below meth c D A ad cA B H locs lsA hP hS hL
  obtain ⟨⟨h1, h2, h3, h4⟩, h5, h6⟩ := hK
  have hT := B.2.2.2.2.2.2.1
  have hws : ∀ w ∈ [Cond.code K.1 K.2.1 K.2.2.1 K.2.2.2.1], ∀ (a' : Array Value) (U : State), s.WarmedH U.vm → w.before a' U = true := by
    intro w hw a' U hW
    rw [List.mem_singleton.mp hw]
    exact mj_use (hT.warm hW) h1.1 h1.2 a'
  have hpre : PreV s H K.1.cls (ad c0) (mj_Pc D A ad cA sh x (.ref c0 :: As)) (As.map (mj_v ad)) :=
    ⟨mj_Pc_blind, va_recv B.2.2.2.2.2.2.2.1 hP hcl (mj_w_at hsh), fun U hU hW => ⟨rfl, by rw [hU]; exact hP, B.2.2.2.2.2.2.go hS hU hW⟩⟩
  have hrun : va_Run p l e (mj_rm M) s m args below meth c H locs 0 0 0 0 (F0 m pc lsA ((As.reverse ++ .ref c0 :: st).map (mj_v ad))) (st.map (mj_v ad)) (mj_Qc D A ad cA sh QK (Value.ref (ad c0) :: As.map (mj_v ad)).toArray) A := by
    have hstk : (F0 m pc lsA ((As.reverse ++ .ref c0 :: st).map (mj_v ad))).stack = (As.map (mj_v ad)).reverse ++ Value.ref (ad c0) :: st.map (mj_v ad) := by
      show (As.reverse ++ .ref c0 :: st).map (mj_v ad) = _
      rw [List.map_append, List.map_reverse]
      rfl
    rcases hl with hl | ⟨h, hl⟩
    · exact va_runV (Ts := mj_tb) ⟨B.1, B.2.1, B.2.2.1, B.2.2.2.2.2.1, hT.all args⟩ (hC l D A ad cA) ⟨⟨rfl, rfl, hrm.1, hrm.2, hws, List.mem_cons_self, mj_use hT h1.1 h1.2 args, mj_use hT h2.1 h2.2 args, h3, mj_len h4, mj_use hT hl.1 hl.2 args⟩, mj_use hT h5.1 h5.2 args, mj_use hT h6.1 h6.2 args⟩ hpre rfl (by rw [List.length_map]; exact hn) hL.1 hstk (lv_room (by rw [mj_cats]; exact hcat)) hd ⟨Nat.le_refl 0, Nat.le_refl 0⟩
    · exact va_runVN (Ts := mj_tb) ⟨B.1, B.2.1, B.2.2.1, B.2.2.2.2.2.1, hT.all args⟩ (hC l D A ad cA) ⟨⟨⟨rfl, rfl, hrm.1, hrm.2, hws, List.mem_cons_self⟩, mj_use hT h1.1 h1.2 args, mj_use hT h2.1 h2.2 args, h3, mj_len h4, va_Nw.use rfl (hT.2 _ hl.1 hl.2)⟩, mj_use hT h5.1 h5.2 args, mj_use hT h6.1 h6.2 args⟩ hpre rfl (by rw [List.length_map]; exact hn) hL.1 hstk (lv_room (by rw [mj_cats]; exact hcat)) hd ⟨Nat.le_refl 0, Nat.le_refl 0⟩
  refine mj_after hrun hS (fun r x' H1 locs1 hq hP1 hS1 => ?_)
  rw [mj_map_app]
  exact k r x' hq p l e s m args below meth c D A ad cA B H1 locs1 lsA hP1 hS1 hL
theorem mj_callS {K : mj_M} {idx n : Nat} {As : List Value} {QK : Option Value → mj_X → Prop} (hC : mj_C K sh As x QK) (hK : mj_ckS K n) (hl : mj_lk M.1.cls idx K.1) (hrm : mj_rok M K) (hn : As.length = n) (hd : decode M.2.1 pc = .ok (.invokestatic idx, 3)) (hcat : (st.map fun v => v.category).sum ≤ 8) (k : ∀ r x', QK r x' → mj_V M sh Q x' (pc + 3) ls (r.toList ++ st)) : mj_V M sh Q x pc ls (As.reverse ++ st) := by
  intro p l e s m args below meth c D A ad cA B H locs lsA hP hS hL
  obtain ⟨⟨h1, h2, h3, h4⟩, h5⟩ := hK
  have hT := B.2.2.2.2.2.2.1
  have hws : ∀ w ∈ [Cond.code K.1 K.2.1 K.2.2.1 K.2.2.2.1], ∀ (a' : Array Value) (U : State), s.WarmedH U.vm → w.before a' U = true := by
    intro w hw a' U hW
    rw [List.mem_singleton.mp hw]
    exact mj_use (hT.warm hW) h1.1 h1.2 a'
  have hpre : PreS s H (mj_Pc D A ad cA sh x As) (As.map (mj_v ad)) :=
    ⟨mj_Pc_blind, fun U hU hW => ⟨rfl, by rw [hU]; exact hP, B.2.2.2.2.2.2.go hS hU hW⟩⟩
  have hrun : va_Run p l e (mj_rm M) s m args below meth c H locs 0 0 0 0 (F0 m pc lsA ((As.reverse ++ st).map (mj_v ad))) (st.map (mj_v ad)) (mj_Qc D A ad cA sh QK (As.map (mj_v ad)).toArray) A := by
    have hstk : (F0 m pc lsA ((As.reverse ++ st).map (mj_v ad))).stack = (As.map (mj_v ad)).reverse ++ st.map (mj_v ad) := by
      show (As.reverse ++ st).map (mj_v ad) = _
      rw [List.map_append, List.map_reverse]
    rcases hl with hl | ⟨h, hl⟩
    · exact va_runS (Ts := mj_tb) ⟨B.1, B.2.1, B.2.2.1, B.2.2.2.2.2.1, hT.all args⟩ (hC l D A ad cA) ⟨⟨rfl, rfl, hrm.1, hrm.2, hws, List.mem_cons_self, mj_use hT h1.1 h1.2 args, mj_use hT h2.1 h2.2 args, h3, mj_len h4, mj_use hT hl.1 hl.2 args⟩, mj_use hT h5.1 h5.2 args⟩ hpre rfl (by rw [List.length_map]; exact hn) hL.1 hstk (lv_room (by rw [mj_cats]; exact hcat)) hd ⟨Nat.le_refl 0, Nat.le_refl 0⟩
    · exact va_runSN (Ts := mj_tb) ⟨B.1, B.2.1, B.2.2.1, B.2.2.2.2.2.1, hT.all args⟩ (hC l D A ad cA) ⟨⟨⟨rfl, rfl, hrm.1, hrm.2, hws, List.mem_cons_self⟩, mj_use hT h1.1 h1.2 args, mj_use hT h2.1 h2.2 args, h3, mj_len h4, va_Nw.use rfl (hT.2 _ hl.1 hl.2)⟩, mj_use hT h5.1 h5.2 args, trivial⟩ hpre rfl (by rw [List.length_map]; exact hn) hL.1 hstk (lv_room (by rw [mj_cats]; exact hcat)) hd ⟨Nat.le_refl 0, Nat.le_refl 0⟩
  refine mj_after hrun hS (fun r x' H1 locs1 hq hP1 hS1 => ?_)
  rw [mj_map_app]
  exact k r x' hq p l e s m args below meth c D A ad cA B H1 locs1 lsA hP1 hS1 hL
/-- Math.max, Math.min -/
theorem mj_max {idx : Nat} {a b : Int32} (hl : mj_wd (.methodLink M.1.cls idx Lib.Math.max.name)) (h1 : mj_wd (.static Lib.Math.max.name)) (h2 : mj_wd (.initialized "java/lang/Math")) (h3 : mj_wd (.code Lib.Math.max.name Lib.Math.max.code 2 (some .int))) (hfr : 1 ≤ M.2.2.2.2.1) (hlo : 21 ≤ M.2.2.2.2.2) (hcat : (st.map fun v => v.category).sum ≤ 8) (hd : decode M.2.1 pc = .ok (.invokestatic idx, 3)) (k : mj_V M sh Q x (pc + 3) ls (.int (if a < b then b else a) :: st)) : mj_V M sh Q x pc ls (.int b :: .int a :: st) := by
  intro p l e s m args below meth c D A ad cA B H locs lsA hP hS hL
  have hT := B.2.2.2.2.2.2.1
  exact va_mmax B.1 B.2.1 (B.2.2.1.trans hL.1.symm) B.2.2.2.2.2.1 (mj_use hT hl.1 hl.2 args) (mj_use hT h1.1 h1.2 args) (mj_use hT h2.1 h2.2 args) (mj_use hT h3.1 h3.2 args) hfr (by rw [mj_cats]; show _ ≤ M.2.2.2.2.2; omega) (Nat.le_refl 0) (Nat.le_refl 0) hd (k p l e s m args below meth c D A ad cA B H locs lsA hP hS hL)
theorem mj_min {idx : Nat} {a b : Int32} (hl : mj_wd (.methodLink M.1.cls idx Lib.Math.min.name)) (h1 : mj_wd (.static Lib.Math.min.name)) (h2 : mj_wd (.initialized "java/lang/Math")) (h3 : mj_wd (.code Lib.Math.min.name Lib.Math.min.code 2 (some .int))) (hfr : 1 ≤ M.2.2.2.2.1) (hlo : 21 ≤ M.2.2.2.2.2) (hcat : (st.map fun v => v.category).sum ≤ 8) (hd : decode M.2.1 pc = .ok (.invokestatic idx, 3)) (k : mj_V M sh Q x (pc + 3) ls (.int (if b < a then b else a) :: st)) : mj_V M sh Q x pc ls (.int b :: .int a :: st) := by
  intro p l e s m args below meth c D A ad cA B H locs lsA hP hS hL
  have hT := B.2.2.2.2.2.2.1
  exact va_mmin B.1 B.2.1 (B.2.2.1.trans hL.1.symm) B.2.2.2.2.2.1 (mj_use hT hl.1 hl.2 args) (mj_use hT h1.1 h1.2 args) (mj_use hT h2.1 h2.2 args) (mj_use hT h3.1 h3.2 args) hfr (by rw [mj_cats]; show _ ≤ M.2.2.2.2.2; omega) (Nat.le_refl 0) (Nat.le_refl 0) hd (k p l e s m args below meth c D A ad cA B H locs lsA hP hS hL)
/-- switches -/
theorem mj_tableOut {dflt lo hi : Int} {offs : Array Int} {len : Nat} {a : Int32} {tgt : Nat} (hd : decode M.2.1 pc = .ok (.tableswitch dflt lo hi offs, len)) (h : a.toInt < lo ∨ hi < a.toInt) (ht : (pc : Int) + dflt = (tgt : Int)) (k : mj_V M sh Q x tgt ls st) : mj_V M sh Q x pc ls (.int a :: st) := by
  intro p l e s m args below meth c D A ad cA B H locs lsA hP hS hL
  exact lv_tableOut B.1 B.2.1 hd h ht (k p l e s m args below meth c D A ad cA B H locs lsA hP hS hL)
theorem mj_tableIn {dflt lo hi off : Int} {offs : Array Int} {len : Nat} {a : Int32} {tgt : Nat} (hd : decode M.2.1 pc = .ok (.tableswitch dflt lo hi offs, len)) (h1 : ¬ a.toInt < lo) (h2 : ¬ hi < a.toInt) (ho : offs[(a.toInt - lo).toNat]? = some off) (ht : (pc : Int) + off = (tgt : Int)) (k : mj_V M sh Q x tgt ls st) : mj_V M sh Q x pc ls (.int a :: st) := by
  intro p l e s m args below meth c D A ad cA B H locs lsA hP hS hL
  exact lv_tableIn B.1 B.2.1 hd h1 h2 ho ht (k p l e s m args below meth c D A ad cA B H locs lsA hP hS hL)
theorem mj_lookup {dflt : Int} {ps : Array (Int × Int)} {len : Nat} {a : Int32} {off : Int} {tgt : Nat} (hd : decode M.2.1 pc = .ok (.lookupswitch dflt ps, len)) (hp : (ps.toList.zip (ps.toList.drop 1)).all (fun (a, next) => a.1 < next.1) = true) (ho : Op.lookupswitch.offset ps.toList dflt a.toInt = off) (ht : (pc : Int) + off = (tgt : Int)) (k : mj_V M sh Q x tgt ls st) : mj_V M sh Q x pc ls (.int a :: st) := by
  intro p l e s m args below meth c D A ad cA B H locs lsA hP hS hL
  exact lv_lookup B.1 B.2.1 hd hp ho ht (k p l e s m args below meth c D A ad cA B H locs lsA hP hS hL)
/-- the static rows of Rules -/
theorem mj_sta {idx c0 : Nat} {nm : String} (hw : mj_wd (.fieldLink M.1.cls idx RX5 nm "[I")) (hc : (c0 = 100 ∧ nm = "LEAST") ∨ (c0 = 101 ∧ nm = "MOST") ∨ (c0 = 102 ∧ nm = "UNTOLD")) (hd : decode M.2.1 pc = .ok (.getstatic idx, 3)) (k : mj_V M sh Q x (pc + 3) ls (.ref c0 :: st)) : mj_V M sh Q x pc ls st := by
  intro p l e s m args below meth c D A ad cA B H locs lsA hP hS hL
  have hZ : va_Z RX5 nm "[I" (.ref (ad c0)) A s s.heap := by
    obtain ⟨z0, z1, z2⟩ := B.2.2.2.2.2.2.2.2.1
    rcases hc with ⟨rfl, rfl⟩ | ⟨rfl, rfl⟩ | ⟨rfl, rfl⟩
    · exact z0.1
    · exact z1.1
    · exact z2.1
  exact va_gets B.1 B.2.1 hZ hS B.2.2.2.2.2.1 (mj_use B.2.2.2.2.2.2.1 hw.1 hw.2 args) (fun _ h => h) hd (k p l e s m args below meth c D A ad cA B H locs lsA hP hS hL)
theorem mj_stald {c0 : Nat} {f : Nat → Int32} {i : Int32} (hc : (c0 = 100 ∧ f = mj_st0) ∨ (c0 = 101 ∧ f = mj_st1) ∨ (c0 = 102 ∧ f = mj_st2)) (hd : decode M.2.1 pc = .ok (.iaload, 1)) (j : Nat) (hj : j < 6) (hi : i = nI j) (k : mj_V M sh Q x (pc + 1) ls (.int (f j) :: st)) : mj_V M sh Q x pc ls (.int i :: .ref c0 :: st) := by
  intro p l e s m args below meth c D A ad cA B H locs lsA hP hS hL
  subst hi
  have hZ : va_T .int (ad c0) 6 (fun j => .int (f j)) A s s.heap := by
    obtain ⟨z0, z1, z2⟩ := B.2.2.2.2.2.2.2.2.1
    rcases hc with ⟨rfl, rfl⟩ | ⟨rfl, rfl⟩ | ⟨rfl, rfl⟩
    · exact z0.2
    · exact z1.2
    · exact z2.2
  exact va_ti B.1 B.2.1 hZ hS (vp_in_nI hj (by omega)) (by rw [nI_clamp (by omega)]; rfl) hd (k p l e s m args below meth c D A ad cA B H locs lsA hP hS hL)
/-- a long is put down: places i and i + 1 -/
theorem mj_lst {i : Nat} {v : Int64} (hd : decode M.2.1 pc = .ok (.lstore i, 2)) (hi : i + 1 < ls.length) (hno : ∀ j, j + 1 = i → mj_nl (ls.getD j none) = true) (k : mj_V M sh Q x (pc + 2) ((ls.set i (some (.long v))).set (i + 1) none) st) : mj_V M sh Q x pc ls (.long v :: st) := by
  intro p l e s m args below meth c D A ad cA B H locs lsA hP hS hL
  refine lv_lstore B.1 B.2.1 hd hL.has (Nat.lt_of_lt_of_le hi hL.2.2.1) rfl (fun lsB hB => k p l e s m args below meth c D A ad cA B H locs lsB hP hS ⟨hB.1, hB.2.1, by rw [List.length_set, List.length_set]; exact hL.2.2.1, fun j w hj => ?_⟩)
  by_cases h1 : j = i + 1
  · subst h1
    rw [List.getElem?_set_self (by rw [List.length_set]; exact hi)] at hj
    cases hj
  · rw [List.getElem?_set_ne (Ne.symm h1)] at hj
    by_cases h2 : j = i
    · subst h2
      rw [List.getElem?_set_self (by omega)] at hj
      cases hj
      exact hB.2.2 (j, .long v) List.mem_cons_self
    · rw [List.getElem?_set_ne (Ne.symm h2)] at hj
      refine hB.2.2 (j, mj_v ad w) (List.mem_cons_of_mem _ (List.mem_filter.mpr ⟨mj_pr_in hj, ?_⟩))
      have h3 : ¬ (j + 1 = i ∧ w.category = 2) := by
        rintro ⟨a, b⟩
        have := hno j a
        rw [List.getD_eq_getElem?_getD, hj] at this
        simp [mj_nl, b] at this
      simp only [mj_v_cat, Bool.and_eq_true, Bool.not_eq_true', beq_eq_false_iff_ne, ne_eq, h1, h2, not_false_eq_true, true_and, Bool.and_eq_false_iff]
      by_cases a : j + 1 = i
      · right
        exact fun b => h3 ⟨a, b⟩
      · left
        exact a
/-- a method's entry -/
def mj_en (av : List Value) (n : Nat) : List (Option Value) :=
  let l := av.flatMap fun v => if v.category = 2 then [some v, none] else [some v]
  l ++ List.replicate (n - l.length) none
theorem mj_en_args : ∀ (av : List Value) (ad : Nat → Nat) (i0 j : Nat) (v : Value), (av.flatMap fun v => if v.category = 2 then [some v, none] else [some v])[j]? = some (some v) → (i0 + j, mj_v ad v) ∈ lv_args i0 (av.map (mj_v ad))
  | [], _, _, _, _, h => by simp at h
  | w :: r, ad, i0, j, v, h => by
    rw [List.flatMap_cons] at h
    show _ ∈ (i0, mj_v ad w) :: lv_args (if (mj_v ad w).category = 2 then i0 + 2 else i0 + 1) (r.map (mj_v ad))
    rw [mj_v_cat]
    by_cases hc : w.category = 2
    · rw [if_pos hc] at h ⊢
      match j, h with
      | 0, h => 
        cases h
        exact List.mem_cons_self
      | 1, h => cases h
      | j + 2, h =>
        have h2 := mj_en_args r ad (i0 + 2) j v h
        rw [show i0 + (j + 2) = i0 + 2 + j from by omega]
        exact List.mem_cons_of_mem _ h2
    · rw [if_neg hc] at h ⊢
      match j, h with
      | 0, h =>
        cases h
        exact List.mem_cons_self
      | j + 1, h =>
        have h2 := mj_en_args r ad (i0 + 1) j v h
        rw [show i0 + (j + 1) = i0 + 1 + j from by omega]
        exact List.mem_cons_of_mem _ h2
theorem mj_sl_len (ad : Nat → Nat) : ∀ av : List Value, (lg_sl (av.map (mj_v ad))).length = (av.flatMap fun v => if v.category = 2 then [some v, none] else [some v]).length
  | [] => rfl
  | w :: r => by
    have h := mj_sl_len ad r
    unfold lg_sl at h ⊢
    rw [List.map_cons, List.flatMap_cons, List.flatMap_cons, List.length_append, List.length_append, h, mj_v_cat]
    by_cases hc : w.category = 2
    · rw [if_pos hc, if_pos hc]; rfl
    · rw [if_neg hc, if_neg hc]; rfl
theorem mj_start {av : List Value} (hy : plainName M.1.cls = true) (hen : mj_en av M.2.2.1 = ls) (hlen : ls.length = M.2.2.1) (k : mj_V M sh Q x 0 ls []) : mj_C M sh av x Q := by
  intro l D A ad cA
  refine Met.ofW (cc := M.2.1) (maxL := M.2.2.1) (ret := M.2.2.2.1) hy rfl ?_
  intro p e s m args below meth c s₁ B hml hv
  obtain ⟨rfl, hP, hG⟩ := hv
  have hlA : (lg_sl (av.map (mj_v ad))).length ≤ M.2.2.1 := by
    rw [mj_sl_len, ← hlen, ← hen]
    unfold mj_en
    simp only [List.length_append]
    omega
  have hl := lv_entry (av.map (mj_v ad)) (n := M.2.2.1) hlA
  rw [lg_entry_eq]
  generalize (lg_sl (av.map (mj_v ad)) ++ List.replicate (M.2.2.1 - (lg_sl (av.map (mj_v ad))).length) Slot.unset).toArray = lsA at hl ⊢
  refine k p l e s m _ below meth c D A ad cA ⟨B.exec, B.bytes, hml, B.returns, B.notSynchronized, findClass_of_methodNamed B.named, hG⟩ s.heap [] lsA hP va_S.rf ⟨hl.1, hl.2.1, Nat.le_of_eq hlen, fun i v hi => ?_⟩
  rw [← hen] at hi
  unfold mj_en at hi
  dsimp only at hi
  by_cases hb : i < (av.flatMap fun v => if v.category = 2 then [some v, none] else [some v]).length
  · rw [List.getElem?_append_left hb] at hi
    have h2 := mj_en_args av ad 0 i v hi
    rw [Nat.zero_add] at h2
    exact hl.2.2 (i, mj_v ad v) h2
  · rw [List.getElem?_append_right (by omega), List.getElem?_replicate] at hi
    split at hi <;> cases hi
theorem mj_weak {R0 R1 : Option Value → mj_X → Prop} {av : List Value} (h : mj_C M sh av x R0) (hw : ∀ r x', R0 r x' → R1 r x') : mj_C M sh av x R1 := by
  intro l D A ad cA p e ha hc hk s m args below hf hfit hP hK
  obtain ⟨k, o, h1, h2, h3, ⟨⟨r, x', e1, e2, e3⟩, e4⟩, hL⟩ := h l D A ad cA p e ha hc hk s m args below hf hfit hP hK
  exact ⟨k, o, h1, h2, h3, ⟨⟨r, x', e1, hw r x' e2, e3⟩, e4⟩, hL⟩
end MJC
end
section
abbrev shX : List mj_S := [.inl (6, [some 1, some 3, some 7, some 11, some 24, some 32, some 33, none]), .inl (4, [some 2, none, none, none, none]), .inr 200, .inl (5, [some 4, some 5, some 6, none]), .inr 6, .inr 6, .inr 6, .inl (5, [some 8, some 9, some 10, none]), .inr 6, .inr 6, .inr 6, .inl (2, [some 12, some 13, some 14, some 15, some 16, some 17, some 18, some 19, some 20, some 21, some 22, some 23, none]), .inr 41, .inr 41, .inr 41, .inr 41, .inr 41, .inr 41, .inr 41, .inr 41, .inr 41, .inr 41, .inr 41, .inr 41, .inl (0, [some 25, some 26, some 27, some 28, some 29, some 30, some 31, none]), .inr 82, .inr 82, .inr 82, .inr 82, .inr 82, .inr 82, .inr 82, .inl (3, [some 3, some 11, some 24, none]), .inl (1, [some 34, some 35, some 36, none, none, none, none]), .inr 6, .inr 6, .inr 6]
abbrev shM : List mj_S := [.inl (7, [none, some 38, some 39, some 40, none, none, none, some 41, some 42, some 43, none, some 44, some 45, none, none, none, some 46, some 47, some 48, none, some 49, some 50, some 51, some 52, some 53, some 54]), .inr 200, .inr 335, .inr 2010, .inr 6, .inr 6, .inr 6, .inr 6, .inr 6, .inr 41, .inr 41, .inr 41, .inr 82, .inr 82, .inr 82, .inr 82, .inr 82, .inr 82]
theorem inX0 : ∀ w ∈ u_ws RX0 TX0 8, w ∈ mj_tb := mj_in (goodIn_r _ [248, 250, 252, 254, 256, 258, 260, 262] (by decide +kernel) (by decide +kernel)) (by decide +kernel)
theorem inX1 : ∀ w ∈ u_ws RX1 TX1 7, w ∈ mj_tb := mj_in (goodIn_r _ [301, 303, 305, 307, 309, 311, 313] (by decide +kernel) (by decide +kernel)) (by decide +kernel)
theorem inX2 : ∀ w ∈ u_ws RX2 TX2 13, w ∈ mj_tb := mj_in (goodIn_r _ [205, 207, 209, 211, 213, 215, 217, 219, 221, 223, 225, 227, 229] (by decide +kernel) (by decide +kernel)) (by decide +kernel)
theorem inX3 : ∀ w ∈ u_ws RX3 TX3 4, w ∈ mj_tb := mj_in (goodIn_r _ [275, 277, 279, 281] (by decide +kernel) (by decide +kernel)) (by decide +kernel)
theorem inX4 : ∀ w ∈ u_ws RX4 TX4 5, w ∈ mj_tb := mj_in (goodIn_r _ [133, 135, 137, 139, 141] (by decide +kernel) (by decide +kernel)) (by decide +kernel)
theorem inX5 : ∀ w ∈ u_ws RX5 TX5 4, w ∈ mj_tb := mj_in (goodIn_r _ [157, 159, 161, 163] (by decide +kernel) (by decide +kernel)) (by decide +kernel)
theorem inX6 : ∀ w ∈ u_ws RX6 TX6 8, w ∈ mj_tb := mj_in (goodIn_r _ [434, 436, 438, 440, 442, 444, 446, 448] (by decide +kernel) (by decide +kernel)) (by decide +kernel)
theorem inX7 : ∀ w ∈ u_ws RX7 TX7 26, w ∈ mj_tb := mj_in (goodIn_r _ [817, 819, 821, 823, 825, 827, 829, 831, 833, 835, 837, 839, 841, 843, 845, 847, 849, 851, 853, 855, 857, 859, 861, 863, 865, 867] (by decide +kernel) (by decide +kernel)) (by decide +kernel)
abbrev mX0_init : mj_M := (yX0_init, cX0_init, 1, none, 1, 20)
abbrev mX0_add : mj_M := (yX0_add, cX0_add, 7, none, 0, 0)
abbrev mX0_has : mj_M := (yX0_has, cX0_has, 4, (some .boolean), 0, 0)
abbrev mX0_hold : mj_M := (yX0_hold, cX0_hold, 4, (some .boolean), 1, 23)
abbrev mX0_firstFree : mj_M := (yX0_firstFree, cX0_firstFree, 6, (some .int), 2, 47)
abbrev mX0_dayBehindBansOn : mj_M := (yX0_dayBehindBansOn, cX0_dayBehindBansOn, 5, (some .int), 1, 23)
abbrev mX0_daysBetween : mj_M := (yX0_daysBetween, cX0_daysBetween, 8, (some .int), 3, 72)
abbrev mX0_nextFirstDay : mj_M := (yX0_nextFirstDay, cX0_nextFirstDay, 6, (some .int), 1, 21)
abbrev mX0_latestDay : mj_M := (yX0_latestDay, cX0_latestDay, 4, (some .int), 1, 21)
abbrev mX0_greatSince : mj_M := (yX0_greatSince, cX0_greatSince, 5, (some .int), 0, 0)
abbrev mX0_toShorten : mj_M := (yX0_toShorten, cX0_toShorten, 6, (some .int), 1, 23)
abbrev mX0_shorten : mj_M := (yX0_shorten, cX0_shorten, 4, none, 1, 21)
abbrev mX0_givenTo : mj_M := (yX0_givenTo, cX0_givenTo, 4, (some .int), 0, 0)
abbrev mX0_placeOf : mj_M := (yX0_placeOf, cX0_placeOf, 5, (some .int), 0, 0)
abbrev mX0_tellOf : mj_M := (yX0_tellOf, cX0_tellOf, 3, (some .int), 0, 0)
abbrev mX1_init : mj_M := (yX1_init, cX1_init, 1, none, 1, 20)
abbrev mX1_note : mj_M := (yX1_note, cX1_note, 4, none, 1, 21)
abbrev mX1_forgetOldest : mj_M := (yX1_forgetOldest, cX1_forgetOldest, 2, none, 0, 0)
abbrev mX1_dropLast : mj_M := (yX1_dropLast, cX1_dropLast, 1, (some .boolean), 0, 0)
abbrev mX2_init : mj_M := (yX2_init, cX2_init, 1, none, 1, 20)
abbrev mX2_isThere : mj_M := (yX2_isThere, cX2_isThere, 2, (some .boolean), 0, 0)
abbrev mX2_isConviction : mj_M := (yX2_isConviction, cX2_isConviction, 2, (some .boolean), 1, 21)
abbrev mX2_addConviction : mj_M := (yX2_addConviction, cX2_addConviction, 7, none, 0, 0)
abbrev mX2_addCourse : mj_M := (yX2_addCourse, cX2_addCourse, 4, none, 0, 0)
abbrev mX2_dropLast : mj_M := (yX2_dropLast, cX2_dropLast, 1, none, 0, 0)
abbrev mX2_hasLightAfter : mj_M := (yX2_hasLightAfter, cX2_hasLightAfter, 4, (some .boolean), 0, 0)
abbrev mX2_tell : mj_M := (yX2_tell, cX2_tell, 4, (some .int), 1, 24)
abbrev mX2_swap : mj_M := (yX2_swap, cX2_swap, 5, (some .int), 0, 0)
abbrev mX2_tellOf : mj_M := (yX2_tellOf, cX2_tellOf, 3, (some .int), 2, 43)
abbrev mX2_tellOfConviction : mj_M := (yX2_tellOfConviction, cX2_tellOfConviction, 3, (some .int), 1, 21)
abbrev mX2_clearMarks : mj_M := (yX2_clearMarks, cX2_clearMarks, 2, none, 1, 21)
abbrev mX2_spend : mj_M := (yX2_spend, cX2_spend, 4, none, 0, 0)
abbrev mX2_weigh : mj_M := (yX2_weigh, cX2_weigh, 8, (some .int), 0, 0)
abbrev mX3_init : mj_M := (yX3_init, cX3_init, 4, none, 1, 20)
abbrev mX3_reckonAll : mj_M := (yX3_reckonAll, cX3_reckonAll, 2, none, 5, 117)
abbrev mX3_reckonNext : mj_M := (yX3_reckonNext, cX3_reckonNext, 2, none, 4, 96)
abbrev mX3_reckonLong : mj_M := (yX3_reckonLong, cX3_reckonLong, 4, none, 2, 48)
abbrev mX3_reckonConviction : mj_M := (yX3_reckonConviction, cX3_reckonConviction, 7, none, 3, 70)
abbrev mX3_giveGreatBan : mj_M := (yX3_giveGreatBan, cX3_giveGreatBan, 7, none, 2, 44)
abbrev mX3_heaviest : mj_M := (yX3_heaviest, cX3_heaviest, 8, (some .int), 2, 41)
abbrev mX4_init : mj_M := (yX4_init, cX4_init, 1, none, 1, 20)
abbrev mX4_add : mj_M := (yX4_add, cX4_add, 2, (some .boolean), 0, 0)
abbrev mX4_clear : mj_M := (yX4_clear, cX4_clear, 1, none, 0, 0)
abbrev mX4_readInto : mj_M := (yX4_readInto, cX4_readInto, 3, none, 4, 90)
abbrev mX4_readItem : mj_M := (yX4_readItem, cX4_readItem, 3, none, 3, 68)
abbrev mX4_peek : mj_M := (yX4_peek, cX4_peek, 1, (some .int), 0, 0)
abbrev mX4_readRule : mj_M := (yX4_readRule, cX4_readRule, 5, none, 2, 44)
abbrev mX4_readCode : mj_M := (yX4_readCode, cX4_readCode, 4, none, 2, 44)
abbrev mX4_readNumber : mj_M := (yX4_readNumber, cX4_readNumber, 5, (some .int), 1, 20)
abbrev mX4_readEnd : mj_M := (yX4_readEnd, cX4_readEnd, 1, none, 1, 20)
abbrev mX5_init : mj_M := (yX5_init, cX5_init, 1, none, 1, 20)
abbrev mX5_reset : mj_M := (yX5_reset, cX5_reset, 2, none, 0, 0)
abbrev mX5_copy : mj_M := (yX5_copy, cX5_copy, 3, none, 0, 0)
abbrev mX5_isRule : mj_M := (yX5_isRule, cX5_isRule, 1, (some .boolean), 0, 0)
abbrev mX5_allows : mj_M := (yX5_allows, cX5_allows, 3, (some .boolean), 1, 20)
abbrev mX5_get : mj_M := (yX5_get, cX5_get, 2, (some .int), 1, 20)
abbrev mX5_put : mj_M := (yX5_put, cX5_put, 3, none, 1, 20)
abbrev mX5_hasCode : mj_M := (yX5_hasCode, cX5_hasCode, 2, (some .boolean), 0, 0)
abbrev mX5_pointsOf : mj_M := (yX5_pointsOf, cX5_pointsOf, 2, (some .int), 1, 21)
abbrev mX5_ownBanOf : mj_M := (yX5_ownBanOf, cX5_ownBanOf, 2, (some .int), 1, 21)
abbrev mX5_addCode : mj_M := (yX5_addCode, cX5_addCode, 3, none, 0, 0)
abbrev mX6_init : mj_M := (yX6_init, cX6_init, 2, none, 6, 112)
abbrev mX6_write : mj_M := (yX6_write, cX6_write, 2, (some .int), 1, 21)
abbrev mX6_wipe : mj_M := (yX6_wipe, cX6_wipe, 2, (some .int), 1, 20)
abbrev mX6_fault : mj_M := (yX6_fault, cX6_fault, 1, (some .int), 5, 112)
abbrev mX6_reason : mj_M := (yX6_reason, cX6_reason, 1, (some .int), 5, 112)
abbrev mX6_lay : mj_M := (yX6_lay, cX6_lay, 1, (some .int), 6, 138)
abbrev mX6_rule : mj_M := (yX6_rule, cX6_rule, 4, (some .int), 6, 138)
abbrev mX6_code : mj_M := (yX6_code, cX6_code, 3, (some .int), 2, 42)
abbrev mX6_pass : mj_M := (yX6_pass, cX6_pass, 2, (some .int), 0, 0)
abbrev mX6_convict : mj_M := (yX6_convict, cX6_convict, 5, (some .int), 6, 138)
abbrev mX6_course : mj_M := (yX6_course, cX6_course, 4, (some .int), 6, 138)
abbrev mX6_strike : mj_M := (yX6_strike, cX6_strike, 2, (some .int), 7, 163)
abbrev mX6_lower : mj_M := (yX6_lower, cX6_lower, 3, (some .int), 7, 163)
abbrev mX6_redate : mj_M := (yX6_redate, cX6_redate, 3, (some .int), 7, 163)
abbrev mX6_excuse : mj_M := (yX6_excuse, cX6_excuse, 2, (some .int), 7, 163)
abbrev mX6_undo : mj_M := (yX6_undo, cX6_undo, 2, (some .int), 6, 138)
abbrev mX6_year : mj_M := (yX6_year, cX6_year, 7, (some .int), 7, 161)
abbrev mX6_event : mj_M := (yX6_event, cX6_event, 3, (some .int), 3, 65)
abbrev mX6_sum : mj_M := (yX6_sum, cX6_sum, 3, (some .int), 3, 68)
abbrev mX6_need : mj_M := (yX6_need, cX6_need, 5, (some .int), 3, 68)
abbrev mX6_would : mj_M := (yX6_would, cX6_would, 6, (some .int), 6, 138)
abbrev mX6_banned : mj_M := (yX6_banned, cX6_banned, 3, (some .int), 2, 46)
abbrev mX6_days : mj_M := (yX6_days, cX6_days, 4, (some .int), 4, 99)
abbrev mX6_free : mj_M := (yX6_free, cX6_free, 2, (some .int), 3, 72)
abbrev mX6_ban : mj_M := (yX6_ban, cX6_ban, 5, (some .int), 1, 24)
abbrev mX6_seen : mj_M := (yX6_seen, cX6_seen, 8, (some .int), 3, 63)
abbrev mX6_count : mj_M := (yX6_count, cX6_count, 2, (some .int), 2, 41)
abbrev mX6_isDriver : mj_M := (yX6_isDriver, cX6_isDriver, 1, (some .boolean), 0, 0)
abbrev mX6_canBeOffence : mj_M := (yX6_canBeOffence, cX6_canBeOffence, 4, (some .boolean), 1, 21)
abbrev mX6_daysInAll : mj_M := (yX6_daysInAll, cX6_daysInAll, 2, (some .int), 4, 99)
abbrev mX6_noteNewEvent : mj_M := (yX6_noteNewEvent, cX6_noteNewEvent, 2, (some .int), 5, 117)
abbrev mX6_retell : mj_M := (yX6_retell, cX6_retell, 6, (some .int), 6, 138)
abbrev mX6_liveThrough : mj_M := (yX6_liveThrough, cX6_liveThrough, 4, none, 6, 138)
abbrev mX6_sees : mj_M := (yX6_sees, cX6_sees, 3, (some .boolean), 2, 41)
abbrev mX7_init : mj_M := (yX7_init, cX7_init, 1, none, 1, 22)
abbrev mX7_in : mj_M := (yX7_in, cX7_in, 6, (some .boolean), 0, 0)
abbrev mX7_empty : mj_M := (yX7_empty, cX7_empty, 1, none, 0, 0)
abbrev mX7_codeIs : mj_M := (yX7_codeIs, cX7_codeIs, 3, none, 0, 0)
abbrev mX7_write : mj_M := (yX7_write, cX7_write, 2, (some .int), 1, 25)
abbrev mX7_wipe : mj_M := (yX7_wipe, cX7_wipe, 2, (some .int), 0, 0)
abbrev mX7_letterAt : mj_M := (yX7_letterAt, cX7_letterAt, 2, (some .int), 0, 0)
abbrev mX7_number : mj_M := (yX7_number, cX7_number, 5, (some .int), 1, 25)
abbrev mX7_ends : mj_M := (yX7_ends, cX7_ends, 1, (some .int), 1, 21)
abbrev mX7_ruleItem : mj_M := (yX7_ruleItem, cX7_ruleItem, 5, (some .int), 2, 49)
abbrev mX7_codeItem : mj_M := (yX7_codeItem, cX7_codeItem, 3, (some .int), 2, 49)
abbrev mX7_staysItem : mj_M := (yX7_staysItem, cX7_staysItem, 2, (some .int), 3, 73)
abbrev mX7_item : mj_M := (yX7_item, cX7_item, 3, (some .int), 4, 94)
abbrev mX7_readAll : mj_M := (yX7_readAll, cX7_readAll, 3, (some .int), 5, 116)
abbrev mX7_fault : mj_M := (yX7_fault, cX7_fault, 1, (some .int), 6, 138)
abbrev mX7_reason : mj_M := (yX7_reason, cX7_reason, 1, (some .int), 6, 138)
abbrev mX7_lay : mj_M := (yX7_lay, cX7_lay, 1, (some .int), 6, 138)
abbrev mX7_begin : mj_M := (yX7_begin, cX7_begin, 2, none, 0, 0)
abbrev mX7_isDriver : mj_M := (yX7_isDriver, cX7_isDriver, 1, (some .boolean), 1, 25)
abbrev mX7_isCode : mj_M := (yX7_isCode, cX7_isCode, 2, (some .boolean), 1, 25)
abbrev mX7_isEvent : mj_M := (yX7_isEvent, cX7_isEvent, 2, (some .boolean), 1, 25)
abbrev mX7_of : mj_M := (yX7_of, cX7_of, 3, (some .int), 0, 0)
abbrev mX7_ruleOf : mj_M := (yX7_ruleOf, cX7_ruleOf, 2, (some .int), 0, 0)
abbrev mX7_note : mj_M := (yX7_note, cX7_note, 2, none, 0, 0)
abbrev mX7_rule : mj_M := (yX7_rule, cX7_rule, 5, (some .int), 1, 25)
abbrev mX7_code : mj_M := (yX7_code, cX7_code, 3, (some .int), 2, 46)
abbrev mX7_pass : mj_M := (yX7_pass, cX7_pass, 2, (some .int), 1, 25)
abbrev mX7_comes : mj_M := (yX7_comes, cX7_comes, 7, none, 0, 0)
abbrev mX7_convict : mj_M := (yX7_convict, cX7_convict, 5, (some .int), 2, 46)
abbrev mX7_wasLight : mj_M := (yX7_wasLight, cX7_wasLight, 4, (some .boolean), 1, 22)
abbrev mX7_course : mj_M := (yX7_course, cX7_course, 3, (some .int), 6, 137)
abbrev mX7_isConviction : mj_M := (yX7_isConviction, cX7_isConviction, 2, (some .boolean), 2, 46)
abbrev mX7_retell : mj_M := (yX7_retell, cX7_retell, 6, (some .int), 7, 158)
abbrev mX7_strike : mj_M := (yX7_strike, cX7_strike, 2, (some .int), 8, 183)
abbrev mX7_lower : mj_M := (yX7_lower, cX7_lower, 3, (some .int), 8, 183)
abbrev mX7_redate : mj_M := (yX7_redate, cX7_redate, 3, (some .int), 8, 183)
abbrev mX7_excuse : mj_M := (yX7_excuse, cX7_excuse, 2, (some .int), 8, 183)
abbrev mX7_undo : mj_M := (yX7_undo, cX7_undo, 2, (some .int), 0, 0)
abbrev mX7_year : mj_M := (yX7_year, cX7_year, 9, (some .int), 1, 26)
abbrev mX7_lastOf : mj_M := (yX7_lastOf, cX7_lastOf, 2, (some .int), 0, 0)
abbrev mX7_isBanned : mj_M := (yX7_isBanned, cX7_isBanned, 5, (some .boolean), 1, 25)
abbrev mX7_gives : mj_M := (yX7_gives, cX7_gives, 6, none, 0, 0)
abbrev mX7_countOf : mj_M := (yX7_countOf, cX7_countOf, 2, (some .int), 1, 22)
abbrev mX7_mostOf : mj_M := (yX7_mostOf, cX7_mostOf, 9, (some .int), 2, 43)
abbrev mX7_greatOnes : mj_M := (yX7_greatOnes, cX7_greatOnes, 5, (some .int), 1, 25)
abbrev mX7_beginOf : mj_M := (yX7_beginOf, cX7_beginOf, 5, (some .int), 1, 21)
abbrev mX7_convicts : mj_M := (yX7_convicts, cX7_convicts, 6, none, 3, 71)
abbrev mX7_toShorten : mj_M := (yX7_toShorten, cX7_toShorten, 5, (some .int), 1, 25)
abbrev mX7_shortens : mj_M := (yX7_shortens, cX7_shortens, 6, none, 2, 49)
abbrev mX7_reckon : mj_M := (yX7_reckon, cX7_reckon, 2, none, 4, 96)
abbrev mX7_know : mj_M := (yX7_know, cX7_know, 1, none, 5, 117)
abbrev mX7_daysFrom : mj_M := (yX7_daysFrom, cX7_daysFrom, 6, (some .int), 2, 49)
abbrev mX7_endOf : mj_M := (yX7_endOf, cX7_endOf, 4, (some .int), 1, 21)
abbrev mX7_daysOf : mj_M := (yX7_daysOf, cX7_daysOf, 2, (some .int), 6, 137)
abbrev mX7_event : mj_M := (yX7_event, cX7_event, 3, (some .int), 6, 137)
abbrev mX7_sum : mj_M := (yX7_sum, cX7_sum, 4, (some .int), 6, 137)
abbrev mX7_need : mj_M := (yX7_need, cX7_need, 5, (some .int), 6, 137)
abbrev mX7_would : mj_M := (yX7_would, cX7_would, 6, (some .int), 7, 158)
abbrev mX7_banned : mj_M := (yX7_banned, cX7_banned, 3, (some .int), 6, 137)
abbrev mX7_days : mj_M := (yX7_days, cX7_days, 5, (some .int), 6, 137)
abbrev mX7_free : mj_M := (yX7_free, cX7_free, 3, (some .int), 6, 137)
abbrev mX7_banAt : mj_M := (yX7_banAt, cX7_banAt, 5, (some .int), 0, 0)
abbrev mX7_ban : mj_M := (yX7_ban, cX7_ban, 6, (some .int), 6, 137)
abbrev mX7_isSeen : mj_M := (yX7_isSeen, cX7_isSeen, 3, (some .boolean), 1, 22)
abbrev mX7_seen : mj_M := (yX7_seen, cX7_seen, 8, (some .int), 6, 137)
abbrev mX7_count : mj_M := (yX7_count, cX7_count, 2, (some .int), 6, 137)
theorem ckX4_add : mj_ckV mX4_add 1 := ⟨⟨⟨List.mem_append_right _ (List.mem_of_getElem? (i := 271) (by decide +kernel)), rfl⟩, ⟨List.mem_append_right _ (List.mem_of_getElem? (i := 2) (by decide +kernel)), rfl⟩, ⟨by decide +kernel, by decide +kernel⟩, by decide +kernel⟩, ⟨List.mem_append_right _ (List.mem_of_getElem? (i := 270) (by decide +kernel)), rfl⟩, ⟨List.mem_append_left _ (List.mem_of_getElem? (i := 0) (by decide +kernel)), rfl⟩⟩
theorem ckX4_readInto : mj_ckV mX4_readInto 1 := ⟨⟨⟨List.mem_append_right _ (List.mem_of_getElem? (i := 275) (by decide +kernel)), rfl⟩, ⟨List.mem_append_right _ (List.mem_of_getElem? (i := 2) (by decide +kernel)), rfl⟩, ⟨by decide +kernel, by decide +kernel⟩, by decide +kernel⟩, ⟨List.mem_append_right _ (List.mem_of_getElem? (i := 274) (by decide +kernel)), rfl⟩, ⟨List.mem_append_left _ (List.mem_of_getElem? (i := 1) (by decide +kernel)), rfl⟩⟩
theorem ckX4_clear : mj_ckV mX4_clear 0 := ⟨⟨⟨List.mem_append_right _ (List.mem_of_getElem? (i := 328) (by decide +kernel)), rfl⟩, ⟨List.mem_append_right _ (List.mem_of_getElem? (i := 2) (by decide +kernel)), rfl⟩, ⟨by decide +kernel, by decide +kernel⟩, by decide +kernel⟩, ⟨List.mem_append_right _ (List.mem_of_getElem? (i := 327) (by decide +kernel)), rfl⟩, ⟨List.mem_append_left _ (List.mem_of_getElem? (i := 12) (by decide +kernel)), rfl⟩⟩
theorem ckX5_copy : mj_ckV mX5_copy 1 := ⟨⟨⟨List.mem_append_right _ (List.mem_of_getElem? (i := 378) (by decide +kernel)), rfl⟩, ⟨List.mem_append_right _ (List.mem_of_getElem? (i := 3) (by decide +kernel)), rfl⟩, ⟨by decide +kernel, by decide +kernel⟩, by decide +kernel⟩, ⟨List.mem_append_right _ (List.mem_of_getElem? (i := 377) (by decide +kernel)), rfl⟩, ⟨List.mem_append_left _ (List.mem_of_getElem? (i := 13) (by decide +kernel)), rfl⟩⟩
theorem ckX3_reckonAll : mj_ckV mX3_reckonAll 0 := ⟨⟨⟨List.mem_append_right _ (List.mem_of_getElem? (i := 382) (by decide +kernel)), rfl⟩, ⟨List.mem_append_right _ (List.mem_of_getElem? (i := 6) (by decide +kernel)), rfl⟩, ⟨by decide +kernel, by decide +kernel⟩, by decide +kernel⟩, ⟨List.mem_append_right _ (List.mem_of_getElem? (i := 381) (by decide +kernel)), rfl⟩, ⟨List.mem_append_left _ (List.mem_of_getElem? (i := 14) (by decide +kernel)), rfl⟩⟩
theorem ckX5_allows : mj_ckV mX5_allows 2 := ⟨⟨⟨List.mem_append_right _ (List.mem_of_getElem? (i := 301) (by decide +kernel)), rfl⟩, ⟨List.mem_append_right _ (List.mem_of_getElem? (i := 3) (by decide +kernel)), rfl⟩, ⟨by decide +kernel, by decide +kernel⟩, by decide +kernel⟩, ⟨List.mem_append_right _ (List.mem_of_getElem? (i := 300) (by decide +kernel)), rfl⟩, ⟨List.mem_append_left _ (List.mem_of_getElem? (i := 7) (by decide +kernel)), rfl⟩⟩
theorem ckX5_get : mj_ckV mX5_get 1 := ⟨⟨⟨List.mem_append_right _ (List.mem_of_getElem? (i := 442) (by decide +kernel)), rfl⟩, ⟨List.mem_append_right _ (List.mem_of_getElem? (i := 3) (by decide +kernel)), rfl⟩, ⟨by decide +kernel, by decide +kernel⟩, by decide +kernel⟩, ⟨List.mem_append_right _ (List.mem_of_getElem? (i := 441) (by decide +kernel)), rfl⟩, ⟨List.mem_append_left _ (List.mem_of_getElem? (i := 28) (by decide +kernel)), rfl⟩⟩
theorem ckX5_put : mj_ckV mX5_put 2 := ⟨⟨⟨List.mem_append_right _ (List.mem_of_getElem? (i := 312) (by decide +kernel)), rfl⟩, ⟨List.mem_append_right _ (List.mem_of_getElem? (i := 3) (by decide +kernel)), rfl⟩, ⟨by decide +kernel, by decide +kernel⟩, by decide +kernel⟩, ⟨List.mem_append_right _ (List.mem_of_getElem? (i := 311) (by decide +kernel)), rfl⟩, ⟨List.mem_append_left _ (List.mem_of_getElem? (i := 8) (by decide +kernel)), rfl⟩⟩
theorem ckX1_note : mj_ckV mX1_note 3 := ⟨⟨⟨List.mem_append_right _ (List.mem_of_getElem? (i := 474) (by decide +kernel)), rfl⟩, ⟨List.mem_append_right _ (List.mem_of_getElem? (i := 7) (by decide +kernel)), rfl⟩, ⟨by decide +kernel, by decide +kernel⟩, by decide +kernel⟩, ⟨List.mem_append_right _ (List.mem_of_getElem? (i := 473) (by decide +kernel)), rfl⟩, ⟨List.mem_append_left _ (List.mem_of_getElem? (i := 34) (by decide +kernel)), rfl⟩⟩
theorem ckX5_hasCode : mj_ckV mX5_hasCode 1 := ⟨⟨⟨List.mem_append_right _ (List.mem_of_getElem? (i := 430) (by decide +kernel)), rfl⟩, ⟨List.mem_append_right _ (List.mem_of_getElem? (i := 3) (by decide +kernel)), rfl⟩, ⟨by decide +kernel, by decide +kernel⟩, by decide +kernel⟩, ⟨List.mem_append_right _ (List.mem_of_getElem? (i := 429) (by decide +kernel)), rfl⟩, ⟨List.mem_append_left _ (List.mem_of_getElem? (i := 25) (by decide +kernel)), rfl⟩⟩
theorem ckX5_pointsOf : mj_ckV mX5_pointsOf 1 := ⟨⟨⟨List.mem_append_right _ (List.mem_of_getElem? (i := 487) (by decide +kernel)), rfl⟩, ⟨List.mem_append_right _ (List.mem_of_getElem? (i := 3) (by decide +kernel)), rfl⟩, ⟨by decide +kernel, by decide +kernel⟩, by decide +kernel⟩, ⟨List.mem_append_right _ (List.mem_of_getElem? (i := 486) (by decide +kernel)), rfl⟩, ⟨List.mem_append_left _ (List.mem_of_getElem? (i := 36) (by decide +kernel)), rfl⟩⟩
theorem ckX5_ownBanOf : mj_ckV mX5_ownBanOf 1 := ⟨⟨⟨List.mem_append_right _ (List.mem_of_getElem? (i := 426) (by decide +kernel)), rfl⟩, ⟨List.mem_append_right _ (List.mem_of_getElem? (i := 3) (by decide +kernel)), rfl⟩, ⟨by decide +kernel, by decide +kernel⟩, by decide +kernel⟩, ⟨List.mem_append_right _ (List.mem_of_getElem? (i := 425) (by decide +kernel)), rfl⟩, ⟨List.mem_append_left _ (List.mem_of_getElem? (i := 24) (by decide +kernel)), rfl⟩⟩
theorem ckX6_canBeOffence : mj_ckV mX6_canBeOffence 3 := ⟨⟨⟨List.mem_append_right _ (List.mem_of_getElem? (i := 500) (by decide +kernel)), rfl⟩, ⟨List.mem_append_right _ (List.mem_of_getElem? (i := 1) (by decide +kernel)), rfl⟩, ⟨by decide +kernel, by decide +kernel⟩, by decide +kernel⟩, ⟨List.mem_append_right _ (List.mem_of_getElem? (i := 499) (by decide +kernel)), rfl⟩, ⟨List.mem_append_left _ (List.mem_of_getElem? (i := 37) (by decide +kernel)), rfl⟩⟩
theorem ckX2_addConviction : mj_ckV mX2_addConviction 6 := ⟨⟨⟨List.mem_append_right _ (List.mem_of_getElem? (i := 507) (by decide +kernel)), rfl⟩, ⟨List.mem_append_right _ (List.mem_of_getElem? (i := 4) (by decide +kernel)), rfl⟩, ⟨by decide +kernel, by decide +kernel⟩, by decide +kernel⟩, ⟨List.mem_append_right _ (List.mem_of_getElem? (i := 506) (by decide +kernel)), rfl⟩, ⟨List.mem_append_left _ (List.mem_of_getElem? (i := 38) (by decide +kernel)), rfl⟩⟩
theorem ckX6_noteNewEvent : mj_ckV mX6_noteNewEvent 0 := ⟨⟨⟨List.mem_append_right _ (List.mem_of_getElem? (i := 511) (by decide +kernel)), rfl⟩, ⟨List.mem_append_right _ (List.mem_of_getElem? (i := 1) (by decide +kernel)), rfl⟩, ⟨by decide +kernel, by decide +kernel⟩, by decide +kernel⟩, ⟨List.mem_append_right _ (List.mem_of_getElem? (i := 510) (by decide +kernel)), rfl⟩, ⟨List.mem_append_left _ (List.mem_of_getElem? (i := 39) (by decide +kernel)), rfl⟩⟩
theorem ckX6_isDriver : mj_ckS mX6_isDriver 1 := ⟨⟨⟨List.mem_append_right _ (List.mem_of_getElem? (i := 503) (by decide +kernel)), rfl⟩, ⟨List.mem_append_right _ (List.mem_of_getElem? (i := 1) (by decide +kernel)), rfl⟩, ⟨by decide +kernel, by decide +kernel⟩, by decide +kernel⟩, ⟨List.mem_append_right _ (List.mem_of_getElem? (i := 502) (by decide +kernel)), rfl⟩⟩
theorem ckX2_hasLightAfter : mj_ckV mX2_hasLightAfter 2 := ⟨⟨⟨List.mem_append_right _ (List.mem_of_getElem? (i := 520) (by decide +kernel)), rfl⟩, ⟨List.mem_append_right _ (List.mem_of_getElem? (i := 4) (by decide +kernel)), rfl⟩, ⟨by decide +kernel, by decide +kernel⟩, by decide +kernel⟩, ⟨List.mem_append_right _ (List.mem_of_getElem? (i := 519) (by decide +kernel)), rfl⟩, ⟨List.mem_append_left _ (List.mem_of_getElem? (i := 40) (by decide +kernel)), rfl⟩⟩
theorem ckX0_toShorten : mj_ckV mX0_toShorten 2 := ⟨⟨⟨List.mem_append_right _ (List.mem_of_getElem? (i := 403) (by decide +kernel)), rfl⟩, ⟨List.mem_append_right _ (List.mem_of_getElem? (i := 5) (by decide +kernel)), rfl⟩, ⟨by decide +kernel, by decide +kernel⟩, by decide +kernel⟩, ⟨List.mem_append_right _ (List.mem_of_getElem? (i := 402) (by decide +kernel)), rfl⟩, ⟨List.mem_append_left _ (List.mem_of_getElem? (i := 19) (by decide +kernel)), rfl⟩⟩
theorem ckX2_addCourse : mj_ckV mX2_addCourse 3 := ⟨⟨⟨List.mem_append_right _ (List.mem_of_getElem? (i := 525) (by decide +kernel)), rfl⟩, ⟨List.mem_append_right _ (List.mem_of_getElem? (i := 4) (by decide +kernel)), rfl⟩, ⟨by decide +kernel, by decide +kernel⟩, by decide +kernel⟩, ⟨List.mem_append_right _ (List.mem_of_getElem? (i := 524) (by decide +kernel)), rfl⟩, ⟨List.mem_append_left _ (List.mem_of_getElem? (i := 41) (by decide +kernel)), rfl⟩⟩
theorem ckX2_isConviction : mj_ckV mX2_isConviction 1 := ⟨⟨⟨List.mem_append_right _ (List.mem_of_getElem? (i := 533) (by decide +kernel)), rfl⟩, ⟨List.mem_append_right _ (List.mem_of_getElem? (i := 4) (by decide +kernel)), rfl⟩, ⟨by decide +kernel, by decide +kernel⟩, by decide +kernel⟩, ⟨List.mem_append_right _ (List.mem_of_getElem? (i := 532) (by decide +kernel)), rfl⟩, ⟨List.mem_append_left _ (List.mem_of_getElem? (i := 42) (by decide +kernel)), rfl⟩⟩
theorem ckX6_retell : mj_ckV mX6_retell 3 := ⟨⟨⟨List.mem_append_right _ (List.mem_of_getElem? (i := 537) (by decide +kernel)), rfl⟩, ⟨List.mem_append_right _ (List.mem_of_getElem? (i := 1) (by decide +kernel)), rfl⟩, ⟨by decide +kernel, by decide +kernel⟩, by decide +kernel⟩, ⟨List.mem_append_right _ (List.mem_of_getElem? (i := 536) (by decide +kernel)), rfl⟩, ⟨List.mem_append_left _ (List.mem_of_getElem? (i := 43) (by decide +kernel)), rfl⟩⟩
theorem ckX1_dropLast : mj_ckV mX1_dropLast 0 := ⟨⟨⟨List.mem_append_right _ (List.mem_of_getElem? (i := 590) (by decide +kernel)), rfl⟩, ⟨List.mem_append_right _ (List.mem_of_getElem? (i := 7) (by decide +kernel)), rfl⟩, ⟨by decide +kernel, by decide +kernel⟩, by decide +kernel⟩, ⟨List.mem_append_right _ (List.mem_of_getElem? (i := 589) (by decide +kernel)), rfl⟩, ⟨List.mem_append_left _ (List.mem_of_getElem? (i := 51) (by decide +kernel)), rfl⟩⟩
theorem ckX2_dropLast : mj_ckV mX2_dropLast 0 := ⟨⟨⟨List.mem_append_right _ (List.mem_of_getElem? (i := 594) (by decide +kernel)), rfl⟩, ⟨List.mem_append_right _ (List.mem_of_getElem? (i := 4) (by decide +kernel)), rfl⟩, ⟨by decide +kernel, by decide +kernel⟩, by decide +kernel⟩, ⟨List.mem_append_right _ (List.mem_of_getElem? (i := 593) (by decide +kernel)), rfl⟩, ⟨List.mem_append_left _ (List.mem_of_getElem? (i := 52) (by decide +kernel)), rfl⟩⟩
theorem ckX2_tell : mj_ckV mX2_tell 3 := ⟨⟨⟨List.mem_append_right _ (List.mem_of_getElem? (i := 565) (by decide +kernel)), rfl⟩, ⟨List.mem_append_right _ (List.mem_of_getElem? (i := 4) (by decide +kernel)), rfl⟩, ⟨by decide +kernel, by decide +kernel⟩, by decide +kernel⟩, ⟨List.mem_append_right _ (List.mem_of_getElem? (i := 564) (by decide +kernel)), rfl⟩, ⟨List.mem_append_left _ (List.mem_of_getElem? (i := 49) (by decide +kernel)), rfl⟩⟩
theorem ckX6_liveThrough : mj_ckV mX6_liveThrough 1 := ⟨⟨⟨List.mem_append_right _ (List.mem_of_getElem? (i := 605) (by decide +kernel)), rfl⟩, ⟨List.mem_append_right _ (List.mem_of_getElem? (i := 1) (by decide +kernel)), rfl⟩, ⟨by decide +kernel, by decide +kernel⟩, by decide +kernel⟩, ⟨List.mem_append_right _ (List.mem_of_getElem? (i := 604) (by decide +kernel)), rfl⟩, ⟨List.mem_append_left _ (List.mem_of_getElem? (i := 53) (by decide +kernel)), rfl⟩⟩
theorem ckX2_isThere : mj_ckV mX2_isThere 1 := ⟨⟨⟨List.mem_append_right _ (List.mem_of_getElem? (i := 390) (by decide +kernel)), rfl⟩, ⟨List.mem_append_right _ (List.mem_of_getElem? (i := 4) (by decide +kernel)), rfl⟩, ⟨by decide +kernel, by decide +kernel⟩, by decide +kernel⟩, ⟨List.mem_append_right _ (List.mem_of_getElem? (i := 389) (by decide +kernel)), rfl⟩, ⟨List.mem_append_left _ (List.mem_of_getElem? (i := 16) (by decide +kernel)), rfl⟩⟩
theorem ckX2_tellOf : mj_ckV mX2_tellOf 2 := ⟨⟨⟨List.mem_append_right _ (List.mem_of_getElem? (i := 616) (by decide +kernel)), rfl⟩, ⟨List.mem_append_right _ (List.mem_of_getElem? (i := 4) (by decide +kernel)), rfl⟩, ⟨by decide +kernel, by decide +kernel⟩, by decide +kernel⟩, ⟨List.mem_append_right _ (List.mem_of_getElem? (i := 615) (by decide +kernel)), rfl⟩, ⟨List.mem_append_left _ (List.mem_of_getElem? (i := 54) (by decide +kernel)), rfl⟩⟩
theorem ckX3_heaviest : mj_ckV mX3_heaviest 2 := ⟨⟨⟨List.mem_append_right _ (List.mem_of_getElem? (i := 438) (by decide +kernel)), rfl⟩, ⟨List.mem_append_right _ (List.mem_of_getElem? (i := 6) (by decide +kernel)), rfl⟩, ⟨by decide +kernel, by decide +kernel⟩, by decide +kernel⟩, ⟨List.mem_append_right _ (List.mem_of_getElem? (i := 437) (by decide +kernel)), rfl⟩, ⟨List.mem_append_left _ (List.mem_of_getElem? (i := 27) (by decide +kernel)), rfl⟩⟩
theorem ckX0_hold : mj_ckV mX0_hold 2 := ⟨⟨⟨List.mem_append_right _ (List.mem_of_getElem? (i := 422) (by decide +kernel)), rfl⟩, ⟨List.mem_append_right _ (List.mem_of_getElem? (i := 5) (by decide +kernel)), rfl⟩, ⟨by decide +kernel, by decide +kernel⟩, by decide +kernel⟩, ⟨List.mem_append_right _ (List.mem_of_getElem? (i := 421) (by decide +kernel)), rfl⟩, ⟨List.mem_append_left _ (List.mem_of_getElem? (i := 23) (by decide +kernel)), rfl⟩⟩
theorem ckX6_daysInAll : mj_ckV mX6_daysInAll 1 := ⟨⟨⟨List.mem_append_right _ (List.mem_of_getElem? (i := 541) (by decide +kernel)), rfl⟩, ⟨List.mem_append_right _ (List.mem_of_getElem? (i := 1) (by decide +kernel)), rfl⟩, ⟨by decide +kernel, by decide +kernel⟩, by decide +kernel⟩, ⟨List.mem_append_right _ (List.mem_of_getElem? (i := 540) (by decide +kernel)), rfl⟩, ⟨List.mem_append_left _ (List.mem_of_getElem? (i := 44) (by decide +kernel)), rfl⟩⟩
theorem ckX3_reckonNext : mj_ckV mX3_reckonNext 0 := ⟨⟨⟨List.mem_append_right _ (List.mem_of_getElem? (i := 386) (by decide +kernel)), rfl⟩, ⟨List.mem_append_right _ (List.mem_of_getElem? (i := 6) (by decide +kernel)), rfl⟩, ⟨by decide +kernel, by decide +kernel⟩, by decide +kernel⟩, ⟨List.mem_append_right _ (List.mem_of_getElem? (i := 385) (by decide +kernel)), rfl⟩, ⟨List.mem_append_left _ (List.mem_of_getElem? (i := 15) (by decide +kernel)), rfl⟩⟩
theorem ckX0_daysBetween : mj_ckV mX0_daysBetween 3 := ⟨⟨⟨List.mem_append_right _ (List.mem_of_getElem? (i := 546) (by decide +kernel)), rfl⟩, ⟨List.mem_append_right _ (List.mem_of_getElem? (i := 5) (by decide +kernel)), rfl⟩, ⟨by decide +kernel, by decide +kernel⟩, by decide +kernel⟩, ⟨List.mem_append_right _ (List.mem_of_getElem? (i := 545) (by decide +kernel)), rfl⟩, ⟨List.mem_append_left _ (List.mem_of_getElem? (i := 45) (by decide +kernel)), rfl⟩⟩
theorem ckX0_firstFree : mj_ckV mX0_firstFree 2 := ⟨⟨⟨List.mem_append_right _ (List.mem_of_getElem? (i := 550) (by decide +kernel)), rfl⟩, ⟨List.mem_append_right _ (List.mem_of_getElem? (i := 5) (by decide +kernel)), rfl⟩, ⟨by decide +kernel, by decide +kernel⟩, by decide +kernel⟩, ⟨List.mem_append_right _ (List.mem_of_getElem? (i := 549) (by decide +kernel)), rfl⟩, ⟨List.mem_append_left _ (List.mem_of_getElem? (i := 46) (by decide +kernel)), rfl⟩⟩
theorem ckX0_givenTo : mj_ckV mX0_givenTo 1 := ⟨⟨⟨List.mem_append_right _ (List.mem_of_getElem? (i := 655) (by decide +kernel)), rfl⟩, ⟨List.mem_append_right _ (List.mem_of_getElem? (i := 5) (by decide +kernel)), rfl⟩, ⟨by decide +kernel, by decide +kernel⟩, by decide +kernel⟩, ⟨List.mem_append_right _ (List.mem_of_getElem? (i := 654) (by decide +kernel)), rfl⟩, ⟨List.mem_append_left _ (List.mem_of_getElem? (i := 56) (by decide +kernel)), rfl⟩⟩
theorem ckX0_placeOf : mj_ckV mX0_placeOf 2 := ⟨⟨⟨List.mem_append_right _ (List.mem_of_getElem? (i := 659) (by decide +kernel)), rfl⟩, ⟨List.mem_append_right _ (List.mem_of_getElem? (i := 5) (by decide +kernel)), rfl⟩, ⟨by decide +kernel, by decide +kernel⟩, by decide +kernel⟩, ⟨List.mem_append_right _ (List.mem_of_getElem? (i := 658) (by decide +kernel)), rfl⟩, ⟨List.mem_append_left _ (List.mem_of_getElem? (i := 57) (by decide +kernel)), rfl⟩⟩
theorem ckX0_tellOf : mj_ckV mX0_tellOf 2 := ⟨⟨⟨List.mem_append_right _ (List.mem_of_getElem? (i := 663) (by decide +kernel)), rfl⟩, ⟨List.mem_append_right _ (List.mem_of_getElem? (i := 5) (by decide +kernel)), rfl⟩, ⟨by decide +kernel, by decide +kernel⟩, by decide +kernel⟩, ⟨List.mem_append_right _ (List.mem_of_getElem? (i := 662) (by decide +kernel)), rfl⟩, ⟨List.mem_append_left _ (List.mem_of_getElem? (i := 58) (by decide +kernel)), rfl⟩⟩
theorem ckX6_sees : mj_ckV mX6_sees 2 := ⟨⟨⟨List.mem_append_right _ (List.mem_of_getElem? (i := 671) (by decide +kernel)), rfl⟩, ⟨List.mem_append_right _ (List.mem_of_getElem? (i := 1) (by decide +kernel)), rfl⟩, ⟨by decide +kernel, by decide +kernel⟩, by decide +kernel⟩, ⟨List.mem_append_right _ (List.mem_of_getElem? (i := 670) (by decide +kernel)), rfl⟩, ⟨List.mem_append_left _ (List.mem_of_getElem? (i := 59) (by decide +kernel)), rfl⟩⟩
theorem ckX0_has : mj_ckV mX0_has 3 := ⟨⟨⟨List.mem_append_right _ (List.mem_of_getElem? (i := 407) (by decide +kernel)), rfl⟩, ⟨List.mem_append_right _ (List.mem_of_getElem? (i := 5) (by decide +kernel)), rfl⟩, ⟨by decide +kernel, by decide +kernel⟩, by decide +kernel⟩, ⟨List.mem_append_right _ (List.mem_of_getElem? (i := 406) (by decide +kernel)), rfl⟩, ⟨List.mem_append_left _ (List.mem_of_getElem? (i := 20) (by decide +kernel)), rfl⟩⟩
theorem ckX0_dayBehindBansOn : mj_ckV mX0_dayBehindBansOn 2 := ⟨⟨⟨List.mem_append_right _ (List.mem_of_getElem? (i := 554) (by decide +kernel)), rfl⟩, ⟨List.mem_append_right _ (List.mem_of_getElem? (i := 5) (by decide +kernel)), rfl⟩, ⟨by decide +kernel, by decide +kernel⟩, by decide +kernel⟩, ⟨List.mem_append_right _ (List.mem_of_getElem? (i := 553) (by decide +kernel)), rfl⟩, ⟨List.mem_append_left _ (List.mem_of_getElem? (i := 47) (by decide +kernel)), rfl⟩⟩
theorem ckX0_nextFirstDay : mj_ckV mX0_nextFirstDay 3 := ⟨⟨⟨List.mem_append_right _ (List.mem_of_getElem? (i := 561) (by decide +kernel)), rfl⟩, ⟨List.mem_append_right _ (List.mem_of_getElem? (i := 5) (by decide +kernel)), rfl⟩, ⟨by decide +kernel, by decide +kernel⟩, by decide +kernel⟩, ⟨List.mem_append_right _ (List.mem_of_getElem? (i := 560) (by decide +kernel)), rfl⟩, ⟨List.mem_append_left _ (List.mem_of_getElem? (i := 48) (by decide +kernel)), rfl⟩⟩
theorem ckX1_forgetOldest : mj_ckV mX1_forgetOldest 0 := ⟨⟨⟨List.mem_append_right _ (List.mem_of_getElem? (i := 478) (by decide +kernel)), rfl⟩, ⟨List.mem_append_right _ (List.mem_of_getElem? (i := 7) (by decide +kernel)), rfl⟩, ⟨by decide +kernel, by decide +kernel⟩, by decide +kernel⟩, ⟨List.mem_append_right _ (List.mem_of_getElem? (i := 477) (by decide +kernel)), rfl⟩, ⟨List.mem_append_left _ (List.mem_of_getElem? (i := 35) (by decide +kernel)), rfl⟩⟩
theorem ckX2_swap : mj_ckV mX2_swap 3 := ⟨⟨⟨List.mem_append_right _ (List.mem_of_getElem? (i := 569) (by decide +kernel)), rfl⟩, ⟨List.mem_append_right _ (List.mem_of_getElem? (i := 4) (by decide +kernel)), rfl⟩, ⟨by decide +kernel, by decide +kernel⟩, by decide +kernel⟩, ⟨List.mem_append_right _ (List.mem_of_getElem? (i := 568) (by decide +kernel)), rfl⟩, ⟨List.mem_append_left _ (List.mem_of_getElem? (i := 50) (by decide +kernel)), rfl⟩⟩
theorem ckX2_tellOfConviction : mj_ckV mX2_tellOfConviction 2 := ⟨⟨⟨List.mem_append_right _ (List.mem_of_getElem? (i := 620) (by decide +kernel)), rfl⟩, ⟨List.mem_append_right _ (List.mem_of_getElem? (i := 4) (by decide +kernel)), rfl⟩, ⟨by decide +kernel, by decide +kernel⟩, by decide +kernel⟩, ⟨List.mem_append_right _ (List.mem_of_getElem? (i := 619) (by decide +kernel)), rfl⟩, ⟨List.mem_append_left _ (List.mem_of_getElem? (i := 55) (by decide +kernel)), rfl⟩⟩
theorem ckX2_clearMarks : mj_ckV mX2_clearMarks 1 := ⟨⟨⟨List.mem_append_right _ (List.mem_of_getElem? (i := 394) (by decide +kernel)), rfl⟩, ⟨List.mem_append_right _ (List.mem_of_getElem? (i := 4) (by decide +kernel)), rfl⟩, ⟨by decide +kernel, by decide +kernel⟩, by decide +kernel⟩, ⟨List.mem_append_right _ (List.mem_of_getElem? (i := 393) (by decide +kernel)), rfl⟩, ⟨List.mem_append_left _ (List.mem_of_getElem? (i := 17) (by decide +kernel)), rfl⟩⟩
theorem ckX3_reckonLong : mj_ckV mX3_reckonLong 1 := ⟨⟨⟨List.mem_append_right _ (List.mem_of_getElem? (i := 399) (by decide +kernel)), rfl⟩, ⟨List.mem_append_right _ (List.mem_of_getElem? (i := 6) (by decide +kernel)), rfl⟩, ⟨by decide +kernel, by decide +kernel⟩, by decide +kernel⟩, ⟨List.mem_append_right _ (List.mem_of_getElem? (i := 398) (by decide +kernel)), rfl⟩, ⟨List.mem_append_left _ (List.mem_of_getElem? (i := 18) (by decide +kernel)), rfl⟩⟩
theorem ckX3_reckonConviction : mj_ckV mX3_reckonConviction 1 := ⟨⟨⟨List.mem_append_right _ (List.mem_of_getElem? (i := 418) (by decide +kernel)), rfl⟩, ⟨List.mem_append_right _ (List.mem_of_getElem? (i := 6) (by decide +kernel)), rfl⟩, ⟨by decide +kernel, by decide +kernel⟩, by decide +kernel⟩, ⟨List.mem_append_right _ (List.mem_of_getElem? (i := 417) (by decide +kernel)), rfl⟩, ⟨List.mem_append_left _ (List.mem_of_getElem? (i := 22) (by decide +kernel)), rfl⟩⟩
theorem ckX0_shorten : mj_ckV mX0_shorten 2 := ⟨⟨⟨List.mem_append_right _ (List.mem_of_getElem? (i := 411) (by decide +kernel)), rfl⟩, ⟨List.mem_append_right _ (List.mem_of_getElem? (i := 5) (by decide +kernel)), rfl⟩, ⟨by decide +kernel, by decide +kernel⟩, by decide +kernel⟩, ⟨List.mem_append_right _ (List.mem_of_getElem? (i := 410) (by decide +kernel)), rfl⟩, ⟨List.mem_append_left _ (List.mem_of_getElem? (i := 21) (by decide +kernel)), rfl⟩⟩
theorem ckX0_add : mj_ckV mX0_add 6 := ⟨⟨⟨List.mem_append_right _ (List.mem_of_getElem? (i := 434) (by decide +kernel)), rfl⟩, ⟨List.mem_append_right _ (List.mem_of_getElem? (i := 5) (by decide +kernel)), rfl⟩, ⟨by decide +kernel, by decide +kernel⟩, by decide +kernel⟩, ⟨List.mem_append_right _ (List.mem_of_getElem? (i := 433) (by decide +kernel)), rfl⟩, ⟨List.mem_append_left _ (List.mem_of_getElem? (i := 26) (by decide +kernel)), rfl⟩⟩
theorem ckX3_giveGreatBan : mj_ckV mX3_giveGreatBan 3 := ⟨⟨⟨List.mem_append_right _ (List.mem_of_getElem? (i := 451) (by decide +kernel)), rfl⟩, ⟨List.mem_append_right _ (List.mem_of_getElem? (i := 6) (by decide +kernel)), rfl⟩, ⟨by decide +kernel, by decide +kernel⟩, by decide +kernel⟩, ⟨List.mem_append_right _ (List.mem_of_getElem? (i := 450) (by decide +kernel)), rfl⟩, ⟨List.mem_append_left _ (List.mem_of_getElem? (i := 30) (by decide +kernel)), rfl⟩⟩
theorem ckX0_greatSince : mj_ckV mX0_greatSince 2 := ⟨⟨⟨List.mem_append_right _ (List.mem_of_getElem? (i := 455) (by decide +kernel)), rfl⟩, ⟨List.mem_append_right _ (List.mem_of_getElem? (i := 5) (by decide +kernel)), rfl⟩, ⟨by decide +kernel, by decide +kernel⟩, by decide +kernel⟩, ⟨List.mem_append_right _ (List.mem_of_getElem? (i := 454) (by decide +kernel)), rfl⟩, ⟨List.mem_append_left _ (List.mem_of_getElem? (i := 31) (by decide +kernel)), rfl⟩⟩
theorem ckX0_latestDay : mj_ckV mX0_latestDay 1 := ⟨⟨⟨List.mem_append_right _ (List.mem_of_getElem? (i := 459) (by decide +kernel)), rfl⟩, ⟨List.mem_append_right _ (List.mem_of_getElem? (i := 5) (by decide +kernel)), rfl⟩, ⟨by decide +kernel, by decide +kernel⟩, by decide +kernel⟩, ⟨List.mem_append_right _ (List.mem_of_getElem? (i := 458) (by decide +kernel)), rfl⟩, ⟨List.mem_append_left _ (List.mem_of_getElem? (i := 32) (by decide +kernel)), rfl⟩⟩
theorem ckX2_spend : mj_ckV mX2_spend 2 := ⟨⟨⟨List.mem_append_right _ (List.mem_of_getElem? (i := 463) (by decide +kernel)), rfl⟩, ⟨List.mem_append_right _ (List.mem_of_getElem? (i := 4) (by decide +kernel)), rfl⟩, ⟨by decide +kernel, by decide +kernel⟩, by decide +kernel⟩, ⟨List.mem_append_right _ (List.mem_of_getElem? (i := 462) (by decide +kernel)), rfl⟩, ⟨List.mem_append_left _ (List.mem_of_getElem? (i := 33) (by decide +kernel)), rfl⟩⟩
theorem ckX2_weigh : mj_ckV mX2_weigh 4 := ⟨⟨⟨List.mem_append_right _ (List.mem_of_getElem? (i := 446) (by decide +kernel)), rfl⟩, ⟨List.mem_append_right _ (List.mem_of_getElem? (i := 4) (by decide +kernel)), rfl⟩, ⟨by decide +kernel, by decide +kernel⟩, by decide +kernel⟩, ⟨List.mem_append_right _ (List.mem_of_getElem? (i := 445) (by decide +kernel)), rfl⟩, ⟨List.mem_append_left _ (List.mem_of_getElem? (i := 29) (by decide +kernel)), rfl⟩⟩
theorem ckX5_reset : mj_ckV mX5_reset 0 := ⟨⟨⟨List.mem_append_right _ (List.mem_of_getElem? (i := 279) (by decide +kernel)), rfl⟩, ⟨List.mem_append_right _ (List.mem_of_getElem? (i := 3) (by decide +kernel)), rfl⟩, ⟨by decide +kernel, by decide +kernel⟩, by decide +kernel⟩, ⟨List.mem_append_right _ (List.mem_of_getElem? (i := 278) (by decide +kernel)), rfl⟩, ⟨List.mem_append_left _ (List.mem_of_getElem? (i := 2) (by decide +kernel)), rfl⟩⟩
theorem ckX4_readItem : mj_ckV mX4_readItem 1 := ⟨⟨⟨List.mem_append_right _ (List.mem_of_getElem? (i := 285) (by decide +kernel)), rfl⟩, ⟨List.mem_append_right _ (List.mem_of_getElem? (i := 2) (by decide +kernel)), rfl⟩, ⟨by decide +kernel, by decide +kernel⟩, by decide +kernel⟩, ⟨List.mem_append_right _ (List.mem_of_getElem? (i := 284) (by decide +kernel)), rfl⟩, ⟨List.mem_append_left _ (List.mem_of_getElem? (i := 3) (by decide +kernel)), rfl⟩⟩
theorem ckX4_peek : mj_ckV mX4_peek 0 := ⟨⟨⟨List.mem_append_right _ (List.mem_of_getElem? (i := 289) (by decide +kernel)), rfl⟩, ⟨List.mem_append_right _ (List.mem_of_getElem? (i := 2) (by decide +kernel)), rfl⟩, ⟨by decide +kernel, by decide +kernel⟩, by decide +kernel⟩, ⟨List.mem_append_right _ (List.mem_of_getElem? (i := 288) (by decide +kernel)), rfl⟩, ⟨List.mem_append_left _ (List.mem_of_getElem? (i := 4) (by decide +kernel)), rfl⟩⟩
theorem ckX4_readRule : mj_ckV mX4_readRule 3 := ⟨⟨⟨List.mem_append_right _ (List.mem_of_getElem? (i := 293) (by decide +kernel)), rfl⟩, ⟨List.mem_append_right _ (List.mem_of_getElem? (i := 2) (by decide +kernel)), rfl⟩, ⟨by decide +kernel, by decide +kernel⟩, by decide +kernel⟩, ⟨List.mem_append_right _ (List.mem_of_getElem? (i := 292) (by decide +kernel)), rfl⟩, ⟨List.mem_append_left _ (List.mem_of_getElem? (i := 5) (by decide +kernel)), rfl⟩⟩
theorem ckX4_readCode : mj_ckV mX4_readCode 1 := ⟨⟨⟨List.mem_append_right _ (List.mem_of_getElem? (i := 316) (by decide +kernel)), rfl⟩, ⟨List.mem_append_right _ (List.mem_of_getElem? (i := 2) (by decide +kernel)), rfl⟩, ⟨by decide +kernel, by decide +kernel⟩, by decide +kernel⟩, ⟨List.mem_append_right _ (List.mem_of_getElem? (i := 315) (by decide +kernel)), rfl⟩, ⟨List.mem_append_left _ (List.mem_of_getElem? (i := 9) (by decide +kernel)), rfl⟩⟩
theorem ckX4_readEnd : mj_ckV mX4_readEnd 0 := ⟨⟨⟨List.mem_append_right _ (List.mem_of_getElem? (i := 324) (by decide +kernel)), rfl⟩, ⟨List.mem_append_right _ (List.mem_of_getElem? (i := 2) (by decide +kernel)), rfl⟩, ⟨by decide +kernel, by decide +kernel⟩, by decide +kernel⟩, ⟨List.mem_append_right _ (List.mem_of_getElem? (i := 323) (by decide +kernel)), rfl⟩, ⟨List.mem_append_left _ (List.mem_of_getElem? (i := 11) (by decide +kernel)), rfl⟩⟩
theorem ckX4_readNumber : mj_ckV mX4_readNumber 1 := ⟨⟨⟨List.mem_append_right _ (List.mem_of_getElem? (i := 297) (by decide +kernel)), rfl⟩, ⟨List.mem_append_right _ (List.mem_of_getElem? (i := 2) (by decide +kernel)), rfl⟩, ⟨by decide +kernel, by decide +kernel⟩, by decide +kernel⟩, ⟨List.mem_append_right _ (List.mem_of_getElem? (i := 296) (by decide +kernel)), rfl⟩, ⟨List.mem_append_left _ (List.mem_of_getElem? (i := 6) (by decide +kernel)), rfl⟩⟩
theorem ckX5_addCode : mj_ckV mX5_addCode 2 := ⟨⟨⟨List.mem_append_right _ (List.mem_of_getElem? (i := 320) (by decide +kernel)), rfl⟩, ⟨List.mem_append_right _ (List.mem_of_getElem? (i := 3) (by decide +kernel)), rfl⟩, ⟨by decide +kernel, by decide +kernel⟩, by decide +kernel⟩, ⟨List.mem_append_right _ (List.mem_of_getElem? (i := 319) (by decide +kernel)), rfl⟩, ⟨List.mem_append_left _ (List.mem_of_getElem? (i := 10) (by decide +kernel)), rfl⟩⟩
theorem ckX5_isRule : mj_ckS mX5_isRule 1 := ⟨⟨⟨List.mem_append_right _ (List.mem_of_getElem? (i := 304) (by decide +kernel)), rfl⟩, ⟨List.mem_append_right _ (List.mem_of_getElem? (i := 3) (by decide +kernel)), rfl⟩, ⟨by decide +kernel, by decide +kernel⟩, by decide +kernel⟩, ⟨List.mem_append_right _ (List.mem_of_getElem? (i := 303) (by decide +kernel)), rfl⟩⟩
theorem ckX6_write : mj_ckV mX6_write 1 := ⟨⟨⟨List.mem_append_right _ (List.mem_of_getElem? (i := 358) (by decide +kernel)), rfl⟩, ⟨List.mem_append_right _ (List.mem_of_getElem? (i := 1) (by decide +kernel)), rfl⟩, ⟨by decide +kernel, by decide +kernel⟩, by decide +kernel⟩, ⟨List.mem_append_right _ (List.mem_of_getElem? (i := 356) (by decide +kernel)), rfl⟩, ⟨List.mem_append_right _ (List.mem_of_getElem? (i := 357) (by decide +kernel)), rfl⟩⟩
theorem ckX7_write : mj_ckV mX7_write 1 := ⟨⟨⟨List.mem_append_right _ (List.mem_of_getElem? (i := 776) (by decide +kernel)), rfl⟩, ⟨List.mem_append_right _ (List.mem_of_getElem? (i := 12) (by decide +kernel)), rfl⟩, ⟨by decide +kernel, by decide +kernel⟩, by decide +kernel⟩, ⟨List.mem_append_right _ (List.mem_of_getElem? (i := 774) (by decide +kernel)), rfl⟩, ⟨List.mem_append_right _ (List.mem_of_getElem? (i := 775) (by decide +kernel)), rfl⟩⟩
theorem ckX6_wipe : mj_ckV mX6_wipe 0 := ⟨⟨⟨List.mem_append_right _ (List.mem_of_getElem? (i := 362) (by decide +kernel)), rfl⟩, ⟨List.mem_append_right _ (List.mem_of_getElem? (i := 1) (by decide +kernel)), rfl⟩, ⟨by decide +kernel, by decide +kernel⟩, by decide +kernel⟩, ⟨List.mem_append_right _ (List.mem_of_getElem? (i := 360) (by decide +kernel)), rfl⟩, ⟨List.mem_append_right _ (List.mem_of_getElem? (i := 361) (by decide +kernel)), rfl⟩⟩
theorem ckX7_wipe : mj_ckV mX7_wipe 0 := ⟨⟨⟨List.mem_append_right _ (List.mem_of_getElem? (i := 785) (by decide +kernel)), rfl⟩, ⟨List.mem_append_right _ (List.mem_of_getElem? (i := 12) (by decide +kernel)), rfl⟩, ⟨by decide +kernel, by decide +kernel⟩, by decide +kernel⟩, ⟨List.mem_append_right _ (List.mem_of_getElem? (i := 783) (by decide +kernel)), rfl⟩, ⟨List.mem_append_right _ (List.mem_of_getElem? (i := 784) (by decide +kernel)), rfl⟩⟩
theorem ckX6_fault : mj_ckV mX6_fault 0 := ⟨⟨⟨List.mem_append_right _ (List.mem_of_getElem? (i := 366) (by decide +kernel)), rfl⟩, ⟨List.mem_append_right _ (List.mem_of_getElem? (i := 1) (by decide +kernel)), rfl⟩, ⟨by decide +kernel, by decide +kernel⟩, by decide +kernel⟩, ⟨List.mem_append_right _ (List.mem_of_getElem? (i := 364) (by decide +kernel)), rfl⟩, ⟨List.mem_append_right _ (List.mem_of_getElem? (i := 365) (by decide +kernel)), rfl⟩⟩
theorem ckX7_fault : mj_ckV mX7_fault 0 := ⟨⟨⟨List.mem_append_right _ (List.mem_of_getElem? (i := 789) (by decide +kernel)), rfl⟩, ⟨List.mem_append_right _ (List.mem_of_getElem? (i := 12) (by decide +kernel)), rfl⟩, ⟨by decide +kernel, by decide +kernel⟩, by decide +kernel⟩, ⟨List.mem_append_right _ (List.mem_of_getElem? (i := 787) (by decide +kernel)), rfl⟩, ⟨List.mem_append_right _ (List.mem_of_getElem? (i := 788) (by decide +kernel)), rfl⟩⟩
theorem ckX6_reason : mj_ckV mX6_reason 0 := ⟨⟨⟨List.mem_append_right _ (List.mem_of_getElem? (i := 370) (by decide +kernel)), rfl⟩, ⟨List.mem_append_right _ (List.mem_of_getElem? (i := 1) (by decide +kernel)), rfl⟩, ⟨by decide +kernel, by decide +kernel⟩, by decide +kernel⟩, ⟨List.mem_append_right _ (List.mem_of_getElem? (i := 368) (by decide +kernel)), rfl⟩, ⟨List.mem_append_right _ (List.mem_of_getElem? (i := 369) (by decide +kernel)), rfl⟩⟩
theorem ckX7_reason : mj_ckV mX7_reason 0 := ⟨⟨⟨List.mem_append_right _ (List.mem_of_getElem? (i := 827) (by decide +kernel)), rfl⟩, ⟨List.mem_append_right _ (List.mem_of_getElem? (i := 12) (by decide +kernel)), rfl⟩, ⟨by decide +kernel, by decide +kernel⟩, by decide +kernel⟩, ⟨List.mem_append_right _ (List.mem_of_getElem? (i := 825) (by decide +kernel)), rfl⟩, ⟨List.mem_append_right _ (List.mem_of_getElem? (i := 826) (by decide +kernel)), rfl⟩⟩
theorem ckX6_lay : mj_ckV mX6_lay 0 := ⟨⟨⟨List.mem_append_right _ (List.mem_of_getElem? (i := 374) (by decide +kernel)), rfl⟩, ⟨List.mem_append_right _ (List.mem_of_getElem? (i := 1) (by decide +kernel)), rfl⟩, ⟨by decide +kernel, by decide +kernel⟩, by decide +kernel⟩, ⟨List.mem_append_right _ (List.mem_of_getElem? (i := 372) (by decide +kernel)), rfl⟩, ⟨List.mem_append_right _ (List.mem_of_getElem? (i := 373) (by decide +kernel)), rfl⟩⟩
theorem ckX7_lay : mj_ckV mX7_lay 0 := ⟨⟨⟨List.mem_append_right _ (List.mem_of_getElem? (i := 831) (by decide +kernel)), rfl⟩, ⟨List.mem_append_right _ (List.mem_of_getElem? (i := 12) (by decide +kernel)), rfl⟩, ⟨by decide +kernel, by decide +kernel⟩, by decide +kernel⟩, ⟨List.mem_append_right _ (List.mem_of_getElem? (i := 829) (by decide +kernel)), rfl⟩, ⟨List.mem_append_right _ (List.mem_of_getElem? (i := 830) (by decide +kernel)), rfl⟩⟩
theorem ckX6_rule : mj_ckV mX6_rule 2 := ⟨⟨⟨List.mem_append_right _ (List.mem_of_getElem? (i := 467) (by decide +kernel)), rfl⟩, ⟨List.mem_append_right _ (List.mem_of_getElem? (i := 1) (by decide +kernel)), rfl⟩, ⟨by decide +kernel, by decide +kernel⟩, by decide +kernel⟩, ⟨List.mem_append_right _ (List.mem_of_getElem? (i := 465) (by decide +kernel)), rfl⟩, ⟨List.mem_append_right _ (List.mem_of_getElem? (i := 466) (by decide +kernel)), rfl⟩⟩
theorem ckX7_rule : mj_ckV mX7_rule 2 := ⟨⟨⟨List.mem_append_right _ (List.mem_of_getElem? (i := 835) (by decide +kernel)), rfl⟩, ⟨List.mem_append_right _ (List.mem_of_getElem? (i := 12) (by decide +kernel)), rfl⟩, ⟨by decide +kernel, by decide +kernel⟩, by decide +kernel⟩, ⟨List.mem_append_right _ (List.mem_of_getElem? (i := 833) (by decide +kernel)), rfl⟩, ⟨List.mem_append_right _ (List.mem_of_getElem? (i := 834) (by decide +kernel)), rfl⟩⟩
theorem ckX6_code : mj_ckV mX6_code 2 := ⟨⟨⟨List.mem_append_right _ (List.mem_of_getElem? (i := 482) (by decide +kernel)), rfl⟩, ⟨List.mem_append_right _ (List.mem_of_getElem? (i := 1) (by decide +kernel)), rfl⟩, ⟨by decide +kernel, by decide +kernel⟩, by decide +kernel⟩, ⟨List.mem_append_right _ (List.mem_of_getElem? (i := 480) (by decide +kernel)), rfl⟩, ⟨List.mem_append_right _ (List.mem_of_getElem? (i := 481) (by decide +kernel)), rfl⟩⟩
theorem ckX7_code : mj_ckV mX7_code 2 := ⟨⟨⟨List.mem_append_right _ (List.mem_of_getElem? (i := 850) (by decide +kernel)), rfl⟩, ⟨List.mem_append_right _ (List.mem_of_getElem? (i := 12) (by decide +kernel)), rfl⟩, ⟨by decide +kernel, by decide +kernel⟩, by decide +kernel⟩, ⟨List.mem_append_right _ (List.mem_of_getElem? (i := 848) (by decide +kernel)), rfl⟩, ⟨List.mem_append_right _ (List.mem_of_getElem? (i := 849) (by decide +kernel)), rfl⟩⟩
theorem ckX6_pass : mj_ckV mX6_pass 1 := ⟨⟨⟨List.mem_append_right _ (List.mem_of_getElem? (i := 492) (by decide +kernel)), rfl⟩, ⟨List.mem_append_right _ (List.mem_of_getElem? (i := 1) (by decide +kernel)), rfl⟩, ⟨by decide +kernel, by decide +kernel⟩, by decide +kernel⟩, ⟨List.mem_append_right _ (List.mem_of_getElem? (i := 490) (by decide +kernel)), rfl⟩, ⟨List.mem_append_right _ (List.mem_of_getElem? (i := 491) (by decide +kernel)), rfl⟩⟩
theorem ckX7_pass : mj_ckV mX7_pass 1 := ⟨⟨⟨List.mem_append_right _ (List.mem_of_getElem? (i := 858) (by decide +kernel)), rfl⟩, ⟨List.mem_append_right _ (List.mem_of_getElem? (i := 12) (by decide +kernel)), rfl⟩, ⟨by decide +kernel, by decide +kernel⟩, by decide +kernel⟩, ⟨List.mem_append_right _ (List.mem_of_getElem? (i := 856) (by decide +kernel)), rfl⟩, ⟨List.mem_append_right _ (List.mem_of_getElem? (i := 857) (by decide +kernel)), rfl⟩⟩
theorem ckX6_convict : mj_ckV mX6_convict 4 := ⟨⟨⟨List.mem_append_right _ (List.mem_of_getElem? (i := 496) (by decide +kernel)), rfl⟩, ⟨List.mem_append_right _ (List.mem_of_getElem? (i := 1) (by decide +kernel)), rfl⟩, ⟨by decide +kernel, by decide +kernel⟩, by decide +kernel⟩, ⟨List.mem_append_right _ (List.mem_of_getElem? (i := 494) (by decide +kernel)), rfl⟩, ⟨List.mem_append_right _ (List.mem_of_getElem? (i := 495) (by decide +kernel)), rfl⟩⟩
theorem ckX7_convict : mj_ckV mX7_convict 4 := ⟨⟨⟨List.mem_append_right _ (List.mem_of_getElem? (i := 863) (by decide +kernel)), rfl⟩, ⟨List.mem_append_right _ (List.mem_of_getElem? (i := 12) (by decide +kernel)), rfl⟩, ⟨by decide +kernel, by decide +kernel⟩, by decide +kernel⟩, ⟨List.mem_append_right _ (List.mem_of_getElem? (i := 861) (by decide +kernel)), rfl⟩, ⟨List.mem_append_right _ (List.mem_of_getElem? (i := 862) (by decide +kernel)), rfl⟩⟩
theorem ckX6_course : mj_ckV mX6_course 2 := ⟨⟨⟨List.mem_append_right _ (List.mem_of_getElem? (i := 516) (by decide +kernel)), rfl⟩, ⟨List.mem_append_right _ (List.mem_of_getElem? (i := 1) (by decide +kernel)), rfl⟩, ⟨by decide +kernel, by decide +kernel⟩, by decide +kernel⟩, ⟨List.mem_append_right _ (List.mem_of_getElem? (i := 514) (by decide +kernel)), rfl⟩, ⟨List.mem_append_right _ (List.mem_of_getElem? (i := 515) (by decide +kernel)), rfl⟩⟩
theorem ckX7_course : mj_ckV mX7_course 2 := ⟨⟨⟨List.mem_append_right _ (List.mem_of_getElem? (i := 875) (by decide +kernel)), rfl⟩, ⟨List.mem_append_right _ (List.mem_of_getElem? (i := 12) (by decide +kernel)), rfl⟩, ⟨by decide +kernel, by decide +kernel⟩, by decide +kernel⟩, ⟨List.mem_append_right _ (List.mem_of_getElem? (i := 873) (by decide +kernel)), rfl⟩, ⟨List.mem_append_right _ (List.mem_of_getElem? (i := 874) (by decide +kernel)), rfl⟩⟩
theorem ckX6_strike : mj_ckV mX6_strike 1 := ⟨⟨⟨List.mem_append_right _ (List.mem_of_getElem? (i := 529) (by decide +kernel)), rfl⟩, ⟨List.mem_append_right _ (List.mem_of_getElem? (i := 1) (by decide +kernel)), rfl⟩, ⟨by decide +kernel, by decide +kernel⟩, by decide +kernel⟩, ⟨List.mem_append_right _ (List.mem_of_getElem? (i := 527) (by decide +kernel)), rfl⟩, ⟨List.mem_append_right _ (List.mem_of_getElem? (i := 528) (by decide +kernel)), rfl⟩⟩
theorem ckX7_strike : mj_ckV mX7_strike 1 := ⟨⟨⟨List.mem_append_right _ (List.mem_of_getElem? (i := 936) (by decide +kernel)), rfl⟩, ⟨List.mem_append_right _ (List.mem_of_getElem? (i := 12) (by decide +kernel)), rfl⟩, ⟨by decide +kernel, by decide +kernel⟩, by decide +kernel⟩, ⟨List.mem_append_right _ (List.mem_of_getElem? (i := 934) (by decide +kernel)), rfl⟩, ⟨List.mem_append_right _ (List.mem_of_getElem? (i := 935) (by decide +kernel)), rfl⟩⟩
theorem ckX6_lower : mj_ckV mX6_lower 2 := ⟨⟨⟨List.mem_append_right _ (List.mem_of_getElem? (i := 574) (by decide +kernel)), rfl⟩, ⟨List.mem_append_right _ (List.mem_of_getElem? (i := 1) (by decide +kernel)), rfl⟩, ⟨by decide +kernel, by decide +kernel⟩, by decide +kernel⟩, ⟨List.mem_append_right _ (List.mem_of_getElem? (i := 572) (by decide +kernel)), rfl⟩, ⟨List.mem_append_right _ (List.mem_of_getElem? (i := 573) (by decide +kernel)), rfl⟩⟩
theorem ckX7_lower : mj_ckV mX7_lower 2 := ⟨⟨⟨List.mem_append_right _ (List.mem_of_getElem? (i := 965) (by decide +kernel)), rfl⟩, ⟨List.mem_append_right _ (List.mem_of_getElem? (i := 12) (by decide +kernel)), rfl⟩, ⟨by decide +kernel, by decide +kernel⟩, by decide +kernel⟩, ⟨List.mem_append_right _ (List.mem_of_getElem? (i := 963) (by decide +kernel)), rfl⟩, ⟨List.mem_append_right _ (List.mem_of_getElem? (i := 964) (by decide +kernel)), rfl⟩⟩
theorem ckX6_redate : mj_ckV mX6_redate 2 := ⟨⟨⟨List.mem_append_right _ (List.mem_of_getElem? (i := 578) (by decide +kernel)), rfl⟩, ⟨List.mem_append_right _ (List.mem_of_getElem? (i := 1) (by decide +kernel)), rfl⟩, ⟨by decide +kernel, by decide +kernel⟩, by decide +kernel⟩, ⟨List.mem_append_right _ (List.mem_of_getElem? (i := 576) (by decide +kernel)), rfl⟩, ⟨List.mem_append_right _ (List.mem_of_getElem? (i := 577) (by decide +kernel)), rfl⟩⟩
theorem ckX7_redate : mj_ckV mX7_redate 2 := ⟨⟨⟨List.mem_append_right _ (List.mem_of_getElem? (i := 970) (by decide +kernel)), rfl⟩, ⟨List.mem_append_right _ (List.mem_of_getElem? (i := 12) (by decide +kernel)), rfl⟩, ⟨by decide +kernel, by decide +kernel⟩, by decide +kernel⟩, ⟨List.mem_append_right _ (List.mem_of_getElem? (i := 968) (by decide +kernel)), rfl⟩, ⟨List.mem_append_right _ (List.mem_of_getElem? (i := 969) (by decide +kernel)), rfl⟩⟩
theorem ckX6_excuse : mj_ckV mX6_excuse 1 := ⟨⟨⟨List.mem_append_right _ (List.mem_of_getElem? (i := 582) (by decide +kernel)), rfl⟩, ⟨List.mem_append_right _ (List.mem_of_getElem? (i := 1) (by decide +kernel)), rfl⟩, ⟨by decide +kernel, by decide +kernel⟩, by decide +kernel⟩, ⟨List.mem_append_right _ (List.mem_of_getElem? (i := 580) (by decide +kernel)), rfl⟩, ⟨List.mem_append_right _ (List.mem_of_getElem? (i := 581) (by decide +kernel)), rfl⟩⟩
theorem ckX7_excuse : mj_ckV mX7_excuse 1 := ⟨⟨⟨List.mem_append_right _ (List.mem_of_getElem? (i := 974) (by decide +kernel)), rfl⟩, ⟨List.mem_append_right _ (List.mem_of_getElem? (i := 12) (by decide +kernel)), rfl⟩, ⟨by decide +kernel, by decide +kernel⟩, by decide +kernel⟩, ⟨List.mem_append_right _ (List.mem_of_getElem? (i := 972) (by decide +kernel)), rfl⟩, ⟨List.mem_append_right _ (List.mem_of_getElem? (i := 973) (by decide +kernel)), rfl⟩⟩
theorem ckX6_undo : mj_ckV mX6_undo 0 := ⟨⟨⟨List.mem_append_right _ (List.mem_of_getElem? (i := 586) (by decide +kernel)), rfl⟩, ⟨List.mem_append_right _ (List.mem_of_getElem? (i := 1) (by decide +kernel)), rfl⟩, ⟨by decide +kernel, by decide +kernel⟩, by decide +kernel⟩, ⟨List.mem_append_right _ (List.mem_of_getElem? (i := 584) (by decide +kernel)), rfl⟩, ⟨List.mem_append_right _ (List.mem_of_getElem? (i := 585) (by decide +kernel)), rfl⟩⟩
theorem ckX7_undo : mj_ckV mX7_undo 0 := ⟨⟨⟨List.mem_append_right _ (List.mem_of_getElem? (i := 978) (by decide +kernel)), rfl⟩, ⟨List.mem_append_right _ (List.mem_of_getElem? (i := 12) (by decide +kernel)), rfl⟩, ⟨by decide +kernel, by decide +kernel⟩, by decide +kernel⟩, ⟨List.mem_append_right _ (List.mem_of_getElem? (i := 976) (by decide +kernel)), rfl⟩, ⟨List.mem_append_right _ (List.mem_of_getElem? (i := 977) (by decide +kernel)), rfl⟩⟩
theorem ckX6_year : mj_ckV mX6_year 2 := ⟨⟨⟨List.mem_append_right _ (List.mem_of_getElem? (i := 598) (by decide +kernel)), rfl⟩, ⟨List.mem_append_right _ (List.mem_of_getElem? (i := 1) (by decide +kernel)), rfl⟩, ⟨by decide +kernel, by decide +kernel⟩, by decide +kernel⟩, ⟨List.mem_append_right _ (List.mem_of_getElem? (i := 596) (by decide +kernel)), rfl⟩, ⟨List.mem_append_right _ (List.mem_of_getElem? (i := 597) (by decide +kernel)), rfl⟩⟩
theorem ckX7_year : mj_ckV mX7_year 2 := ⟨⟨⟨List.mem_append_right _ (List.mem_of_getElem? (i := 982) (by decide +kernel)), rfl⟩, ⟨List.mem_append_right _ (List.mem_of_getElem? (i := 12) (by decide +kernel)), rfl⟩, ⟨by decide +kernel, by decide +kernel⟩, by decide +kernel⟩, ⟨List.mem_append_right _ (List.mem_of_getElem? (i := 980) (by decide +kernel)), rfl⟩, ⟨List.mem_append_right _ (List.mem_of_getElem? (i := 981) (by decide +kernel)), rfl⟩⟩
theorem ckX6_event : mj_ckV mX6_event 2 := ⟨⟨⟨List.mem_append_right _ (List.mem_of_getElem? (i := 611) (by decide +kernel)), rfl⟩, ⟨List.mem_append_right _ (List.mem_of_getElem? (i := 1) (by decide +kernel)), rfl⟩, ⟨by decide +kernel, by decide +kernel⟩, by decide +kernel⟩, ⟨List.mem_append_right _ (List.mem_of_getElem? (i := 609) (by decide +kernel)), rfl⟩, ⟨List.mem_append_right _ (List.mem_of_getElem? (i := 610) (by decide +kernel)), rfl⟩⟩
theorem ckX7_event : mj_ckV mX7_event 2 := ⟨⟨⟨List.mem_append_right _ (List.mem_of_getElem? (i := 990) (by decide +kernel)), rfl⟩, ⟨List.mem_append_right _ (List.mem_of_getElem? (i := 12) (by decide +kernel)), rfl⟩, ⟨by decide +kernel, by decide +kernel⟩, by decide +kernel⟩, ⟨List.mem_append_right _ (List.mem_of_getElem? (i := 988) (by decide +kernel)), rfl⟩, ⟨List.mem_append_right _ (List.mem_of_getElem? (i := 989) (by decide +kernel)), rfl⟩⟩
theorem ckX6_sum : mj_ckV mX6_sum 2 := ⟨⟨⟨List.mem_append_right _ (List.mem_of_getElem? (i := 624) (by decide +kernel)), rfl⟩, ⟨List.mem_append_right _ (List.mem_of_getElem? (i := 1) (by decide +kernel)), rfl⟩, ⟨by decide +kernel, by decide +kernel⟩, by decide +kernel⟩, ⟨List.mem_append_right _ (List.mem_of_getElem? (i := 622) (by decide +kernel)), rfl⟩, ⟨List.mem_append_right _ (List.mem_of_getElem? (i := 623) (by decide +kernel)), rfl⟩⟩
theorem ckX7_sum : mj_ckV mX7_sum 2 := ⟨⟨⟨List.mem_append_right _ (List.mem_of_getElem? (i := 995) (by decide +kernel)), rfl⟩, ⟨List.mem_append_right _ (List.mem_of_getElem? (i := 12) (by decide +kernel)), rfl⟩, ⟨by decide +kernel, by decide +kernel⟩, by decide +kernel⟩, ⟨List.mem_append_right _ (List.mem_of_getElem? (i := 993) (by decide +kernel)), rfl⟩, ⟨List.mem_append_right _ (List.mem_of_getElem? (i := 994) (by decide +kernel)), rfl⟩⟩
theorem ckX6_need : mj_ckV mX6_need 1 := ⟨⟨⟨List.mem_append_right _ (List.mem_of_getElem? (i := 629) (by decide +kernel)), rfl⟩, ⟨List.mem_append_right _ (List.mem_of_getElem? (i := 1) (by decide +kernel)), rfl⟩, ⟨by decide +kernel, by decide +kernel⟩, by decide +kernel⟩, ⟨List.mem_append_right _ (List.mem_of_getElem? (i := 627) (by decide +kernel)), rfl⟩, ⟨List.mem_append_right _ (List.mem_of_getElem? (i := 628) (by decide +kernel)), rfl⟩⟩
theorem ckX7_need : mj_ckV mX7_need 1 := ⟨⟨⟨List.mem_append_right _ (List.mem_of_getElem? (i := 999) (by decide +kernel)), rfl⟩, ⟨List.mem_append_right _ (List.mem_of_getElem? (i := 12) (by decide +kernel)), rfl⟩, ⟨by decide +kernel, by decide +kernel⟩, by decide +kernel⟩, ⟨List.mem_append_right _ (List.mem_of_getElem? (i := 997) (by decide +kernel)), rfl⟩, ⟨List.mem_append_right _ (List.mem_of_getElem? (i := 998) (by decide +kernel)), rfl⟩⟩
theorem ckX6_would : mj_ckV mX6_would 3 := ⟨⟨⟨List.mem_append_right _ (List.mem_of_getElem? (i := 634) (by decide +kernel)), rfl⟩, ⟨List.mem_append_right _ (List.mem_of_getElem? (i := 1) (by decide +kernel)), rfl⟩, ⟨by decide +kernel, by decide +kernel⟩, by decide +kernel⟩, ⟨List.mem_append_right _ (List.mem_of_getElem? (i := 632) (by decide +kernel)), rfl⟩, ⟨List.mem_append_right _ (List.mem_of_getElem? (i := 633) (by decide +kernel)), rfl⟩⟩
theorem ckX7_would : mj_ckV mX7_would 3 := ⟨⟨⟨List.mem_append_right _ (List.mem_of_getElem? (i := 1003) (by decide +kernel)), rfl⟩, ⟨List.mem_append_right _ (List.mem_of_getElem? (i := 12) (by decide +kernel)), rfl⟩, ⟨by decide +kernel, by decide +kernel⟩, by decide +kernel⟩, ⟨List.mem_append_right _ (List.mem_of_getElem? (i := 1001) (by decide +kernel)), rfl⟩, ⟨List.mem_append_right _ (List.mem_of_getElem? (i := 1002) (by decide +kernel)), rfl⟩⟩
theorem ckX6_banned : mj_ckV mX6_banned 2 := ⟨⟨⟨List.mem_append_right _ (List.mem_of_getElem? (i := 638) (by decide +kernel)), rfl⟩, ⟨List.mem_append_right _ (List.mem_of_getElem? (i := 1) (by decide +kernel)), rfl⟩, ⟨by decide +kernel, by decide +kernel⟩, by decide +kernel⟩, ⟨List.mem_append_right _ (List.mem_of_getElem? (i := 636) (by decide +kernel)), rfl⟩, ⟨List.mem_append_right _ (List.mem_of_getElem? (i := 637) (by decide +kernel)), rfl⟩⟩
theorem ckX7_banned : mj_ckV mX7_banned 2 := ⟨⟨⟨List.mem_append_right _ (List.mem_of_getElem? (i := 1007) (by decide +kernel)), rfl⟩, ⟨List.mem_append_right _ (List.mem_of_getElem? (i := 12) (by decide +kernel)), rfl⟩, ⟨by decide +kernel, by decide +kernel⟩, by decide +kernel⟩, ⟨List.mem_append_right _ (List.mem_of_getElem? (i := 1005) (by decide +kernel)), rfl⟩, ⟨List.mem_append_right _ (List.mem_of_getElem? (i := 1006) (by decide +kernel)), rfl⟩⟩
theorem ckX6_days : mj_ckV mX6_days 3 := ⟨⟨⟨List.mem_append_right _ (List.mem_of_getElem? (i := 642) (by decide +kernel)), rfl⟩, ⟨List.mem_append_right _ (List.mem_of_getElem? (i := 1) (by decide +kernel)), rfl⟩, ⟨by decide +kernel, by decide +kernel⟩, by decide +kernel⟩, ⟨List.mem_append_right _ (List.mem_of_getElem? (i := 640) (by decide +kernel)), rfl⟩, ⟨List.mem_append_right _ (List.mem_of_getElem? (i := 641) (by decide +kernel)), rfl⟩⟩
theorem ckX7_days : mj_ckV mX7_days 3 := ⟨⟨⟨List.mem_append_right _ (List.mem_of_getElem? (i := 1012) (by decide +kernel)), rfl⟩, ⟨List.mem_append_right _ (List.mem_of_getElem? (i := 12) (by decide +kernel)), rfl⟩, ⟨by decide +kernel, by decide +kernel⟩, by decide +kernel⟩, ⟨List.mem_append_right _ (List.mem_of_getElem? (i := 1010) (by decide +kernel)), rfl⟩, ⟨List.mem_append_right _ (List.mem_of_getElem? (i := 1011) (by decide +kernel)), rfl⟩⟩
theorem ckX6_free : mj_ckV mX6_free 1 := ⟨⟨⟨List.mem_append_right _ (List.mem_of_getElem? (i := 646) (by decide +kernel)), rfl⟩, ⟨List.mem_append_right _ (List.mem_of_getElem? (i := 1) (by decide +kernel)), rfl⟩, ⟨by decide +kernel, by decide +kernel⟩, by decide +kernel⟩, ⟨List.mem_append_right _ (List.mem_of_getElem? (i := 644) (by decide +kernel)), rfl⟩, ⟨List.mem_append_right _ (List.mem_of_getElem? (i := 645) (by decide +kernel)), rfl⟩⟩
theorem ckX7_free : mj_ckV mX7_free 1 := ⟨⟨⟨List.mem_append_right _ (List.mem_of_getElem? (i := 1016) (by decide +kernel)), rfl⟩, ⟨List.mem_append_right _ (List.mem_of_getElem? (i := 12) (by decide +kernel)), rfl⟩, ⟨by decide +kernel, by decide +kernel⟩, by decide +kernel⟩, ⟨List.mem_append_right _ (List.mem_of_getElem? (i := 1014) (by decide +kernel)), rfl⟩, ⟨List.mem_append_right _ (List.mem_of_getElem? (i := 1015) (by decide +kernel)), rfl⟩⟩
theorem ckX6_ban : mj_ckV mX6_ban 3 := ⟨⟨⟨List.mem_append_right _ (List.mem_of_getElem? (i := 651) (by decide +kernel)), rfl⟩, ⟨List.mem_append_right _ (List.mem_of_getElem? (i := 1) (by decide +kernel)), rfl⟩, ⟨by decide +kernel, by decide +kernel⟩, by decide +kernel⟩, ⟨List.mem_append_right _ (List.mem_of_getElem? (i := 649) (by decide +kernel)), rfl⟩, ⟨List.mem_append_right _ (List.mem_of_getElem? (i := 650) (by decide +kernel)), rfl⟩⟩
theorem ckX7_ban : mj_ckV mX7_ban 3 := ⟨⟨⟨List.mem_append_right _ (List.mem_of_getElem? (i := 1020) (by decide +kernel)), rfl⟩, ⟨List.mem_append_right _ (List.mem_of_getElem? (i := 12) (by decide +kernel)), rfl⟩, ⟨by decide +kernel, by decide +kernel⟩, by decide +kernel⟩, ⟨List.mem_append_right _ (List.mem_of_getElem? (i := 1018) (by decide +kernel)), rfl⟩, ⟨List.mem_append_right _ (List.mem_of_getElem? (i := 1019) (by decide +kernel)), rfl⟩⟩
theorem ckX6_seen : mj_ckV mX6_seen 3 := ⟨⟨⟨List.mem_append_right _ (List.mem_of_getElem? (i := 667) (by decide +kernel)), rfl⟩, ⟨List.mem_append_right _ (List.mem_of_getElem? (i := 1) (by decide +kernel)), rfl⟩, ⟨by decide +kernel, by decide +kernel⟩, by decide +kernel⟩, ⟨List.mem_append_right _ (List.mem_of_getElem? (i := 665) (by decide +kernel)), rfl⟩, ⟨List.mem_append_right _ (List.mem_of_getElem? (i := 666) (by decide +kernel)), rfl⟩⟩
theorem ckX7_seen : mj_ckV mX7_seen 3 := ⟨⟨⟨List.mem_append_right _ (List.mem_of_getElem? (i := 1029) (by decide +kernel)), rfl⟩, ⟨List.mem_append_right _ (List.mem_of_getElem? (i := 12) (by decide +kernel)), rfl⟩, ⟨by decide +kernel, by decide +kernel⟩, by decide +kernel⟩, ⟨List.mem_append_right _ (List.mem_of_getElem? (i := 1027) (by decide +kernel)), rfl⟩, ⟨List.mem_append_right _ (List.mem_of_getElem? (i := 1028) (by decide +kernel)), rfl⟩⟩
theorem ckX6_count : mj_ckV mX6_count 1 := ⟨⟨⟨List.mem_append_right _ (List.mem_of_getElem? (i := 675) (by decide +kernel)), rfl⟩, ⟨List.mem_append_right _ (List.mem_of_getElem? (i := 1) (by decide +kernel)), rfl⟩, ⟨by decide +kernel, by decide +kernel⟩, by decide +kernel⟩, ⟨List.mem_append_right _ (List.mem_of_getElem? (i := 673) (by decide +kernel)), rfl⟩, ⟨List.mem_append_right _ (List.mem_of_getElem? (i := 674) (by decide +kernel)), rfl⟩⟩
theorem ckX7_count : mj_ckV mX7_count 1 := ⟨⟨⟨List.mem_append_right _ (List.mem_of_getElem? (i := 1038) (by decide +kernel)), rfl⟩, ⟨List.mem_append_right _ (List.mem_of_getElem? (i := 12) (by decide +kernel)), rfl⟩, ⟨by decide +kernel, by decide +kernel⟩, by decide +kernel⟩, ⟨List.mem_append_right _ (List.mem_of_getElem? (i := 1036) (by decide +kernel)), rfl⟩, ⟨List.mem_append_right _ (List.mem_of_getElem? (i := 1037) (by decide +kernel)), rfl⟩⟩
theorem ckX7_empty : mj_ckV mX7_empty 0 := ⟨⟨⟨List.mem_append_right _ (List.mem_of_getElem? (i := 685) (by decide +kernel)), rfl⟩, ⟨List.mem_append_right _ (List.mem_of_getElem? (i := 12) (by decide +kernel)), rfl⟩, ⟨by decide +kernel, by decide +kernel⟩, by decide +kernel⟩, ⟨List.mem_append_right _ (List.mem_of_getElem? (i := 684) (by decide +kernel)), rfl⟩, ⟨List.mem_append_left _ (List.mem_of_getElem? (i := 60) (by decide +kernel)), rfl⟩⟩
theorem ckX7_codeIs : mj_ckV mX7_codeIs 2 := ⟨⟨⟨List.mem_append_right _ (List.mem_of_getElem? (i := 689) (by decide +kernel)), rfl⟩, ⟨List.mem_append_right _ (List.mem_of_getElem? (i := 12) (by decide +kernel)), rfl⟩, ⟨by decide +kernel, by decide +kernel⟩, by decide +kernel⟩, ⟨List.mem_append_right _ (List.mem_of_getElem? (i := 688) (by decide +kernel)), rfl⟩, ⟨List.mem_append_left _ (List.mem_of_getElem? (i := 61) (by decide +kernel)), rfl⟩⟩
theorem ckX7_begin : mj_ckV mX7_begin 0 := ⟨⟨⟨List.mem_append_right _ (List.mem_of_getElem? (i := 693) (by decide +kernel)), rfl⟩, ⟨List.mem_append_right _ (List.mem_of_getElem? (i := 12) (by decide +kernel)), rfl⟩, ⟨by decide +kernel, by decide +kernel⟩, by decide +kernel⟩, ⟨List.mem_append_right _ (List.mem_of_getElem? (i := 692) (by decide +kernel)), rfl⟩, ⟨List.mem_append_left _ (List.mem_of_getElem? (i := 62) (by decide +kernel)), rfl⟩⟩
theorem ckX7_in : mj_ckS mX7_in 3 := ⟨⟨⟨List.mem_append_right _ (List.mem_of_getElem? (i := 781) (by decide +kernel)), rfl⟩, ⟨List.mem_append_right _ (List.mem_of_getElem? (i := 12) (by decide +kernel)), rfl⟩, ⟨by decide +kernel, by decide +kernel⟩, by decide +kernel⟩, ⟨List.mem_append_right _ (List.mem_of_getElem? (i := 780) (by decide +kernel)), rfl⟩⟩
theorem ckX7_letterAt : mj_ckV mX7_letterAt 1 := ⟨⟨⟨List.mem_append_right _ (List.mem_of_getElem? (i := 797) (by decide +kernel)), rfl⟩, ⟨List.mem_append_right _ (List.mem_of_getElem? (i := 12) (by decide +kernel)), rfl⟩, ⟨by decide +kernel, by decide +kernel⟩, by decide +kernel⟩, ⟨List.mem_append_right _ (List.mem_of_getElem? (i := 796) (by decide +kernel)), rfl⟩, ⟨List.mem_append_left _ (List.mem_of_getElem? (i := 64) (by decide +kernel)), rfl⟩⟩
theorem ckX7_number : mj_ckV mX7_number 2 := ⟨⟨⟨List.mem_append_right _ (List.mem_of_getElem? (i := 809) (by decide +kernel)), rfl⟩, ⟨List.mem_append_right _ (List.mem_of_getElem? (i := 12) (by decide +kernel)), rfl⟩, ⟨by decide +kernel, by decide +kernel⟩, by decide +kernel⟩, ⟨List.mem_append_right _ (List.mem_of_getElem? (i := 808) (by decide +kernel)), rfl⟩, ⟨List.mem_append_left _ (List.mem_of_getElem? (i := 67) (by decide +kernel)), rfl⟩⟩
theorem ckX7_ruleItem : mj_ckV mX7_ruleItem 3 := ⟨⟨⟨List.mem_append_right _ (List.mem_of_getElem? (i := 805) (by decide +kernel)), rfl⟩, ⟨List.mem_append_right _ (List.mem_of_getElem? (i := 12) (by decide +kernel)), rfl⟩, ⟨by decide +kernel, by decide +kernel⟩, by decide +kernel⟩, ⟨List.mem_append_right _ (List.mem_of_getElem? (i := 804) (by decide +kernel)), rfl⟩, ⟨List.mem_append_left _ (List.mem_of_getElem? (i := 66) (by decide +kernel)), rfl⟩⟩
theorem ckX7_staysItem : mj_ckV mX7_staysItem 0 := ⟨⟨⟨List.mem_append_right _ (List.mem_of_getElem? (i := 815) (by decide +kernel)), rfl⟩, ⟨List.mem_append_right _ (List.mem_of_getElem? (i := 12) (by decide +kernel)), rfl⟩, ⟨by decide +kernel, by decide +kernel⟩, by decide +kernel⟩, ⟨List.mem_append_right _ (List.mem_of_getElem? (i := 814) (by decide +kernel)), rfl⟩, ⟨List.mem_append_left _ (List.mem_of_getElem? (i := 68) (by decide +kernel)), rfl⟩⟩
theorem ckX7_codeItem : mj_ckV mX7_codeItem 0 := ⟨⟨⟨List.mem_append_right _ (List.mem_of_getElem? (i := 819) (by decide +kernel)), rfl⟩, ⟨List.mem_append_right _ (List.mem_of_getElem? (i := 12) (by decide +kernel)), rfl⟩, ⟨by decide +kernel, by decide +kernel⟩, by decide +kernel⟩, ⟨List.mem_append_right _ (List.mem_of_getElem? (i := 818) (by decide +kernel)), rfl⟩, ⟨List.mem_append_left _ (List.mem_of_getElem? (i := 69) (by decide +kernel)), rfl⟩⟩
theorem ckX7_ends : mj_ckV mX7_ends 0 := ⟨⟨⟨List.mem_append_right _ (List.mem_of_getElem? (i := 823) (by decide +kernel)), rfl⟩, ⟨List.mem_append_right _ (List.mem_of_getElem? (i := 12) (by decide +kernel)), rfl⟩, ⟨by decide +kernel, by decide +kernel⟩, by decide +kernel⟩, ⟨List.mem_append_right _ (List.mem_of_getElem? (i := 822) (by decide +kernel)), rfl⟩, ⟨List.mem_append_left _ (List.mem_of_getElem? (i := 70) (by decide +kernel)), rfl⟩⟩
theorem ckX7_item : mj_ckV mX7_item 1 := ⟨⟨⟨List.mem_append_right _ (List.mem_of_getElem? (i := 801) (by decide +kernel)), rfl⟩, ⟨List.mem_append_right _ (List.mem_of_getElem? (i := 12) (by decide +kernel)), rfl⟩, ⟨by decide +kernel, by decide +kernel⟩, by decide +kernel⟩, ⟨List.mem_append_right _ (List.mem_of_getElem? (i := 800) (by decide +kernel)), rfl⟩, ⟨List.mem_append_left _ (List.mem_of_getElem? (i := 65) (by decide +kernel)), rfl⟩⟩
theorem ckX7_readAll : mj_ckV mX7_readAll 0 := ⟨⟨⟨List.mem_append_right _ (List.mem_of_getElem? (i := 793) (by decide +kernel)), rfl⟩, ⟨List.mem_append_right _ (List.mem_of_getElem? (i := 12) (by decide +kernel)), rfl⟩, ⟨by decide +kernel, by decide +kernel⟩, by decide +kernel⟩, ⟨List.mem_append_right _ (List.mem_of_getElem? (i := 792) (by decide +kernel)), rfl⟩, ⟨List.mem_append_left _ (List.mem_of_getElem? (i := 63) (by decide +kernel)), rfl⟩⟩
theorem ckX7_ruleOf : mj_ckV mX7_ruleOf 1 := ⟨⟨⟨List.mem_append_right _ (List.mem_of_getElem? (i := 842) (by decide +kernel)), rfl⟩, ⟨List.mem_append_right _ (List.mem_of_getElem? (i := 12) (by decide +kernel)), rfl⟩, ⟨by decide +kernel, by decide +kernel⟩, by decide +kernel⟩, ⟨List.mem_append_right _ (List.mem_of_getElem? (i := 841) (by decide +kernel)), rfl⟩, ⟨List.mem_append_left _ (List.mem_of_getElem? (i := 71) (by decide +kernel)), rfl⟩⟩
theorem ckX7_note : mj_ckV mX7_note 0 := ⟨⟨⟨List.mem_append_right _ (List.mem_of_getElem? (i := 846) (by decide +kernel)), rfl⟩, ⟨List.mem_append_right _ (List.mem_of_getElem? (i := 12) (by decide +kernel)), rfl⟩, ⟨by decide +kernel, by decide +kernel⟩, by decide +kernel⟩, ⟨List.mem_append_right _ (List.mem_of_getElem? (i := 845) (by decide +kernel)), rfl⟩, ⟨List.mem_append_left _ (List.mem_of_getElem? (i := 72) (by decide +kernel)), rfl⟩⟩
theorem ckX7_isCode : mj_ckV mX7_isCode 1 := ⟨⟨⟨List.mem_append_right _ (List.mem_of_getElem? (i := 854) (by decide +kernel)), rfl⟩, ⟨List.mem_append_right _ (List.mem_of_getElem? (i := 12) (by decide +kernel)), rfl⟩, ⟨by decide +kernel, by decide +kernel⟩, by decide +kernel⟩, ⟨List.mem_append_right _ (List.mem_of_getElem? (i := 853) (by decide +kernel)), rfl⟩, ⟨List.mem_append_left _ (List.mem_of_getElem? (i := 73) (by decide +kernel)), rfl⟩⟩
theorem ckX7_isDriver : mj_ckS mX7_isDriver 1 := ⟨⟨⟨List.mem_append_right _ (List.mem_of_getElem? (i := 866) (by decide +kernel)), rfl⟩, ⟨List.mem_append_right _ (List.mem_of_getElem? (i := 12) (by decide +kernel)), rfl⟩, ⟨by decide +kernel, by decide +kernel⟩, by decide +kernel⟩, ⟨List.mem_append_right _ (List.mem_of_getElem? (i := 865) (by decide +kernel)), rfl⟩⟩
theorem ckX7_comes : mj_ckV mX7_comes 5 := ⟨⟨⟨List.mem_append_right _ (List.mem_of_getElem? (i := 871) (by decide +kernel)), rfl⟩, ⟨List.mem_append_right _ (List.mem_of_getElem? (i := 12) (by decide +kernel)), rfl⟩, ⟨by decide +kernel, by decide +kernel⟩, by decide +kernel⟩, ⟨List.mem_append_right _ (List.mem_of_getElem? (i := 870) (by decide +kernel)), rfl⟩, ⟨List.mem_append_left _ (List.mem_of_getElem? (i := 74) (by decide +kernel)), rfl⟩⟩
theorem ckX7_of : mj_ckV mX7_of 2 := ⟨⟨⟨List.mem_append_right _ (List.mem_of_getElem? (i := 887) (by decide +kernel)), rfl⟩, ⟨List.mem_append_right _ (List.mem_of_getElem? (i := 12) (by decide +kernel)), rfl⟩, ⟨by decide +kernel, by decide +kernel⟩, by decide +kernel⟩, ⟨List.mem_append_right _ (List.mem_of_getElem? (i := 886) (by decide +kernel)), rfl⟩, ⟨List.mem_append_left _ (List.mem_of_getElem? (i := 77) (by decide +kernel)), rfl⟩⟩
theorem ckX7_know : mj_ckV mX7_know 0 := ⟨⟨⟨List.mem_append_right _ (List.mem_of_getElem? (i := 879) (by decide +kernel)), rfl⟩, ⟨List.mem_append_right _ (List.mem_of_getElem? (i := 12) (by decide +kernel)), rfl⟩, ⟨by decide +kernel, by decide +kernel⟩, by decide +kernel⟩, ⟨List.mem_append_right _ (List.mem_of_getElem? (i := 878) (by decide +kernel)), rfl⟩, ⟨List.mem_append_left _ (List.mem_of_getElem? (i := 75) (by decide +kernel)), rfl⟩⟩
theorem ckX7_wasLight : mj_ckV mX7_wasLight 1 := ⟨⟨⟨List.mem_append_right _ (List.mem_of_getElem? (i := 932) (by decide +kernel)), rfl⟩, ⟨List.mem_append_right _ (List.mem_of_getElem? (i := 12) (by decide +kernel)), rfl⟩, ⟨by decide +kernel, by decide +kernel⟩, by decide +kernel⟩, ⟨List.mem_append_right _ (List.mem_of_getElem? (i := 931) (by decide +kernel)), rfl⟩, ⟨List.mem_append_left _ (List.mem_of_getElem? (i := 88) (by decide +kernel)), rfl⟩⟩
theorem ckX7_toShorten : mj_ckV mX7_toShorten 2 := ⟨⟨⟨List.mem_append_right _ (List.mem_of_getElem? (i := 928) (by decide +kernel)), rfl⟩, ⟨List.mem_append_right _ (List.mem_of_getElem? (i := 12) (by decide +kernel)), rfl⟩, ⟨by decide +kernel, by decide +kernel⟩, by decide +kernel⟩, ⟨List.mem_append_right _ (List.mem_of_getElem? (i := 927) (by decide +kernel)), rfl⟩, ⟨List.mem_append_left _ (List.mem_of_getElem? (i := 87) (by decide +kernel)), rfl⟩⟩
theorem ckX7_isEvent : mj_ckV mX7_isEvent 1 := ⟨⟨⟨List.mem_append_right _ (List.mem_of_getElem? (i := 944) (by decide +kernel)), rfl⟩, ⟨List.mem_append_right _ (List.mem_of_getElem? (i := 12) (by decide +kernel)), rfl⟩, ⟨by decide +kernel, by decide +kernel⟩, by decide +kernel⟩, ⟨List.mem_append_right _ (List.mem_of_getElem? (i := 943) (by decide +kernel)), rfl⟩, ⟨List.mem_append_left _ (List.mem_of_getElem? (i := 90) (by decide +kernel)), rfl⟩⟩
theorem ckX7_daysOf : mj_ckV mX7_daysOf 1 := ⟨⟨⟨List.mem_append_right _ (List.mem_of_getElem? (i := 952) (by decide +kernel)), rfl⟩, ⟨List.mem_append_right _ (List.mem_of_getElem? (i := 12) (by decide +kernel)), rfl⟩, ⟨by decide +kernel, by decide +kernel⟩, by decide +kernel⟩, ⟨List.mem_append_right _ (List.mem_of_getElem? (i := 951) (by decide +kernel)), rfl⟩, ⟨List.mem_append_left _ (List.mem_of_getElem? (i := 92) (by decide +kernel)), rfl⟩⟩
theorem ckX7_isConviction : mj_ckV mX7_isConviction 1 := ⟨⟨⟨List.mem_append_right _ (List.mem_of_getElem? (i := 940) (by decide +kernel)), rfl⟩, ⟨List.mem_append_right _ (List.mem_of_getElem? (i := 12) (by decide +kernel)), rfl⟩, ⟨by decide +kernel, by decide +kernel⟩, by decide +kernel⟩, ⟨List.mem_append_right _ (List.mem_of_getElem? (i := 939) (by decide +kernel)), rfl⟩, ⟨List.mem_append_left _ (List.mem_of_getElem? (i := 89) (by decide +kernel)), rfl⟩⟩
theorem ckX7_retell : mj_ckV mX7_retell 3 := ⟨⟨⟨List.mem_append_right _ (List.mem_of_getElem? (i := 948) (by decide +kernel)), rfl⟩, ⟨List.mem_append_right _ (List.mem_of_getElem? (i := 12) (by decide +kernel)), rfl⟩, ⟨by decide +kernel, by decide +kernel⟩, by decide +kernel⟩, ⟨List.mem_append_right _ (List.mem_of_getElem? (i := 947) (by decide +kernel)), rfl⟩, ⟨List.mem_append_left _ (List.mem_of_getElem? (i := 91) (by decide +kernel)), rfl⟩⟩
theorem ckX7_lastOf : mj_ckV mX7_lastOf 1 := ⟨⟨⟨List.mem_append_right _ (List.mem_of_getElem? (i := 899) (by decide +kernel)), rfl⟩, ⟨List.mem_append_right _ (List.mem_of_getElem? (i := 12) (by decide +kernel)), rfl⟩, ⟨by decide +kernel, by decide +kernel⟩, by decide +kernel⟩, ⟨List.mem_append_right _ (List.mem_of_getElem? (i := 898) (by decide +kernel)), rfl⟩, ⟨List.mem_append_left _ (List.mem_of_getElem? (i := 80) (by decide +kernel)), rfl⟩⟩
theorem ckX7_countOf : mj_ckV mX7_countOf 1 := ⟨⟨⟨List.mem_append_right _ (List.mem_of_getElem? (i := 912) (by decide +kernel)), rfl⟩, ⟨List.mem_append_right _ (List.mem_of_getElem? (i := 12) (by decide +kernel)), rfl⟩, ⟨by decide +kernel, by decide +kernel⟩, by decide +kernel⟩, ⟨List.mem_append_right _ (List.mem_of_getElem? (i := 911) (by decide +kernel)), rfl⟩, ⟨List.mem_append_left _ (List.mem_of_getElem? (i := 83) (by decide +kernel)), rfl⟩⟩
theorem ckX7_isBanned : mj_ckV mX7_isBanned 2 := ⟨⟨⟨List.mem_append_right _ (List.mem_of_getElem? (i := 895) (by decide +kernel)), rfl⟩, ⟨List.mem_append_right _ (List.mem_of_getElem? (i := 12) (by decide +kernel)), rfl⟩, ⟨by decide +kernel, by decide +kernel⟩, by decide +kernel⟩, ⟨List.mem_append_right _ (List.mem_of_getElem? (i := 894) (by decide +kernel)), rfl⟩, ⟨List.mem_append_left _ (List.mem_of_getElem? (i := 79) (by decide +kernel)), rfl⟩⟩
theorem ckX7_gives : mj_ckV mX7_gives 5 := ⟨⟨⟨List.mem_append_right _ (List.mem_of_getElem? (i := 903) (by decide +kernel)), rfl⟩, ⟨List.mem_append_right _ (List.mem_of_getElem? (i := 12) (by decide +kernel)), rfl⟩, ⟨by decide +kernel, by decide +kernel⟩, by decide +kernel⟩, ⟨List.mem_append_right _ (List.mem_of_getElem? (i := 902) (by decide +kernel)), rfl⟩, ⟨List.mem_append_left _ (List.mem_of_getElem? (i := 81) (by decide +kernel)), rfl⟩⟩
theorem ckX7_mostOf : mj_ckV mX7_mostOf 3 := ⟨⟨⟨List.mem_append_right _ (List.mem_of_getElem? (i := 907) (by decide +kernel)), rfl⟩, ⟨List.mem_append_right _ (List.mem_of_getElem? (i := 12) (by decide +kernel)), rfl⟩, ⟨by decide +kernel, by decide +kernel⟩, by decide +kernel⟩, ⟨List.mem_append_right _ (List.mem_of_getElem? (i := 906) (by decide +kernel)), rfl⟩, ⟨List.mem_append_left _ (List.mem_of_getElem? (i := 82) (by decide +kernel)), rfl⟩⟩
theorem ckX7_greatOnes : mj_ckV mX7_greatOnes 2 := ⟨⟨⟨List.mem_append_right _ (List.mem_of_getElem? (i := 916) (by decide +kernel)), rfl⟩, ⟨List.mem_append_right _ (List.mem_of_getElem? (i := 12) (by decide +kernel)), rfl⟩, ⟨by decide +kernel, by decide +kernel⟩, by decide +kernel⟩, ⟨List.mem_append_right _ (List.mem_of_getElem? (i := 915) (by decide +kernel)), rfl⟩, ⟨List.mem_append_left _ (List.mem_of_getElem? (i := 84) (by decide +kernel)), rfl⟩⟩
theorem ckX7_beginOf : mj_ckV mX7_beginOf 2 := ⟨⟨⟨List.mem_append_right _ (List.mem_of_getElem? (i := 920) (by decide +kernel)), rfl⟩, ⟨List.mem_append_right _ (List.mem_of_getElem? (i := 12) (by decide +kernel)), rfl⟩, ⟨by decide +kernel, by decide +kernel⟩, by decide +kernel⟩, ⟨List.mem_append_right _ (List.mem_of_getElem? (i := 919) (by decide +kernel)), rfl⟩, ⟨List.mem_append_left _ (List.mem_of_getElem? (i := 85) (by decide +kernel)), rfl⟩⟩
theorem ckX7_convicts : mj_ckV mX7_convicts 1 := ⟨⟨⟨List.mem_append_right _ (List.mem_of_getElem? (i := 891) (by decide +kernel)), rfl⟩, ⟨List.mem_append_right _ (List.mem_of_getElem? (i := 12) (by decide +kernel)), rfl⟩, ⟨by decide +kernel, by decide +kernel⟩, by decide +kernel⟩, ⟨List.mem_append_right _ (List.mem_of_getElem? (i := 890) (by decide +kernel)), rfl⟩, ⟨List.mem_append_left _ (List.mem_of_getElem? (i := 78) (by decide +kernel)), rfl⟩⟩
theorem ckX7_shortens : mj_ckV mX7_shortens 1 := ⟨⟨⟨List.mem_append_right _ (List.mem_of_getElem? (i := 924) (by decide +kernel)), rfl⟩, ⟨List.mem_append_right _ (List.mem_of_getElem? (i := 12) (by decide +kernel)), rfl⟩, ⟨by decide +kernel, by decide +kernel⟩, by decide +kernel⟩, ⟨List.mem_append_right _ (List.mem_of_getElem? (i := 923) (by decide +kernel)), rfl⟩, ⟨List.mem_append_left _ (List.mem_of_getElem? (i := 86) (by decide +kernel)), rfl⟩⟩
theorem ckX7_reckon : mj_ckV mX7_reckon 0 := ⟨⟨⟨List.mem_append_right _ (List.mem_of_getElem? (i := 883) (by decide +kernel)), rfl⟩, ⟨List.mem_append_right _ (List.mem_of_getElem? (i := 12) (by decide +kernel)), rfl⟩, ⟨by decide +kernel, by decide +kernel⟩, by decide +kernel⟩, ⟨List.mem_append_right _ (List.mem_of_getElem? (i := 882) (by decide +kernel)), rfl⟩, ⟨List.mem_append_left _ (List.mem_of_getElem? (i := 76) (by decide +kernel)), rfl⟩⟩
theorem ckX7_endOf : mj_ckV mX7_endOf 1 := ⟨⟨⟨List.mem_append_right _ (List.mem_of_getElem? (i := 956) (by decide +kernel)), rfl⟩, ⟨List.mem_append_right _ (List.mem_of_getElem? (i := 12) (by decide +kernel)), rfl⟩, ⟨by decide +kernel, by decide +kernel⟩, by decide +kernel⟩, ⟨List.mem_append_right _ (List.mem_of_getElem? (i := 955) (by decide +kernel)), rfl⟩, ⟨List.mem_append_left _ (List.mem_of_getElem? (i := 93) (by decide +kernel)), rfl⟩⟩
theorem ckX7_daysFrom : mj_ckV mX7_daysFrom 3 := ⟨⟨⟨List.mem_append_right _ (List.mem_of_getElem? (i := 960) (by decide +kernel)), rfl⟩, ⟨List.mem_append_right _ (List.mem_of_getElem? (i := 12) (by decide +kernel)), rfl⟩, ⟨by decide +kernel, by decide +kernel⟩, by decide +kernel⟩, ⟨List.mem_append_right _ (List.mem_of_getElem? (i := 959) (by decide +kernel)), rfl⟩, ⟨List.mem_append_left _ (List.mem_of_getElem? (i := 94) (by decide +kernel)), rfl⟩⟩
theorem ckX7_banAt : mj_ckV mX7_banAt 2 := ⟨⟨⟨List.mem_append_right _ (List.mem_of_getElem? (i := 1025) (by decide +kernel)), rfl⟩, ⟨List.mem_append_right _ (List.mem_of_getElem? (i := 12) (by decide +kernel)), rfl⟩, ⟨by decide +kernel, by decide +kernel⟩, by decide +kernel⟩, ⟨List.mem_append_right _ (List.mem_of_getElem? (i := 1024) (by decide +kernel)), rfl⟩, ⟨List.mem_append_left _ (List.mem_of_getElem? (i := 95) (by decide +kernel)), rfl⟩⟩
theorem ckX7_isSeen : mj_ckV mX7_isSeen 2 := ⟨⟨⟨List.mem_append_right _ (List.mem_of_getElem? (i := 1034) (by decide +kernel)), rfl⟩, ⟨List.mem_append_right _ (List.mem_of_getElem? (i := 12) (by decide +kernel)), rfl⟩, ⟨by decide +kernel, by decide +kernel⟩, by decide +kernel⟩, ⟨List.mem_append_right _ (List.mem_of_getElem? (i := 1033) (by decide +kernel)), rfl⟩, ⟨List.mem_append_left _ (List.mem_of_getElem? (i := 96) (by decide +kernel)), rfl⟩⟩
theorem lkX6_68 : mj_lk RX6 68 yX4_add := Or.inr ⟨"PointsOffice", List.mem_append_right _ (List.mem_of_getElem? (i := 268) (by decide +kernel)), rfl⟩
theorem lkX6_72 : mj_lk RX6 72 yX4_readInto := Or.inr ⟨"PointsOffice", List.mem_append_right _ (List.mem_of_getElem? (i := 272) (by decide +kernel)), rfl⟩
theorem lkX6_76 : mj_lk RX6 76 yX4_clear := Or.inr ⟨"PointsOffice", List.mem_append_right _ (List.mem_of_getElem? (i := 325) (by decide +kernel)), rfl⟩
theorem lkX6_91 : mj_lk RX6 91 yX5_copy := Or.inr ⟨"PointsOffice", List.mem_append_right _ (List.mem_of_getElem? (i := 375) (by decide +kernel)), rfl⟩
theorem lkX6_101 : mj_lk RX6 101 yX3_reckonAll := Or.inr ⟨"PointsOffice", List.mem_append_right _ (List.mem_of_getElem? (i := 379) (by decide +kernel)), rfl⟩
theorem lkX6_104 : mj_lk RX6 104 yX5_allows := Or.inr ⟨"PointsOffice", List.mem_append_right _ (List.mem_of_getElem? (i := 468) (by decide +kernel)), rfl⟩
theorem lkX6_108 : mj_lk RX6 108 yX5_get := Or.inr ⟨"PointsOffice", List.mem_append_right _ (List.mem_of_getElem? (i := 469) (by decide +kernel)), rfl⟩
theorem lkX6_112 : mj_lk RX6 112 yX5_put := Or.inr ⟨"PointsOffice", List.mem_append_right _ (List.mem_of_getElem? (i := 470) (by decide +kernel)), rfl⟩
theorem lkX6_116 : mj_lk RX6 116 yX1_note := Or.inr ⟨"PointsOffice", List.mem_append_right _ (List.mem_of_getElem? (i := 471) (by decide +kernel)), rfl⟩
theorem lkX6_120 : mj_lk RX6 120 yX5_hasCode := Or.inr ⟨"PointsOffice", List.mem_append_right _ (List.mem_of_getElem? (i := 483) (by decide +kernel)), rfl⟩
theorem lkX6_123 : mj_lk RX6 123 yX5_pointsOf := Or.inr ⟨"PointsOffice", List.mem_append_right _ (List.mem_of_getElem? (i := 484) (by decide +kernel)), rfl⟩
theorem lkX6_126 : mj_lk RX6 126 yX5_ownBanOf := Or.inr ⟨"PointsOffice", List.mem_append_right _ (List.mem_of_getElem? (i := 488) (by decide +kernel)), rfl⟩
theorem lkX6_129 : mj_lk RX6 129 yX6_canBeOffence := Or.inl ⟨List.mem_append_right _ (List.mem_of_getElem? (i := 497) (by decide +kernel)), rfl⟩
theorem lkX6_133 : mj_lk RX6 133 yX2_addConviction := Or.inr ⟨"PointsOffice", List.mem_append_right _ (List.mem_of_getElem? (i := 504) (by decide +kernel)), rfl⟩
theorem lkX6_137 : mj_lk RX6 137 yX6_noteNewEvent := Or.inl ⟨List.mem_append_right _ (List.mem_of_getElem? (i := 508) (by decide +kernel)), rfl⟩
theorem lkX6_140 : mj_lk RX6 140 yX6_isDriver := Or.inl ⟨List.mem_append_right _ (List.mem_of_getElem? (i := 501) (by decide +kernel)), rfl⟩
theorem lkX6_143 : mj_lk RX6 143 yX2_hasLightAfter := Or.inr ⟨"PointsOffice", List.mem_append_right _ (List.mem_of_getElem? (i := 517) (by decide +kernel)), rfl⟩
theorem lkX6_146 : mj_lk RX6 146 yX0_toShorten := Or.inr ⟨"PointsOffice", List.mem_append_right _ (List.mem_of_getElem? (i := 521) (by decide +kernel)), rfl⟩
theorem lkX6_150 : mj_lk RX6 150 yX2_addCourse := Or.inr ⟨"PointsOffice", List.mem_append_right _ (List.mem_of_getElem? (i := 522) (by decide +kernel)), rfl⟩
theorem lkX6_153 : mj_lk RX6 153 yX2_isConviction := Or.inr ⟨"PointsOffice", List.mem_append_right _ (List.mem_of_getElem? (i := 530) (by decide +kernel)), rfl⟩
theorem lkX6_160 : mj_lk RX6 160 yX6_retell := Or.inl ⟨List.mem_append_right _ (List.mem_of_getElem? (i := 534) (by decide +kernel)), rfl⟩
theorem lkX6_176 : mj_lk RX6 176 yX1_dropLast := Or.inr ⟨"PointsOffice", List.mem_append_right _ (List.mem_of_getElem? (i := 587) (by decide +kernel)), rfl⟩
theorem lkX6_183 : mj_lk RX6 183 yX2_dropLast := Or.inr ⟨"PointsOffice", List.mem_append_right _ (List.mem_of_getElem? (i := 591) (by decide +kernel)), rfl⟩
theorem lkX6_191 : mj_lk RX6 191 yX2_tell := Or.inr ⟨"PointsOffice", List.mem_append_right _ (List.mem_of_getElem? (i := 562) (by decide +kernel)), rfl⟩
theorem lkX6_200 : mj_lk RX6 200 yX6_liveThrough := Or.inl ⟨List.mem_append_right _ (List.mem_of_getElem? (i := 602) (by decide +kernel)), rfl⟩
theorem lkX6_204 : mj_lk RX6 204 yX2_isThere := Or.inr ⟨"PointsOffice", List.mem_append_right _ (List.mem_of_getElem? (i := 612) (by decide +kernel)), rfl⟩
theorem lkX6_207 : mj_lk RX6 207 yX2_tellOf := Or.inr ⟨"PointsOffice", List.mem_append_right _ (List.mem_of_getElem? (i := 613) (by decide +kernel)), rfl⟩
theorem lkX6_210 : mj_lk RX6 210 yX3_heaviest := Or.inr ⟨"PointsOffice", List.mem_append_right _ (List.mem_of_getElem? (i := 625) (by decide +kernel)), rfl⟩
theorem lkX6_213 : mj_wd (.methodLink RX6 213 Lib.Math.max.name) := ⟨List.mem_append_right _ (List.mem_of_getElem? (i := 607) (by decide +kernel)), rfl⟩
theorem lkX6_218 : mj_lk RX6 218 yX0_hold := Or.inr ⟨"PointsOffice", List.mem_append_right _ (List.mem_of_getElem? (i := 630) (by decide +kernel)), rfl⟩
theorem lkX6_221 : mj_lk RX6 221 yX6_daysInAll := Or.inl ⟨List.mem_append_right _ (List.mem_of_getElem? (i := 538) (by decide +kernel)), rfl⟩
theorem lkX6_224 : mj_lk RX6 224 yX3_reckonNext := Or.inr ⟨"PointsOffice", List.mem_append_right _ (List.mem_of_getElem? (i := 512) (by decide +kernel)), rfl⟩
theorem lkX6_228 : mj_lk RX6 228 yX0_daysBetween := Or.inr ⟨"PointsOffice", List.mem_append_right _ (List.mem_of_getElem? (i := 543) (by decide +kernel)), rfl⟩
theorem lkX6_231 : mj_lk RX6 231 yX0_firstFree := Or.inr ⟨"PointsOffice", List.mem_append_right _ (List.mem_of_getElem? (i := 647) (by decide +kernel)), rfl⟩
theorem lkX6_234 : mj_lk RX6 234 yX0_givenTo := Or.inr ⟨"PointsOffice", List.mem_append_right _ (List.mem_of_getElem? (i := 652) (by decide +kernel)), rfl⟩
theorem lkX6_237 : mj_lk RX6 237 yX0_placeOf := Or.inr ⟨"PointsOffice", List.mem_append_right _ (List.mem_of_getElem? (i := 656) (by decide +kernel)), rfl⟩
theorem lkX6_240 : mj_lk RX6 240 yX0_tellOf := Or.inr ⟨"PointsOffice", List.mem_append_right _ (List.mem_of_getElem? (i := 660) (by decide +kernel)), rfl⟩
theorem lkX6_244 : mj_lk RX6 244 yX6_sees := Or.inl ⟨List.mem_append_right _ (List.mem_of_getElem? (i := 668) (by decide +kernel)), rfl⟩
theorem lkX6_249 : mj_wd (.methodLink RX6 249 Lib.Math.min.name) := ⟨List.mem_append_right _ (List.mem_of_getElem? (i := 606) (by decide +kernel)), rfl⟩
theorem lkX0_37 : mj_lk RX0 37 yX0_has := Or.inl ⟨List.mem_append_right _ (List.mem_of_getElem? (i := 404) (by decide +kernel)), rfl⟩
theorem lkX0_41 : mj_lk RX0 41 yX0_dayBehindBansOn := Or.inl ⟨List.mem_append_right _ (List.mem_of_getElem? (i := 551) (by decide +kernel)), rfl⟩
theorem lkX0_45 : mj_wd (.methodLink RX0 45 Lib.Math.max.name) := ⟨List.mem_append_right _ (List.mem_of_getElem? (i := 412) (by decide +kernel)), rfl⟩
theorem lkX0_50 : mj_lk RX0 50 yX0_firstFree := Or.inl ⟨List.mem_append_right _ (List.mem_of_getElem? (i := 547) (by decide +kernel)), rfl⟩
theorem lkX0_53 : mj_wd (.methodLink RX0 53 Lib.Math.min.name) := ⟨List.mem_append_right _ (List.mem_of_getElem? (i := 555) (by decide +kernel)), rfl⟩
theorem lkX0_56 : mj_lk RX0 56 yX0_nextFirstDay := Or.inl ⟨List.mem_append_right _ (List.mem_of_getElem? (i := 558) (by decide +kernel)), rfl⟩
theorem lkX1_25 : mj_lk RX1 25 yX1_forgetOldest := Or.inl ⟨List.mem_append_right _ (List.mem_of_getElem? (i := 475) (by decide +kernel)), rfl⟩
theorem lkX2_52 : mj_lk RX2 52 yX2_isThere := Or.inl ⟨List.mem_append_right _ (List.mem_of_getElem? (i := 395) (by decide +kernel)), rfl⟩
theorem lkX2_56 : mj_lk RX2 56 yX2_swap := Or.inl ⟨List.mem_append_right _ (List.mem_of_getElem? (i := 566) (by decide +kernel)), rfl⟩
theorem lkX2_60 : mj_lk RX2 60 yX2_tellOfConviction := Or.inl ⟨List.mem_append_right _ (List.mem_of_getElem? (i := 617) (by decide +kernel)), rfl⟩
theorem lkX3_35 : mj_lk RX3 35 yX3_reckonNext := Or.inl ⟨List.mem_append_right _ (List.mem_of_getElem? (i := 383) (by decide +kernel)), rfl⟩
theorem lkX3_38 : mj_lk RX3 38 yX2_isThere := Or.inr ⟨"PointsOffice", List.mem_append_right _ (List.mem_of_getElem? (i := 387) (by decide +kernel)), rfl⟩
theorem lkX3_42 : mj_lk RX3 42 yX2_clearMarks := Or.inr ⟨"PointsOffice", List.mem_append_right _ (List.mem_of_getElem? (i := 391) (by decide +kernel)), rfl⟩
theorem lkX3_50 : mj_lk RX3 50 yX3_reckonLong := Or.inl ⟨List.mem_append_right _ (List.mem_of_getElem? (i := 396) (by decide +kernel)), rfl⟩
theorem lkX3_56 : mj_lk RX3 56 yX3_reckonConviction := Or.inl ⟨List.mem_append_right _ (List.mem_of_getElem? (i := 415) (by decide +kernel)), rfl⟩
theorem lkX3_65 : mj_lk RX3 65 yX0_toShorten := Or.inr ⟨"PointsOffice", List.mem_append_right _ (List.mem_of_getElem? (i := 400) (by decide +kernel)), rfl⟩
theorem lkX3_72 : mj_lk RX3 72 yX0_shorten := Or.inr ⟨"PointsOffice", List.mem_append_right _ (List.mem_of_getElem? (i := 408) (by decide +kernel)), rfl⟩
theorem lkX3_79 : mj_lk RX3 79 yX0_hold := Or.inr ⟨"PointsOffice", List.mem_append_right _ (List.mem_of_getElem? (i := 419) (by decide +kernel)), rfl⟩
theorem lkX3_95 : mj_lk RX3 95 yX5_ownBanOf := Or.inr ⟨"PointsOffice", List.mem_append_right _ (List.mem_of_getElem? (i := 423) (by decide +kernel)), rfl⟩
theorem lkX3_101 : mj_lk RX3 101 yX0_add := Or.inr ⟨"PointsOffice", List.mem_append_right _ (List.mem_of_getElem? (i := 431) (by decide +kernel)), rfl⟩
theorem lkX3_108 : mj_lk RX3 108 yX3_heaviest := Or.inl ⟨List.mem_append_right _ (List.mem_of_getElem? (i := 435) (by decide +kernel)), rfl⟩
theorem lkX3_111 : mj_lk RX3 111 yX5_get := Or.inr ⟨"PointsOffice", List.mem_append_right _ (List.mem_of_getElem? (i := 439) (by decide +kernel)), rfl⟩
theorem lkX3_114 : mj_lk RX3 114 yX3_giveGreatBan := Or.inl ⟨List.mem_append_right _ (List.mem_of_getElem? (i := 448) (by decide +kernel)), rfl⟩
theorem lkX3_118 : mj_lk RX3 118 yX0_greatSince := Or.inr ⟨"PointsOffice", List.mem_append_right _ (List.mem_of_getElem? (i := 452) (by decide +kernel)), rfl⟩
theorem lkX3_121 : mj_lk RX3 121 yX0_latestDay := Or.inr ⟨"PointsOffice", List.mem_append_right _ (List.mem_of_getElem? (i := 456) (by decide +kernel)), rfl⟩
theorem lkX3_124 : mj_wd (.methodLink RX3 124 Lib.Math.max.name) := ⟨List.mem_append_right _ (List.mem_of_getElem? (i := 447) (by decide +kernel)), rfl⟩
theorem lkX3_129 : mj_lk RX3 129 yX2_spend := Or.inr ⟨"PointsOffice", List.mem_append_right _ (List.mem_of_getElem? (i := 460) (by decide +kernel)), rfl⟩
theorem lkX3_132 : mj_lk RX3 132 yX2_weigh := Or.inr ⟨"PointsOffice", List.mem_append_right _ (List.mem_of_getElem? (i := 443) (by decide +kernel)), rfl⟩
theorem lkX4_19 : mj_lk RX4 19 yX5_reset := Or.inr ⟨"PointsOffice", List.mem_append_right _ (List.mem_of_getElem? (i := 276) (by decide +kernel)), rfl⟩
theorem lkX4_33 : mj_lk RX4 33 yX4_readItem := Or.inl ⟨List.mem_append_right _ (List.mem_of_getElem? (i := 282) (by decide +kernel)), rfl⟩
theorem lkX4_37 : mj_lk RX4 37 yX4_peek := Or.inl ⟨List.mem_append_right _ (List.mem_of_getElem? (i := 286) (by decide +kernel)), rfl⟩
theorem lkX4_41 : mj_lk RX4 41 yX4_readRule := Or.inl ⟨List.mem_append_right _ (List.mem_of_getElem? (i := 290) (by decide +kernel)), rfl⟩
theorem lkX4_45 : mj_lk RX4 45 yX4_readCode := Or.inl ⟨List.mem_append_right _ (List.mem_of_getElem? (i := 313) (by decide +kernel)), rfl⟩
theorem lkX4_48 : mj_lk RX4 48 yX4_readEnd := Or.inl ⟨List.mem_append_right _ (List.mem_of_getElem? (i := 321) (by decide +kernel)), rfl⟩
theorem lkX4_51 : mj_lk RX4 51 yX4_readNumber := Or.inl ⟨List.mem_append_right _ (List.mem_of_getElem? (i := 294) (by decide +kernel)), rfl⟩
theorem lkX4_55 : mj_lk RX4 55 yX5_allows := Or.inr ⟨"PointsOffice", List.mem_append_right _ (List.mem_of_getElem? (i := 298) (by decide +kernel)), rfl⟩
theorem lkX4_59 : mj_lk RX4 59 yX5_put := Or.inr ⟨"PointsOffice", List.mem_append_right _ (List.mem_of_getElem? (i := 309) (by decide +kernel)), rfl⟩
theorem lkX4_66 : mj_lk RX4 66 yX5_addCode := Or.inr ⟨"PointsOffice", List.mem_append_right _ (List.mem_of_getElem? (i := 317) (by decide +kernel)), rfl⟩
theorem lkX5_28 : mj_lk RX5 28 yX5_isRule := Or.inl ⟨List.mem_append_right _ (List.mem_of_getElem? (i := 302) (by decide +kernel)), rfl⟩
theorem lkX5_38 : mj_lk RX5 38 yX5_hasCode := Or.inl ⟨List.mem_append_right _ (List.mem_of_getElem? (i := 427) (by decide +kernel)), rfl⟩
theorem lkX7_61 : mj_lk RX7 61 yX7_empty := Or.inl ⟨List.mem_append_right _ (List.mem_of_getElem? (i := 682) (by decide +kernel)), rfl⟩
theorem lkX7_64 : mj_lk RX7 64 yX7_codeIs := Or.inl ⟨List.mem_append_right _ (List.mem_of_getElem? (i := 686) (by decide +kernel)), rfl⟩
theorem lkX7_68 : mj_lk RX7 68 yX7_begin := Or.inl ⟨List.mem_append_right _ (List.mem_of_getElem? (i := 690) (by decide +kernel)), rfl⟩
theorem lkX7_79 : mj_lk RX7 79 yX7_in := Or.inl ⟨List.mem_append_right _ (List.mem_of_getElem? (i := 779) (by decide +kernel)), rfl⟩
theorem lkX7_89 : mj_lk RX7 89 yX7_letterAt := Or.inl ⟨List.mem_append_right _ (List.mem_of_getElem? (i := 794) (by decide +kernel)), rfl⟩
theorem lkX7_97 : mj_lk RX7 97 yX7_number := Or.inl ⟨List.mem_append_right _ (List.mem_of_getElem? (i := 806) (by decide +kernel)), rfl⟩
theorem lkX7_101 : mj_lk RX7 101 yX7_ruleItem := Or.inl ⟨List.mem_append_right _ (List.mem_of_getElem? (i := 802) (by decide +kernel)), rfl⟩
theorem lkX7_105 : mj_lk RX7 105 yX7_staysItem := Or.inl ⟨List.mem_append_right _ (List.mem_of_getElem? (i := 812) (by decide +kernel)), rfl⟩
theorem lkX7_109 : mj_lk RX7 109 yX7_codeItem := Or.inl ⟨List.mem_append_right _ (List.mem_of_getElem? (i := 816) (by decide +kernel)), rfl⟩
theorem lkX7_112 : mj_lk RX7 112 yX7_ends := Or.inl ⟨List.mem_append_right _ (List.mem_of_getElem? (i := 820) (by decide +kernel)), rfl⟩
theorem lkX7_118 : mj_lk RX7 118 yX7_item := Or.inl ⟨List.mem_append_right _ (List.mem_of_getElem? (i := 798) (by decide +kernel)), rfl⟩
theorem lkX7_121 : mj_lk RX7 121 yX7_readAll := Or.inl ⟨List.mem_append_right _ (List.mem_of_getElem? (i := 790) (by decide +kernel)), rfl⟩
theorem lkX7_145 : mj_lk RX7 145 yX7_ruleOf := Or.inl ⟨List.mem_append_right _ (List.mem_of_getElem? (i := 839) (by decide +kernel)), rfl⟩
theorem lkX7_148 : mj_lk RX7 148 yX7_note := Or.inl ⟨List.mem_append_right _ (List.mem_of_getElem? (i := 843) (by decide +kernel)), rfl⟩
theorem lkX7_151 : mj_lk RX7 151 yX7_isCode := Or.inl ⟨List.mem_append_right _ (List.mem_of_getElem? (i := 851) (by decide +kernel)), rfl⟩
theorem lkX7_157 : mj_lk RX7 157 yX7_isDriver := Or.inl ⟨List.mem_append_right _ (List.mem_of_getElem? (i := 864) (by decide +kernel)), rfl⟩
theorem lkX7_160 : mj_lk RX7 160 yX7_comes := Or.inl ⟨List.mem_append_right _ (List.mem_of_getElem? (i := 868) (by decide +kernel)), rfl⟩
theorem lkX7_164 : mj_lk RX7 164 yX7_of := Or.inl ⟨List.mem_append_right _ (List.mem_of_getElem? (i := 884) (by decide +kernel)), rfl⟩
theorem lkX7_167 : mj_lk RX7 167 yX7_know := Or.inl ⟨List.mem_append_right _ (List.mem_of_getElem? (i := 876) (by decide +kernel)), rfl⟩
theorem lkX7_170 : mj_lk RX7 170 yX7_wasLight := Or.inl ⟨List.mem_append_right _ (List.mem_of_getElem? (i := 929) (by decide +kernel)), rfl⟩
theorem lkX7_173 : mj_lk RX7 173 yX7_toShorten := Or.inl ⟨List.mem_append_right _ (List.mem_of_getElem? (i := 925) (by decide +kernel)), rfl⟩
theorem lkX7_176 : mj_lk RX7 176 yX7_isEvent := Or.inl ⟨List.mem_append_right _ (List.mem_of_getElem? (i := 941) (by decide +kernel)), rfl⟩
theorem lkX7_179 : mj_lk RX7 179 yX7_daysOf := Or.inl ⟨List.mem_append_right _ (List.mem_of_getElem? (i := 949) (by decide +kernel)), rfl⟩
theorem lkX7_183 : mj_lk RX7 183 yX7_isConviction := Or.inl ⟨List.mem_append_right _ (List.mem_of_getElem? (i := 937) (by decide +kernel)), rfl⟩
theorem lkX7_186 : mj_lk RX7 186 yX7_retell := Or.inl ⟨List.mem_append_right _ (List.mem_of_getElem? (i := 945) (by decide +kernel)), rfl⟩
theorem lkX7_202 : mj_lk RX7 202 yX7_lastOf := Or.inl ⟨List.mem_append_right _ (List.mem_of_getElem? (i := 896) (by decide +kernel)), rfl⟩
theorem lkX7_206 : mj_lk RX7 206 yX7_countOf := Or.inl ⟨List.mem_append_right _ (List.mem_of_getElem? (i := 909) (by decide +kernel)), rfl⟩
theorem lkX7_209 : mj_lk RX7 209 yX7_isBanned := Or.inl ⟨List.mem_append_right _ (List.mem_of_getElem? (i := 892) (by decide +kernel)), rfl⟩
theorem lkX7_213 : mj_lk RX7 213 yX7_gives := Or.inl ⟨List.mem_append_right _ (List.mem_of_getElem? (i := 900) (by decide +kernel)), rfl⟩
theorem lkX7_216 : mj_lk RX7 216 yX7_mostOf := Or.inl ⟨List.mem_append_right _ (List.mem_of_getElem? (i := 904) (by decide +kernel)), rfl⟩
theorem lkX7_219 : mj_lk RX7 219 yX7_greatOnes := Or.inl ⟨List.mem_append_right _ (List.mem_of_getElem? (i := 913) (by decide +kernel)), rfl⟩
theorem lkX7_222 : mj_lk RX7 222 yX7_beginOf := Or.inl ⟨List.mem_append_right _ (List.mem_of_getElem? (i := 917) (by decide +kernel)), rfl⟩
theorem lkX7_225 : mj_lk RX7 225 yX7_convicts := Or.inl ⟨List.mem_append_right _ (List.mem_of_getElem? (i := 888) (by decide +kernel)), rfl⟩
theorem lkX7_229 : mj_lk RX7 229 yX7_shortens := Or.inl ⟨List.mem_append_right _ (List.mem_of_getElem? (i := 921) (by decide +kernel)), rfl⟩
theorem lkX7_232 : mj_lk RX7 232 yX7_reckon := Or.inl ⟨List.mem_append_right _ (List.mem_of_getElem? (i := 880) (by decide +kernel)), rfl⟩
theorem lkX7_235 : mj_lk RX7 235 yX7_endOf := Or.inl ⟨List.mem_append_right _ (List.mem_of_getElem? (i := 953) (by decide +kernel)), rfl⟩
theorem lkX7_238 : mj_lk RX7 238 yX7_daysFrom := Or.inl ⟨List.mem_append_right _ (List.mem_of_getElem? (i := 957) (by decide +kernel)), rfl⟩
theorem lkX7_247 : mj_lk RX7 247 yX7_banAt := Or.inl ⟨List.mem_append_right _ (List.mem_of_getElem? (i := 1022) (by decide +kernel)), rfl⟩
theorem lkX7_252 : mj_lk RX7 252 yX7_isSeen := Or.inl ⟨List.mem_append_right _ (List.mem_of_getElem? (i := 1031) (by decide +kernel)), rfl⟩
theorem ckm_max : mj_wd (.static Lib.Math.max.name) ∧ mj_wd (.code Lib.Math.max.name Lib.Math.max.code 2 (some .int)) := ⟨⟨List.mem_append_right _ (List.mem_of_getElem? (i := 413) (by decide +kernel)), rfl⟩, ⟨List.mem_append_right _ (List.mem_of_getElem? (i := 414) (by decide +kernel)), rfl⟩⟩
theorem ckm_min : mj_wd (.static Lib.Math.min.name) ∧ mj_wd (.code Lib.Math.min.name Lib.Math.min.code 2 (some .int)) := ⟨⟨List.mem_append_right _ (List.mem_of_getElem? (i := 556) (by decide +kernel)), rfl⟩, ⟨List.mem_append_right _ (List.mem_of_getElem? (i := 557) (by decide +kernel)), rfl⟩⟩
theorem ckm : mj_wd (.initialized "java/lang/Math") := ⟨List.mem_append_right _ (List.mem_of_getElem? (i := 13) (by decide +kernel)), rfl⟩
theorem fkX6_10 : mj_fk RX6 10 6 0 RX6 TX6 8 := ⟨rfl, by decide, inX6, rfl, Or.inl ⟨List.mem_append_right _ (List.mem_of_getElem? (i := 329) (by decide +kernel)), rfl⟩⟩
theorem fkX6_19 : mj_fk RX6 19 6 1 RX6 TX6 8 := ⟨rfl, by decide, inX6, rfl, Or.inl ⟨List.mem_append_right _ (List.mem_of_getElem? (i := 330) (by decide +kernel)), rfl⟩⟩
theorem fkX6_23 : mj_fk RX6 23 6 2 RX6 TX6 8 := ⟨rfl, by decide, inX6, rfl, Or.inl ⟨List.mem_append_right _ (List.mem_of_getElem? (i := 331) (by decide +kernel)), rfl⟩⟩
theorem fkX6_29 : mj_fk RX6 29 6 3 RX6 TX6 8 := ⟨rfl, by decide, inX6, rfl, Or.inl ⟨List.mem_append_right _ (List.mem_of_getElem? (i := 332) (by decide +kernel)), rfl⟩⟩
theorem fkX6_36 : mj_fk RX6 36 6 4 RX6 TX6 8 := ⟨rfl, by decide, inX6, rfl, Or.inl ⟨List.mem_append_right _ (List.mem_of_getElem? (i := 333) (by decide +kernel)), rfl⟩⟩
theorem fkX6_45 : mj_fk RX6 45 6 5 RX6 TX6 8 := ⟨rfl, by decide, inX6, rfl, Or.inl ⟨List.mem_append_right _ (List.mem_of_getElem? (i := 334) (by decide +kernel)), rfl⟩⟩
theorem fkX6_52 : mj_fk RX6 52 6 6 RX6 TX6 8 := ⟨rfl, by decide, inX6, rfl, Or.inl ⟨List.mem_append_right _ (List.mem_of_getElem? (i := 335) (by decide +kernel)), rfl⟩⟩
theorem fkX6_79 : mj_fk RX6 79 4 1 RX4 TX4 5 := ⟨rfl, by decide, inX4, rfl, Or.inr ⟨"PointsOffice", List.mem_append_right _ (List.mem_of_getElem? (i := 30) (by decide +kernel)), rfl⟩⟩
theorem fkX6_82 : mj_fk RX6 82 4 4 RX4 TX4 5 := ⟨rfl, by decide, inX4, rfl, Or.inr ⟨"PointsOffice", List.mem_append_right _ (List.mem_of_getElem? (i := 35) (by decide +kernel)), rfl⟩⟩
theorem fkX6_85 : mj_fk RX6 85 4 3 RX4 TX4 5 := ⟨rfl, by decide, inX4, rfl, Or.inr ⟨"PointsOffice", List.mem_append_right _ (List.mem_of_getElem? (i := 32) (by decide +kernel)), rfl⟩⟩
theorem fkX6_88 : mj_fk RX6 88 5 3 RX5 TX5 4 := ⟨rfl, by decide, inX5, rfl, Or.inr ⟨"PointsOffice", List.mem_append_right _ (List.mem_of_getElem? (i := 58) (by decide +kernel)), rfl⟩⟩
theorem fkX6_94 : mj_fk RX6 94 2 12 RX2 TX2 13 := ⟨rfl, by decide, inX2, rfl, Or.inr ⟨"PointsOffice", List.mem_append_right _ (List.mem_of_getElem? (i := 107) (by decide +kernel)), rfl⟩⟩
theorem fkX6_97 : mj_fk RX6 97 1 3 RX1 TX1 7 := ⟨rfl, by decide, inX1, rfl, Or.inr ⟨"PointsOffice", List.mem_append_right _ (List.mem_of_getElem? (i := 197) (by decide +kernel)), rfl⟩⟩
theorem fkX6_98 : mj_fk RX6 98 6 7 RX6 TX6 8 := ⟨rfl, by decide, inX6, rfl, Or.inl ⟨List.mem_append_right _ (List.mem_of_getElem? (i := 336) (by decide +kernel)), rfl⟩⟩
theorem fkX6_156 : mj_fk RX6 156 2 7 RX2 TX2 13 := ⟨rfl, by decide, inX2, rfl, Or.inr ⟨"PointsOffice", List.mem_append_right _ (List.mem_of_getElem? (i := 96) (by decide +kernel)), rfl⟩⟩
theorem fkX6_164 : mj_fk RX6 164 2 5 RX2 TX2 13 := ⟨rfl, by decide, inX2, rfl, Or.inr ⟨"PointsOffice", List.mem_append_right _ (List.mem_of_getElem? (i := 90) (by decide +kernel)), rfl⟩⟩
theorem fkX6_167 : mj_fk RX6 167 2 1 RX2 TX2 13 := ⟨rfl, by decide, inX2, rfl, Or.inr ⟨"PointsOffice", List.mem_append_right _ (List.mem_of_getElem? (i := 80) (by decide +kernel)), rfl⟩⟩
theorem fkX6_170 : mj_fk RX6 170 2 3 RX2 TX2 13 := ⟨rfl, by decide, inX2, rfl, Or.inr ⟨"PointsOffice", List.mem_append_right _ (List.mem_of_getElem? (i := 85) (by decide +kernel)), rfl⟩⟩
theorem fkX6_173 : mj_fk RX6 173 2 6 RX2 TX2 13 := ⟨rfl, by decide, inX2, rfl, Or.inr ⟨"PointsOffice", List.mem_append_right _ (List.mem_of_getElem? (i := 93) (by decide +kernel)), rfl⟩⟩
theorem fkX6_180 : mj_fk RX6 180 1 4 RX1 TX1 7 := ⟨rfl, by decide, inX1, rfl, Or.inr ⟨"PointsOffice", List.mem_append_right _ (List.mem_of_getElem? (i := 199) (by decide +kernel)), rfl⟩⟩
theorem fkX6_185 : mj_fk RX6 185 1 5 RX1 TX1 7 := ⟨rfl, by decide, inX1, rfl, Or.inr ⟨"PointsOffice", List.mem_append_right _ (List.mem_of_getElem? (i := 201) (by decide +kernel)), rfl⟩⟩
theorem fkX6_188 : mj_fk RX6 188 1 6 RX1 TX1 7 := ⟨rfl, by decide, inX1, rfl, Or.inr ⟨"PointsOffice", List.mem_append_right _ (List.mem_of_getElem? (i := 203) (by decide +kernel)), rfl⟩⟩
theorem fkX6_241 : mj_fk RX6 241 2 0 RX2 TX2 13 := ⟨rfl, by decide, inX2, rfl, Or.inr ⟨"PointsOffice", List.mem_append_right _ (List.mem_of_getElem? (i := 77) (by decide +kernel)), rfl⟩⟩
theorem fkX6_247 : mj_fk RX6 247 0 7 RX0 TX0 8 := ⟨rfl, by decide, inX0, rfl, Or.inr ⟨"PointsOffice", List.mem_append_right _ (List.mem_of_getElem? (i := 150) (by decide +kernel)), rfl⟩⟩
theorem fkX6_252 : mj_fk RX6 252 2 9 RX2 TX2 13 := ⟨rfl, by decide, inX2, rfl, Or.inr ⟨"PointsOffice", List.mem_append_right _ (List.mem_of_getElem? (i := 100) (by decide +kernel)), rfl⟩⟩
theorem fkX0_11 : mj_fk RX0 11 0 0 RX0 TX0 8 := ⟨rfl, by decide, inX0, rfl, Or.inl ⟨List.mem_append_right _ (List.mem_of_getElem? (i := 141) (by decide +kernel)), rfl⟩⟩
theorem fkX0_15 : mj_fk RX0 15 0 1 RX0 TX0 8 := ⟨rfl, by decide, inX0, rfl, Or.inl ⟨List.mem_append_right _ (List.mem_of_getElem? (i := 142) (by decide +kernel)), rfl⟩⟩
theorem fkX0_18 : mj_fk RX0 18 0 2 RX0 TX0 8 := ⟨rfl, by decide, inX0, rfl, Or.inl ⟨List.mem_append_right _ (List.mem_of_getElem? (i := 143) (by decide +kernel)), rfl⟩⟩
theorem fkX0_21 : mj_fk RX0 21 0 3 RX0 TX0 8 := ⟨rfl, by decide, inX0, rfl, Or.inl ⟨List.mem_append_right _ (List.mem_of_getElem? (i := 144) (by decide +kernel)), rfl⟩⟩
theorem fkX0_24 : mj_fk RX0 24 0 4 RX0 TX0 8 := ⟨rfl, by decide, inX0, rfl, Or.inl ⟨List.mem_append_right _ (List.mem_of_getElem? (i := 145) (by decide +kernel)), rfl⟩⟩
theorem fkX0_27 : mj_fk RX0 27 0 5 RX0 TX0 8 := ⟨rfl, by decide, inX0, rfl, Or.inl ⟨List.mem_append_right _ (List.mem_of_getElem? (i := 146) (by decide +kernel)), rfl⟩⟩
theorem fkX0_30 : mj_fk RX0 30 0 6 RX0 TX0 8 := ⟨rfl, by decide, inX0, rfl, Or.inl ⟨List.mem_append_right _ (List.mem_of_getElem? (i := 147) (by decide +kernel)), rfl⟩⟩
theorem fkX0_33 : mj_fk RX0 33 0 7 RX0 TX0 8 := ⟨rfl, by decide, inX0, rfl, Or.inl ⟨List.mem_append_right _ (List.mem_of_getElem? (i := 148) (by decide +kernel)), rfl⟩⟩
theorem fkX1_9 : mj_fk RX1 9 1 0 RX1 TX1 7 := ⟨rfl, by decide, inX1, rfl, Or.inl ⟨List.mem_append_right _ (List.mem_of_getElem? (i := 193) (by decide +kernel)), rfl⟩⟩
theorem fkX1_15 : mj_fk RX1 15 1 1 RX1 TX1 7 := ⟨rfl, by decide, inX1, rfl, Or.inl ⟨List.mem_append_right _ (List.mem_of_getElem? (i := 194) (by decide +kernel)), rfl⟩⟩
theorem fkX1_18 : mj_fk RX1 18 1 2 RX1 TX1 7 := ⟨rfl, by decide, inX1, rfl, Or.inl ⟨List.mem_append_right _ (List.mem_of_getElem? (i := 195) (by decide +kernel)), rfl⟩⟩
theorem fkX1_21 : mj_fk RX1 21 1 3 RX1 TX1 7 := ⟨rfl, by decide, inX1, rfl, Or.inl ⟨List.mem_append_right _ (List.mem_of_getElem? (i := 196) (by decide +kernel)), rfl⟩⟩
theorem fkX1_28 : mj_fk RX1 28 1 4 RX1 TX1 7 := ⟨rfl, by decide, inX1, rfl, Or.inl ⟨List.mem_append_right _ (List.mem_of_getElem? (i := 198) (by decide +kernel)), rfl⟩⟩
theorem fkX1_31 : mj_fk RX1 31 1 5 RX1 TX1 7 := ⟨rfl, by decide, inX1, rfl, Or.inl ⟨List.mem_append_right _ (List.mem_of_getElem? (i := 200) (by decide +kernel)), rfl⟩⟩
theorem fkX1_34 : mj_fk RX1 34 1 6 RX1 TX1 7 := ⟨rfl, by decide, inX1, rfl, Or.inl ⟨List.mem_append_right _ (List.mem_of_getElem? (i := 202) (by decide +kernel)), rfl⟩⟩
theorem fkX2_11 : mj_fk RX2 11 2 0 RX2 TX2 13 := ⟨rfl, by decide, inX2, rfl, Or.inl ⟨List.mem_append_right _ (List.mem_of_getElem? (i := 75) (by decide +kernel)), rfl⟩⟩
theorem fkX2_15 : mj_fk RX2 15 2 1 RX2 TX2 13 := ⟨rfl, by decide, inX2, rfl, Or.inl ⟨List.mem_append_right _ (List.mem_of_getElem? (i := 78) (by decide +kernel)), rfl⟩⟩
theorem fkX2_18 : mj_fk RX2 18 2 2 RX2 TX2 13 := ⟨rfl, by decide, inX2, rfl, Or.inl ⟨List.mem_append_right _ (List.mem_of_getElem? (i := 81) (by decide +kernel)), rfl⟩⟩
theorem fkX2_21 : mj_fk RX2 21 2 3 RX2 TX2 13 := ⟨rfl, by decide, inX2, rfl, Or.inl ⟨List.mem_append_right _ (List.mem_of_getElem? (i := 83) (by decide +kernel)), rfl⟩⟩
theorem fkX2_24 : mj_fk RX2 24 2 4 RX2 TX2 13 := ⟨rfl, by decide, inX2, rfl, Or.inl ⟨List.mem_append_right _ (List.mem_of_getElem? (i := 86) (by decide +kernel)), rfl⟩⟩
theorem fkX2_27 : mj_fk RX2 27 2 5 RX2 TX2 13 := ⟨rfl, by decide, inX2, rfl, Or.inl ⟨List.mem_append_right _ (List.mem_of_getElem? (i := 88) (by decide +kernel)), rfl⟩⟩
theorem fkX2_30 : mj_fk RX2 30 2 6 RX2 TX2 13 := ⟨rfl, by decide, inX2, rfl, Or.inl ⟨List.mem_append_right _ (List.mem_of_getElem? (i := 91) (by decide +kernel)), rfl⟩⟩
theorem fkX2_33 : mj_fk RX2 33 2 7 RX2 TX2 13 := ⟨rfl, by decide, inX2, rfl, Or.inl ⟨List.mem_append_right _ (List.mem_of_getElem? (i := 94) (by decide +kernel)), rfl⟩⟩
theorem fkX2_36 : mj_fk RX2 36 2 8 RX2 TX2 13 := ⟨rfl, by decide, inX2, rfl, Or.inl ⟨List.mem_append_right _ (List.mem_of_getElem? (i := 97) (by decide +kernel)), rfl⟩⟩
theorem fkX2_39 : mj_fk RX2 39 2 9 RX2 TX2 13 := ⟨rfl, by decide, inX2, rfl, Or.inl ⟨List.mem_append_right _ (List.mem_of_getElem? (i := 99) (by decide +kernel)), rfl⟩⟩
theorem fkX2_42 : mj_fk RX2 42 2 10 RX2 TX2 13 := ⟨rfl, by decide, inX2, rfl, Or.inl ⟨List.mem_append_right _ (List.mem_of_getElem? (i := 101) (by decide +kernel)), rfl⟩⟩
theorem fkX2_45 : mj_fk RX2 45 2 11 RX2 TX2 13 := ⟨rfl, by decide, inX2, rfl, Or.inl ⟨List.mem_append_right _ (List.mem_of_getElem? (i := 103) (by decide +kernel)), rfl⟩⟩
theorem fkX2_48 : mj_fk RX2 48 2 12 RX2 TX2 13 := ⟨rfl, by decide, inX2, rfl, Or.inl ⟨List.mem_append_right _ (List.mem_of_getElem? (i := 105) (by decide +kernel)), rfl⟩⟩
theorem fkX3_9 : mj_fk RX3 9 3 0 RX3 TX3 4 := ⟨rfl, by decide, inX3, rfl, Or.inl ⟨List.mem_append_right _ (List.mem_of_getElem? (i := 174) (by decide +kernel)), rfl⟩⟩
theorem fkX3_15 : mj_fk RX3 15 3 1 RX3 TX3 4 := ⟨rfl, by decide, inX3, rfl, Or.inl ⟨List.mem_append_right _ (List.mem_of_getElem? (i := 175) (by decide +kernel)), rfl⟩⟩
theorem fkX3_19 : mj_fk RX3 19 3 2 RX3 TX3 4 := ⟨rfl, by decide, inX3, rfl, Or.inl ⟨List.mem_append_right _ (List.mem_of_getElem? (i := 176) (by decide +kernel)), rfl⟩⟩
theorem fkX3_23 : mj_fk RX3 23 0 7 RX0 TX0 8 := ⟨rfl, by decide, inX0, rfl, Or.inr ⟨"PointsOffice", List.mem_append_right _ (List.mem_of_getElem? (i := 149) (by decide +kernel)), rfl⟩⟩
theorem fkX3_29 : mj_fk RX3 29 3 3 RX3 TX3 4 := ⟨rfl, by decide, inX3, rfl, Or.inl ⟨List.mem_append_right _ (List.mem_of_getElem? (i := 177) (by decide +kernel)), rfl⟩⟩
theorem fkX3_32 : mj_fk RX3 32 2 12 RX2 TX2 13 := ⟨rfl, by decide, inX2, rfl, Or.inr ⟨"PointsOffice", List.mem_append_right _ (List.mem_of_getElem? (i := 106) (by decide +kernel)), rfl⟩⟩
theorem fkX3_46 : mj_fk RX3 46 2 2 RX2 TX2 13 := ⟨rfl, by decide, inX2, rfl, Or.inr ⟨"PointsOffice", List.mem_append_right _ (List.mem_of_getElem? (i := 82) (by decide +kernel)), rfl⟩⟩
theorem fkX3_53 : mj_fk RX3 53 2 7 RX2 TX2 13 := ⟨rfl, by decide, inX2, rfl, Or.inr ⟨"PointsOffice", List.mem_append_right _ (List.mem_of_getElem? (i := 95) (by decide +kernel)), rfl⟩⟩
theorem fkX3_59 : mj_fk RX3 59 2 1 RX2 TX2 13 := ⟨rfl, by decide, inX2, rfl, Or.inr ⟨"PointsOffice", List.mem_append_right _ (List.mem_of_getElem? (i := 79) (by decide +kernel)), rfl⟩⟩
theorem fkX3_62 : mj_fk RX3 62 2 0 RX2 TX2 13 := ⟨rfl, by decide, inX2, rfl, Or.inr ⟨"PointsOffice", List.mem_append_right _ (List.mem_of_getElem? (i := 76) (by decide +kernel)), rfl⟩⟩
theorem fkX3_69 : mj_fk RX3 69 2 10 RX2 TX2 13 := ⟨rfl, by decide, inX2, rfl, Or.inr ⟨"PointsOffice", List.mem_append_right _ (List.mem_of_getElem? (i := 102) (by decide +kernel)), rfl⟩⟩
theorem fkX3_76 : mj_fk RX3 76 2 3 RX2 TX2 13 := ⟨rfl, by decide, inX2, rfl, Or.inr ⟨"PointsOffice", List.mem_append_right _ (List.mem_of_getElem? (i := 84) (by decide +kernel)), rfl⟩⟩
theorem fkX3_83 : mj_fk RX3 83 2 8 RX2 TX2 13 := ⟨rfl, by decide, inX2, rfl, Or.inr ⟨"PointsOffice", List.mem_append_right _ (List.mem_of_getElem? (i := 98) (by decide +kernel)), rfl⟩⟩
theorem fkX3_86 : mj_fk RX3 86 2 11 RX2 TX2 13 := ⟨rfl, by decide, inX2, rfl, Or.inr ⟨"PointsOffice", List.mem_append_right _ (List.mem_of_getElem? (i := 104) (by decide +kernel)), rfl⟩⟩
theorem fkX3_89 : mj_fk RX3 89 2 5 RX2 TX2 13 := ⟨rfl, by decide, inX2, rfl, Or.inr ⟨"PointsOffice", List.mem_append_right _ (List.mem_of_getElem? (i := 89) (by decide +kernel)), rfl⟩⟩
theorem fkX3_92 : mj_fk RX3 92 2 4 RX2 TX2 13 := ⟨rfl, by decide, inX2, rfl, Or.inr ⟨"PointsOffice", List.mem_append_right _ (List.mem_of_getElem? (i := 87) (by decide +kernel)), rfl⟩⟩
theorem fkX3_105 : mj_fk RX3 105 2 6 RX2 TX2 13 := ⟨rfl, by decide, inX2, rfl, Or.inr ⟨"PointsOffice", List.mem_append_right _ (List.mem_of_getElem? (i := 92) (by decide +kernel)), rfl⟩⟩
theorem fkX4_9 : mj_fk RX4 9 4 0 RX4 TX4 5 := ⟨rfl, by decide, inX4, rfl, Or.inl ⟨List.mem_append_right _ (List.mem_of_getElem? (i := 28) (by decide +kernel)), rfl⟩⟩
theorem fkX4_15 : mj_fk RX4 15 4 1 RX4 TX4 5 := ⟨rfl, by decide, inX4, rfl, Or.inl ⟨List.mem_append_right _ (List.mem_of_getElem? (i := 29) (by decide +kernel)), rfl⟩⟩
theorem fkX4_24 : mj_fk RX4 24 4 2 RX4 TX4 5 := ⟨rfl, by decide, inX4, rfl, Or.inl ⟨List.mem_append_right _ (List.mem_of_getElem? (i := 31) (by decide +kernel)), rfl⟩⟩
theorem fkX4_27 : mj_fk RX4 27 4 4 RX4 TX4 5 := ⟨rfl, by decide, inX4, rfl, Or.inl ⟨List.mem_append_right _ (List.mem_of_getElem? (i := 34) (by decide +kernel)), rfl⟩⟩
theorem fkX4_30 : mj_fk RX4 30 4 3 RX4 TX4 5 := ⟨rfl, by decide, inX4, rfl, Or.inl ⟨List.mem_append_right _ (List.mem_of_getElem? (i := 33) (by decide +kernel)), rfl⟩⟩
theorem fkX4_63 : mj_fk RX4 63 5 3 RX5 TX5 4 := ⟨rfl, by decide, inX5, rfl, Or.inr ⟨"PointsOffice", List.mem_append_right _ (List.mem_of_getElem? (i := 59) (by decide +kernel)), rfl⟩⟩
theorem fkX5_9 : mj_fk RX5 9 5 0 RX5 TX5 4 := ⟨rfl, by decide, inX5, rfl, Or.inl ⟨List.mem_append_right _ (List.mem_of_getElem? (i := 54) (by decide +kernel)), rfl⟩⟩
theorem fkX5_15 : mj_fk RX5 15 5 1 RX5 TX5 4 := ⟨rfl, by decide, inX5, rfl, Or.inl ⟨List.mem_append_right _ (List.mem_of_getElem? (i := 55) (by decide +kernel)), rfl⟩⟩
theorem fkX5_18 : mj_fk RX5 18 5 2 RX5 TX5 4 := ⟨rfl, by decide, inX5, rfl, Or.inl ⟨List.mem_append_right _ (List.mem_of_getElem? (i := 56) (by decide +kernel)), rfl⟩⟩
theorem skX5_21 : mj_wd (.fieldLink RX5 21 RX5 "UNTOLD" "[I") := ⟨List.mem_append_right _ (List.mem_of_getElem? (i := 280) (by decide +kernel)), rfl⟩
theorem fkX5_24 : mj_fk RX5 24 5 3 RX5 TX5 4 := ⟨rfl, by decide, inX5, rfl, Or.inl ⟨List.mem_append_right _ (List.mem_of_getElem? (i := 57) (by decide +kernel)), rfl⟩⟩
theorem skX5_32 : mj_wd (.fieldLink RX5 32 RX5 "LEAST" "[I") := ⟨List.mem_append_right _ (List.mem_of_getElem? (i := 305) (by decide +kernel)), rfl⟩
theorem skX5_35 : mj_wd (.fieldLink RX5 35 RX5 "MOST" "[I") := ⟨List.mem_append_right _ (List.mem_of_getElem? (i := 307) (by decide +kernel)), rfl⟩
theorem fkX7_7 : mj_fk RX7 7 7 1 RX7 TX7 26 := ⟨rfl, by decide, inX7, rfl, Or.inl ⟨List.mem_append_right _ (List.mem_of_getElem? (i := 695) (by decide +kernel)), rfl⟩⟩
theorem fkX7_13 : mj_fk RX7 13 7 2 RX7 TX7 26 := ⟨rfl, by decide, inX7, rfl, Or.inl ⟨List.mem_append_right _ (List.mem_of_getElem? (i := 696) (by decide +kernel)), rfl⟩⟩
theorem fkX7_16 : mj_fk RX7 16 7 3 RX7 TX7 26 := ⟨rfl, by decide, inX7, rfl, Or.inl ⟨List.mem_append_right _ (List.mem_of_getElem? (i := 697) (by decide +kernel)), rfl⟩⟩
theorem fkX7_19 : mj_fk RX7 19 7 7 RX7 TX7 26 := ⟨rfl, by decide, inX7, rfl, Or.inl ⟨List.mem_append_right _ (List.mem_of_getElem? (i := 701) (by decide +kernel)), rfl⟩⟩
theorem fkX7_22 : mj_fk RX7 22 7 8 RX7 TX7 26 := ⟨rfl, by decide, inX7, rfl, Or.inl ⟨List.mem_append_right _ (List.mem_of_getElem? (i := 702) (by decide +kernel)), rfl⟩⟩
theorem fkX7_25 : mj_fk RX7 25 7 9 RX7 TX7 26 := ⟨rfl, by decide, inX7, rfl, Or.inl ⟨List.mem_append_right _ (List.mem_of_getElem? (i := 703) (by decide +kernel)), rfl⟩⟩
theorem fkX7_28 : mj_fk RX7 28 7 11 RX7 TX7 26 := ⟨rfl, by decide, inX7, rfl, Or.inl ⟨List.mem_append_right _ (List.mem_of_getElem? (i := 705) (by decide +kernel)), rfl⟩⟩
theorem fkX7_31 : mj_fk RX7 31 7 12 RX7 TX7 26 := ⟨rfl, by decide, inX7, rfl, Or.inl ⟨List.mem_append_right _ (List.mem_of_getElem? (i := 706) (by decide +kernel)), rfl⟩⟩
theorem fkX7_34 : mj_fk RX7 34 7 16 RX7 TX7 26 := ⟨rfl, by decide, inX7, rfl, Or.inl ⟨List.mem_append_right _ (List.mem_of_getElem? (i := 710) (by decide +kernel)), rfl⟩⟩
theorem fkX7_37 : mj_fk RX7 37 7 17 RX7 TX7 26 := ⟨rfl, by decide, inX7, rfl, Or.inl ⟨List.mem_append_right _ (List.mem_of_getElem? (i := 711) (by decide +kernel)), rfl⟩⟩
theorem fkX7_40 : mj_fk RX7 40 7 18 RX7 TX7 26 := ⟨rfl, by decide, inX7, rfl, Or.inl ⟨List.mem_append_right _ (List.mem_of_getElem? (i := 712) (by decide +kernel)), rfl⟩⟩
theorem fkX7_43 : mj_fk RX7 43 7 20 RX7 TX7 26 := ⟨rfl, by decide, inX7, rfl, Or.inl ⟨List.mem_append_right _ (List.mem_of_getElem? (i := 714) (by decide +kernel)), rfl⟩⟩
theorem fkX7_46 : mj_fk RX7 46 7 21 RX7 TX7 26 := ⟨rfl, by decide, inX7, rfl, Or.inl ⟨List.mem_append_right _ (List.mem_of_getElem? (i := 715) (by decide +kernel)), rfl⟩⟩
theorem fkX7_49 : mj_fk RX7 49 7 22 RX7 TX7 26 := ⟨rfl, by decide, inX7, rfl, Or.inl ⟨List.mem_append_right _ (List.mem_of_getElem? (i := 716) (by decide +kernel)), rfl⟩⟩
theorem fkX7_52 : mj_fk RX7 52 7 23 RX7 TX7 26 := ⟨rfl, by decide, inX7, rfl, Or.inl ⟨List.mem_append_right _ (List.mem_of_getElem? (i := 717) (by decide +kernel)), rfl⟩⟩
theorem fkX7_55 : mj_fk RX7 55 7 24 RX7 TX7 26 := ⟨rfl, by decide, inX7, rfl, Or.inl ⟨List.mem_append_right _ (List.mem_of_getElem? (i := 718) (by decide +kernel)), rfl⟩⟩
theorem fkX7_58 : mj_fk RX7 58 7 25 RX7 TX7 26 := ⟨rfl, by decide, inX7, rfl, Or.inl ⟨List.mem_append_right _ (List.mem_of_getElem? (i := 719) (by decide +kernel)), rfl⟩⟩
theorem fkX7_71 : mj_fk RX7 71 7 10 RX7 TX7 26 := ⟨rfl, by decide, inX7, rfl, Or.inl ⟨List.mem_append_right _ (List.mem_of_getElem? (i := 704) (by decide +kernel)), rfl⟩⟩
theorem fkX7_83 : mj_fk RX7 83 7 0 RX7 TX7 26 := ⟨rfl, by decide, inX7, rfl, Or.inl ⟨List.mem_append_right _ (List.mem_of_getElem? (i := 694) (by decide +kernel)), rfl⟩⟩
theorem fkX7_86 : mj_fk RX7 86 7 14 RX7 TX7 26 := ⟨rfl, by decide, inX7, rfl, Or.inl ⟨List.mem_append_right _ (List.mem_of_getElem? (i := 708) (by decide +kernel)), rfl⟩⟩
theorem fkX7_115 : mj_fk RX7 115 7 13 RX7 TX7 26 := ⟨rfl, by decide, inX7, rfl, Or.inl ⟨List.mem_append_right _ (List.mem_of_getElem? (i := 707) (by decide +kernel)), rfl⟩⟩
theorem fkX7_124 : mj_fk RX7 124 7 6 RX7 TX7 26 := ⟨rfl, by decide, inX7, rfl, Or.inl ⟨List.mem_append_right _ (List.mem_of_getElem? (i := 700) (by decide +kernel)), rfl⟩⟩
theorem fkX7_127 : mj_fk RX7 127 7 4 RX7 TX7 26 := ⟨rfl, by decide, inX7, rfl, Or.inl ⟨List.mem_append_right _ (List.mem_of_getElem? (i := 698) (by decide +kernel)), rfl⟩⟩
theorem fkX7_130 : mj_fk RX7 130 7 5 RX7 TX7 26 := ⟨rfl, by decide, inX7, rfl, Or.inl ⟨List.mem_append_right _ (List.mem_of_getElem? (i := 699) (by decide +kernel)), rfl⟩⟩
theorem fkX7_133 : mj_fk RX7 133 7 15 RX7 TX7 26 := ⟨rfl, by decide, inX7, rfl, Or.inl ⟨List.mem_append_right _ (List.mem_of_getElem? (i := 709) (by decide +kernel)), rfl⟩⟩
theorem fkX7_199 : mj_fk RX7 199 7 19 RX7 TX7 26 := ⟨rfl, by decide, inX7, rfl, Or.inl ⟨List.mem_append_right _ (List.mem_of_getElem? (i := 713) (by decide +kernel)), rfl⟩⟩
theorem kkX6_194 : mj_wd (.constantLong RX6 194 (7919)) := ⟨List.mem_append_right _ (List.mem_of_getElem? (i := 599) (by decide +kernel)), rfl⟩
theorem kkX6_196 : mj_wd (.constantLong RX6 196 (6151)) := ⟨List.mem_append_right _ (List.mem_of_getElem? (i := 600) (by decide +kernel)), rfl⟩
theorem kkX6_198 : mj_wd (.constantLong RX6 198 (65521)) := ⟨List.mem_append_right _ (List.mem_of_getElem? (i := 601) (by decide +kernel)), rfl⟩
theorem kkX6_227 : mj_wd (.constant RX6 227 (99999)) := ⟨List.mem_append_right _ (List.mem_of_getElem? (i := 542) (by decide +kernel)), rfl⟩
theorem kkX6_248 : mj_wd (.constant RX6 248 (100000)) := ⟨List.mem_append_right _ (List.mem_of_getElem? (i := 570) (by decide +kernel)), rfl⟩
theorem kkX7_75 : mj_wd (.constantLong RX7 75 (32)) := ⟨List.mem_append_right _ (List.mem_of_getElem? (i := 777) (by decide +kernel)), rfl⟩
theorem kkX7_77 : mj_wd (.constantLong RX7 77 (126)) := ⟨List.mem_append_right _ (List.mem_of_getElem? (i := 778) (by decide +kernel)), rfl⟩
theorem kkX7_93 : mj_wd (.constantLong RX7 93 (48)) := ⟨List.mem_append_right _ (List.mem_of_getElem? (i := 810) (by decide +kernel)), rfl⟩
theorem kkX7_95 : mj_wd (.constantLong RX7 95 (57)) := ⟨List.mem_append_right _ (List.mem_of_getElem? (i := 811) (by decide +kernel)), rfl⟩
theorem kkX7_137 : mj_wd (.constantLong RX7 137 (3)) := ⟨List.mem_append_right _ (List.mem_of_getElem? (i := 867) (by decide +kernel)), rfl⟩
theorem kkX7_139 : mj_wd (.constantLong RX7 139 (5)) := ⟨List.mem_append_right _ (List.mem_of_getElem? (i := 836) (by decide +kernel)), rfl⟩
theorem kkX7_141 : mj_wd (.constantLong RX7 141 (99)) := ⟨List.mem_append_right _ (List.mem_of_getElem? (i := 837) (by decide +kernel)), rfl⟩
theorem kkX7_143 : mj_wd (.constantLong RX7 143 (999)) := ⟨List.mem_append_right _ (List.mem_of_getElem? (i := 838) (by decide +kernel)), rfl⟩
theorem kkX7_155 : mj_wd (.constantLong RX7 155 (9999)) := ⟨List.mem_append_right _ (List.mem_of_getElem? (i := 859) (by decide +kernel)), rfl⟩
theorem kkX7_182 : mj_wd (.constant RX7 182 (100000)) := ⟨List.mem_append_right _ (List.mem_of_getElem? (i := 961) (by decide +kernel)), rfl⟩
theorem kkX7_189 : mj_wd (.constantLong RX7 189 (8)) := ⟨List.mem_append_right _ (List.mem_of_getElem? (i := 966) (by decide +kernel)), rfl⟩
theorem kkX7_191 : mj_wd (.constantLong RX7 191 (20)) := ⟨List.mem_append_right _ (List.mem_of_getElem? (i := 983) (by decide +kernel)), rfl⟩
theorem kkX7_193 : mj_wd (.constantLong RX7 193 (7919)) := ⟨List.mem_append_right _ (List.mem_of_getElem? (i := 984) (by decide +kernel)), rfl⟩
theorem kkX7_195 : mj_wd (.constantLong RX7 195 (6151)) := ⟨List.mem_append_right _ (List.mem_of_getElem? (i := 985) (by decide +kernel)), rfl⟩
theorem kkX7_197 : mj_wd (.constantLong RX7 197 (65521)) := ⟨List.mem_append_right _ (List.mem_of_getElem? (i := 986) (by decide +kernel)), rfl⟩
theorem kkX7_205 : mj_wd (.constant RX7 205 (-99999)) := ⟨List.mem_append_right _ (List.mem_of_getElem? (i := 908) (by decide +kernel)), rfl⟩
theorem kkX7_241 : mj_wd (.constantLong RX7 241 (10)) := ⟨List.mem_append_right _ (List.mem_of_getElem? (i := 991) (by decide +kernel)), rfl⟩
theorem kkX7_243 : mj_wd (.constantLong RX7 243 (99999)) := ⟨List.mem_append_right _ (List.mem_of_getElem? (i := 1008) (by decide +kernel)), rfl⟩
theorem kkX7_245 : mj_wd (.constantLong RX7 245 (4)) := ⟨List.mem_append_right _ (List.mem_of_getElem? (i := 1021) (by decide +kernel)), rfl⟩
theorem kkX7_250 : mj_wd (.constantLong RX7 250 (2)) := ⟨List.mem_append_right _ (List.mem_of_getElem? (i := 1030) (by decide +kernel)), rfl⟩
theorem nb_m4 : (Int8.ofInt (-4)).toInt32 = (-4 : Int32) := by decide
theorem nb_m3 : (Int8.ofInt (-3)).toInt32 = (-3 : Int32) := by decide
theorem nb_m2 : (Int8.ofInt (-2)).toInt32 = (-2 : Int32) := by decide
theorem nb_6 : (Int8.ofInt (6)).toInt32 = (6 : Int32) := by decide
theorem nb_7 : (Int8.ofInt (7)).toInt32 = (7 : Int32) := by decide
theorem nb_8 : (Int8.ofInt (8)).toInt32 = (8 : Int32) := by decide
theorem nb_9 : (Int8.ofInt (9)).toInt32 = (9 : Int32) := by decide
theorem nb_10 : (Int8.ofInt (10)).toInt32 = (10 : Int32) := by decide
theorem nb_12 : (Int8.ofInt (12)).toInt32 = (12 : Int32) := by decide
theorem nb_16 : (Int8.ofInt (16)).toInt32 = (16 : Int32) := by decide
theorem nb_20 : (Int8.ofInt (20)).toInt32 = (20 : Int32) := by decide
theorem nb_32 : (Int8.ofInt (32)).toInt32 = (32 : Int32) := by decide
theorem nb_40 : (Int8.ofInt (40)).toInt32 = (40 : Int32) := by decide
theorem nb_41 : (Int8.ofInt (41)).toInt32 = (41 : Int32) := by decide
theorem nb_48 : (Int8.ofInt (48)).toInt32 = (48 : Int32) := by decide
theorem nb_57 : (Int8.ofInt (57)).toInt32 = (57 : Int32) := by decide
theorem nb_59 : (Int8.ofInt (59)).toInt32 = (59 : Int32) := by decide
theorem nb_60 : (Int8.ofInt (60)).toInt32 = (60 : Int32) := by decide
theorem nb_64 : (Int8.ofInt (64)).toInt32 = (64 : Int32) := by decide
theorem nb_82 : (Int8.ofInt (82)).toInt32 = (82 : Int32) := by decide
theorem nb_83 : (Int8.ofInt (83)).toInt32 = (83 : Int32) := by decide
theorem nb_90 : (Int8.ofInt (90)).toInt32 = (90 : Int32) := by decide
theorem nb_99 : (Int8.ofInt (99)).toInt32 = (99 : Int32) := by decide
theorem nb_100 : (Int8.ofInt (100)).toInt32 = (100 : Int32) := by decide
theorem nb_120 : (Int8.ofInt (120)).toInt32 = (120 : Int32) := by decide
theorem nb_126 : (Int8.ofInt (126)).toInt32 = (126 : Int32) := by decide
theorem ni_m1 : Int32.ofInt (-1) = (-1 : Int32) := by decide
theorem ni_0 : Int32.ofInt (0) = (0 : Int32) := by decide
theorem ni_1 : Int32.ofInt (1) = (1 : Int32) := by decide
theorem ni_2 : Int32.ofInt (2) = (2 : Int32) := by decide
theorem ni_3 : Int32.ofInt (3) = (3 : Int32) := by decide
theorem ni_4 : Int32.ofInt (4) = (4 : Int32) := by decide
theorem ni_5 : Int32.ofInt (5) = (5 : Int32) := by decide
theorem nl_0 : Int64.ofNat ((0 : Fin 2) : Nat) = (0 : Int64) := by decide
theorem nl_1 : Int64.ofNat ((1 : Fin 2) : Nat) = (1 : Int64) := by decide
theorem ns_150 : (Int16.ofInt (150)).toInt32 = (150 : Int32) := by decide
theorem ns_200 : (Int16.ofInt (200)).toInt32 = (200 : Int32) := by decide
theorem ns_256 : (Int16.ofInt (256)).toInt32 = (256 : Int32) := by decide
theorem ns_300 : (Int16.ofInt (300)).toInt32 = (300 : Int32) := by decide
theorem ns_328 : (Int16.ofInt (328)).toInt32 = (328 : Int32) := by decide
theorem ns_334 : (Int16.ofInt (334)).toInt32 = (334 : Int32) := by decide
theorem ns_335 : (Int16.ofInt (335)).toInt32 = (335 : Int32) := by decide
theorem ns_1675 : (Int16.ofInt (1675)).toInt32 = (1675 : Int32) := by decide
theorem ns_2010 : (Int16.ofInt (2010)).toInt32 = (2010 : Int32) := by decide
theorem ns_9999 : (Int16.ofInt (9999)).toInt32 = (9999 : Int32) := by decide
section MJW
variable {M : mj_M} {sh : List mj_S} {Q : Option Value → mj_X → Prop} {x : mj_X} {pc : Nat} {ls : List (Option Value)} {st : List Value} {K : mj_M} {idx n c0 ci : Nat} {fs : List (Option Nat)} {T0 : u_T} {N0 : Nat} {As : List Value}
theorem mj_cvi {QK : Int32 → mj_X → Prop} (hC : mj_CI K sh (.ref c0 :: As) x QK) (hK : mj_ckV K n) (hl : mj_lk M.1.cls idx K.1) (hrm : mj_rok M K) (hn : As.length = n) (hd : decode M.2.1 pc = .ok (.invokevirtual idx, 3)) (hsh : sh[c0]? = some (.inl (ci, fs))) (hcl : mj_cl[ci]? = some (K.1.cls, T0, N0)) (hcat : (st.map fun v => v.category).sum ≤ 8) (k : ∀ z x', QK z x' → mj_V M sh Q x' (pc + 3) ls (.int z :: st)) : mj_V M sh Q x pc ls (As.reverse ++ .ref c0 :: st) :=
  mj_callV hC hK hl hrm hn hd hsh hcl hcat (fun r x' h => by obtain ⟨z, rfl, h⟩ := h; exact k z x' h)
theorem mj_cvv {QK : mj_X → Prop} (hC : mj_CV K sh (.ref c0 :: As) x QK) (hK : mj_ckV K n) (hl : mj_lk M.1.cls idx K.1) (hrm : mj_rok M K) (hn : As.length = n) (hd : decode M.2.1 pc = .ok (.invokevirtual idx, 3)) (hsh : sh[c0]? = some (.inl (ci, fs))) (hcl : mj_cl[ci]? = some (K.1.cls, T0, N0)) (hcat : (st.map fun v => v.category).sum ≤ 8) (k : ∀ x', QK x' → mj_V M sh Q x' (pc + 3) ls st) : mj_V M sh Q x pc ls (As.reverse ++ .ref c0 :: st) :=
  mj_callV hC hK hl hrm hn hd hsh hcl hcat (fun r x' h => by obtain ⟨rfl, h⟩ := h; exact k x' h)
theorem mj_csi {QK : Int32 → mj_X → Prop} (hC : mj_CI K sh As x QK) (hK : mj_ckS K n) (hl : mj_lk M.1.cls idx K.1) (hrm : mj_rok M K) (hn : As.length = n) (hd : decode M.2.1 pc = .ok (.invokestatic idx, 3)) (hcat : (st.map fun v => v.category).sum ≤ 8) (k : ∀ z x', QK z x' → mj_V M sh Q x' (pc + 3) ls (.int z :: st)) : mj_V M sh Q x pc ls (As.reverse ++ st) :=
  mj_callS hC hK hl hrm hn hd hcat (fun r x' h => by obtain ⟨z, rfl, h⟩ := h; exact k z x' h)
/-- of a method that only answers -/
def mj_CP (M : mj_M) (sh : List mj_S) (args : List Value) (x : mj_X) (z : Int32) : Prop := mj_CI M sh args x (fun r x' => r = z ∧ x' = x)
theorem mj_cvp {z : Int32} (hC : mj_CP K sh (.ref c0 :: As) x z) (hK : mj_ckV K n) (hl : mj_lk M.1.cls idx K.1) (hrm : mj_rok M K) (hn : As.length = n) (hd : decode M.2.1 pc = .ok (.invokevirtual idx, 3)) (hsh : sh[c0]? = some (.inl (ci, fs))) (hcl : mj_cl[ci]? = some (K.1.cls, T0, N0)) (hcat : (st.map fun v => v.category).sum ≤ 8) (k : mj_V M sh Q x (pc + 3) ls (.int z :: st)) : mj_V M sh Q x pc ls (As.reverse ++ .ref c0 :: st) :=
  mj_cvi hC hK hl hrm hn hd hsh hcl hcat (fun r x' h => by obtain ⟨rfl, rfl⟩ := h; exact k)
theorem mj_csp {z : Int32} (hC : mj_CP K sh As x z) (hK : mj_ckS K n) (hl : mj_lk M.1.cls idx K.1) (hrm : mj_rok M K) (hn : As.length = n) (hd : decode M.2.1 pc = .ok (.invokestatic idx, 3)) (hcat : (st.map fun v => v.category).sum ≤ 8) (k : mj_V M sh Q x (pc + 3) ls (.int z :: st)) : mj_V M sh Q x pc ls (As.reverse ++ st) :=
  mj_csi hC hK hl hrm hn hd hcat (fun r x' h => by obtain ⟨rfl, rfl⟩ := h; exact k)
theorem mj_mx {a b : Int32} (hl : mj_wd (.methodLink M.1.cls idx Lib.Math.max.name)) (hfr : 1 ≤ M.2.2.2.2.1) (hlo : 21 ≤ M.2.2.2.2.2) (hcat : (st.map fun v => v.category).sum ≤ 8) (hd : decode M.2.1 pc = .ok (.invokestatic idx, 3)) (k : mj_V M sh Q x (pc + 3) ls (.int (if a < b then b else a) :: st)) : mj_V M sh Q x pc ls (.int b :: .int a :: st) :=
  mj_max hl ckm_max.1 ckm ckm_max.2 hfr hlo hcat hd k
theorem mj_mn {a b : Int32} (hl : mj_wd (.methodLink M.1.cls idx Lib.Math.min.name)) (hfr : 1 ≤ M.2.2.2.2.1) (hlo : 21 ≤ M.2.2.2.2.2) (hcat : (st.map fun v => v.category).sum ≤ 8) (hd : decode M.2.1 pc = .ok (.invokestatic idx, 3)) (k : mj_V M sh Q x (pc + 3) ls (.int (if b < a then b else a) :: st)) : mj_V M sh Q x pc ls (.int b :: .int a :: st) :=
  mj_min hl ckm_min.1 ckm ckm_min.2 hfr hlo hcat hd k
end MJW
end
section
theorem dX0_add_0 : decode cX0_add 0 = .ok (.aload_n 0, 1) := by decide +kernel
theorem dX0_add_1 : decode cX0_add 1 = .ok (.getfield 33, 3) := by decide +kernel
theorem dX0_add_4 : decode cX0_add 4 = .ok (.ifCond .lt 12, 3) := by decide +kernel
theorem dX0_add_7 : decode cX0_add 7 = .ok (.aload_n 0, 1) := by decide +kernel
theorem dX0_add_8 : decode cX0_add 8 = .ok (.getfield 33, 3) := by decide +kernel
theorem dX0_add_11 : decode cX0_add 11 = .ok (.bipush 82, 2) := by decide +kernel
theorem dX0_add_13 : decode cX0_add 13 = .ok (.if_icmp .lt 4, 3) := by decide +kernel
theorem dX0_add_16 : decode cX0_add 16 = .ok (.return_, 1) := by decide +kernel
theorem dX0_add_17 : decode cX0_add 17 = .ok (.aload_n 0, 1) := by decide +kernel
theorem dX0_add_18 : decode cX0_add 18 = .ok (.getfield 11, 3) := by decide +kernel
theorem dX0_add_21 : decode cX0_add 21 = .ok (.aload_n 0, 1) := by decide +kernel
theorem dX0_add_22 : decode cX0_add 22 = .ok (.getfield 33, 3) := by decide +kernel
theorem dX0_add_25 : decode cX0_add 25 = .ok (.iload_n 1, 1) := by decide +kernel
theorem dX0_add_26 : decode cX0_add 26 = .ok (.iastore, 1) := by decide +kernel
theorem dX0_add_27 : decode cX0_add 27 = .ok (.aload_n 0, 1) := by decide +kernel
theorem dX0_add_28 : decode cX0_add 28 = .ok (.getfield 15, 3) := by decide +kernel
theorem dX0_add_31 : decode cX0_add 31 = .ok (.aload_n 0, 1) := by decide +kernel
theorem dX0_add_32 : decode cX0_add 32 = .ok (.getfield 33, 3) := by decide +kernel
theorem dX0_add_35 : decode cX0_add 35 = .ok (.iload_n 2, 1) := by decide +kernel
theorem dX0_add_36 : decode cX0_add 36 = .ok (.iastore, 1) := by decide +kernel
theorem dX0_add_37 : decode cX0_add 37 = .ok (.aload_n 0, 1) := by decide +kernel
theorem dX0_add_38 : decode cX0_add 38 = .ok (.getfield 18, 3) := by decide +kernel
theorem dX0_add_41 : decode cX0_add 41 = .ok (.aload_n 0, 1) := by decide +kernel
theorem dX0_add_42 : decode cX0_add 42 = .ok (.getfield 33, 3) := by decide +kernel
theorem dX0_add_45 : decode cX0_add 45 = .ok (.iload_n 2, 1) := by decide +kernel
theorem dX0_add_46 : decode cX0_add 46 = .ok (.iload_n 3, 1) := by decide +kernel
theorem dX0_add_47 : decode cX0_add 47 = .ok (.iadd, 1) := by decide +kernel
theorem dX0_add_48 : decode cX0_add 48 = .ok (.iconst 1, 1) := by decide +kernel
theorem dX0_add_49 : decode cX0_add 49 = .ok (.isub, 1) := by decide +kernel
theorem dX0_add_50 : decode cX0_add 50 = .ok (.iastore, 1) := by decide +kernel
theorem dX0_add_51 : decode cX0_add 51 = .ok (.aload_n 0, 1) := by decide +kernel
theorem dX0_add_52 : decode cX0_add 52 = .ok (.getfield 21, 3) := by decide +kernel
theorem dX0_add_55 : decode cX0_add 55 = .ok (.aload_n 0, 1) := by decide +kernel
theorem dX0_add_56 : decode cX0_add 56 = .ok (.getfield 33, 3) := by decide +kernel
theorem dX0_add_59 : decode cX0_add 59 = .ok (.iload 4, 2) := by decide +kernel
theorem dX0_add_61 : decode cX0_add 61 = .ok (.iastore, 1) := by decide +kernel
theorem dX0_add_62 : decode cX0_add 62 = .ok (.aload_n 0, 1) := by decide +kernel
theorem dX0_add_63 : decode cX0_add 63 = .ok (.getfield 24, 3) := by decide +kernel
theorem dX0_add_66 : decode cX0_add 66 = .ok (.aload_n 0, 1) := by decide +kernel
theorem dX0_add_67 : decode cX0_add 67 = .ok (.getfield 33, 3) := by decide +kernel
theorem dX0_add_70 : decode cX0_add 70 = .ok (.iload 5, 2) := by decide +kernel
theorem dX0_add_72 : decode cX0_add 72 = .ok (.iastore, 1) := by decide +kernel
theorem dX0_add_73 : decode cX0_add 73 = .ok (.aload_n 0, 1) := by decide +kernel
theorem dX0_add_74 : decode cX0_add 74 = .ok (.getfield 27, 3) := by decide +kernel
theorem dX0_add_77 : decode cX0_add 77 = .ok (.aload_n 0, 1) := by decide +kernel
theorem dX0_add_78 : decode cX0_add 78 = .ok (.getfield 33, 3) := by decide +kernel
theorem dX0_add_81 : decode cX0_add 81 = .ok (.iload 6, 2) := by decide +kernel
theorem dX0_add_83 : decode cX0_add 83 = .ok (.iastore, 1) := by decide +kernel
theorem dX0_add_84 : decode cX0_add 84 = .ok (.aload_n 0, 1) := by decide +kernel
theorem dX0_add_85 : decode cX0_add 85 = .ok (.getfield 30, 3) := by decide +kernel
theorem dX0_add_88 : decode cX0_add 88 = .ok (.aload_n 0, 1) := by decide +kernel
theorem dX0_add_89 : decode cX0_add 89 = .ok (.getfield 33, 3) := by decide +kernel
theorem dX0_add_92 : decode cX0_add 92 = .ok (.iconst 0, 1) := by decide +kernel
theorem dX0_add_93 : decode cX0_add 93 = .ok (.iastore, 1) := by decide +kernel
theorem dX0_add_94 : decode cX0_add 94 = .ok (.aload_n 0, 1) := by decide +kernel
theorem dX0_add_95 : decode cX0_add 95 = .ok (.dup, 1) := by decide +kernel
theorem dX0_add_96 : decode cX0_add 96 = .ok (.getfield 33, 3) := by decide +kernel
theorem dX0_add_99 : decode cX0_add 99 = .ok (.iconst 1, 1) := by decide +kernel
theorem dX0_add_100 : decode cX0_add 100 = .ok (.iadd, 1) := by decide +kernel
theorem dX0_add_101 : decode cX0_add 101 = .ok (.putfield 33, 3) := by decide +kernel
theorem dX0_add_104 : decode cX0_add 104 = .ok (.return_, 1) := by decide +kernel
theorem dX0_has_0 : decode cX0_has 0 = .ok (.iload_n 1, 1) := by decide +kernel
theorem dX0_has_1 : decode cX0_has 1 = .ok (.ifCond .lt 43, 3) := by decide +kernel
theorem dX0_has_4 : decode cX0_has 4 = .ok (.iload_n 1, 1) := by decide +kernel
theorem dX0_has_5 : decode cX0_has 5 = .ok (.bipush 82, 2) := by decide +kernel
theorem dX0_has_7 : decode cX0_has 7 = .ok (.if_icmp .ge 37, 3) := by decide +kernel
theorem dX0_has_10 : decode cX0_has 10 = .ok (.aload_n 0, 1) := by decide +kernel
theorem dX0_has_11 : decode cX0_has 11 = .ok (.getfield 11, 3) := by decide +kernel
theorem dX0_has_14 : decode cX0_has 14 = .ok (.iload_n 1, 1) := by decide +kernel
theorem dX0_has_15 : decode cX0_has 15 = .ok (.iaload, 1) := by decide +kernel
theorem dX0_has_16 : decode cX0_has 16 = .ok (.iload_n 2, 1) := by decide +kernel
theorem dX0_has_17 : decode cX0_has 17 = .ok (.if_icmp .ne 27, 3) := by decide +kernel
theorem dX0_has_20 : decode cX0_has 20 = .ok (.aload_n 0, 1) := by decide +kernel
theorem dX0_has_21 : decode cX0_has 21 = .ok (.getfield 15, 3) := by decide +kernel
theorem dX0_has_24 : decode cX0_has 24 = .ok (.iload_n 1, 1) := by decide +kernel
theorem dX0_has_25 : decode cX0_has 25 = .ok (.iaload, 1) := by decide +kernel
theorem dX0_has_26 : decode cX0_has 26 = .ok (.iload_n 3, 1) := by decide +kernel
theorem dX0_has_27 : decode cX0_has 27 = .ok (.if_icmp .gt 17, 3) := by decide +kernel
theorem dX0_has_30 : decode cX0_has 30 = .ok (.iload_n 3, 1) := by decide +kernel
theorem dX0_has_31 : decode cX0_has 31 = .ok (.aload_n 0, 1) := by decide +kernel
theorem dX0_has_32 : decode cX0_has 32 = .ok (.getfield 18, 3) := by decide +kernel
theorem dX0_has_35 : decode cX0_has 35 = .ok (.iload_n 1, 1) := by decide +kernel
theorem dX0_has_36 : decode cX0_has 36 = .ok (.iaload, 1) := by decide +kernel
theorem dX0_has_37 : decode cX0_has 37 = .ok (.if_icmp .gt 7, 3) := by decide +kernel
theorem dX0_has_40 : decode cX0_has 40 = .ok (.iconst 1, 1) := by decide +kernel
theorem dX0_has_41 : decode cX0_has 41 = .ok (.goto 4, 3) := by decide +kernel
theorem dX0_has_44 : decode cX0_has 44 = .ok (.iconst 0, 1) := by decide +kernel
theorem dX0_has_45 : decode cX0_has 45 = .ok (.ireturn, 1) := by decide +kernel
theorem dX0_hold_0 : decode cX0_hold 0 = .ok (.iconst 0, 1) := by decide +kernel
theorem dX0_hold_1 : decode cX0_hold 1 = .ok (.istore_n 3, 1) := by decide +kernel
theorem dX0_hold_2 : decode cX0_hold 2 = .ok (.iload_n 3, 1) := by decide +kernel
theorem dX0_hold_3 : decode cX0_hold 3 = .ok (.aload_n 0, 1) := by decide +kernel
theorem dX0_hold_4 : decode cX0_hold 4 = .ok (.getfield 33, 3) := by decide +kernel
theorem dX0_hold_7 : decode cX0_hold 7 = .ok (.if_icmp .ge 27, 3) := by decide +kernel
theorem dX0_hold_10 : decode cX0_hold 10 = .ok (.iload_n 3, 1) := by decide +kernel
theorem dX0_hold_11 : decode cX0_hold 11 = .ok (.bipush 82, 2) := by decide +kernel
theorem dX0_hold_13 : decode cX0_hold 13 = .ok (.if_icmp .ge 21, 3) := by decide +kernel
theorem dX0_hold_16 : decode cX0_hold 16 = .ok (.aload_n 0, 1) := by decide +kernel
theorem dX0_hold_17 : decode cX0_hold 17 = .ok (.iload_n 3, 1) := by decide +kernel
theorem dX0_hold_18 : decode cX0_hold 18 = .ok (.iload_n 1, 1) := by decide +kernel
theorem dX0_hold_19 : decode cX0_hold 19 = .ok (.iload_n 2, 1) := by decide +kernel
theorem dX0_hold_20 : decode cX0_hold 20 = .ok (.invokevirtual 37, 3) := by decide +kernel
theorem dX0_hold_23 : decode cX0_hold 23 = .ok (.ifCond .eq 5, 3) := by decide +kernel
theorem dX0_hold_26 : decode cX0_hold 26 = .ok (.iconst 1, 1) := by decide +kernel
theorem dX0_hold_27 : decode cX0_hold 27 = .ok (.ireturn, 1) := by decide +kernel
theorem dX0_hold_28 : decode cX0_hold 28 = .ok (.iinc 3 1, 3) := by decide +kernel
theorem dX0_hold_31 : decode cX0_hold 31 = .ok (.goto (-29), 3) := by decide +kernel
theorem dX0_hold_34 : decode cX0_hold 34 = .ok (.iconst 0, 1) := by decide +kernel
theorem dX0_hold_35 : decode cX0_hold 35 = .ok (.ireturn, 1) := by decide +kernel
theorem dX0_firstFree_0 : decode cX0_firstFree 0 = .ok (.iload_n 2, 1) := by decide +kernel
theorem dX0_firstFree_1 : decode cX0_firstFree 1 = .ok (.istore_n 3, 1) := by decide +kernel
theorem dX0_firstFree_2 : decode cX0_firstFree 2 = .ok (.iconst 0, 1) := by decide +kernel
theorem dX0_firstFree_3 : decode cX0_firstFree 3 = .ok (.istore 4, 2) := by decide +kernel
theorem dX0_firstFree_5 : decode cX0_firstFree 5 = .ok (.iload 4, 2) := by decide +kernel
theorem dX0_firstFree_7 : decode cX0_firstFree 7 = .ok (.bipush 82, 2) := by decide +kernel
theorem dX0_firstFree_9 : decode cX0_firstFree 9 = .ok (.if_icmp .gt 28, 3) := by decide +kernel
theorem dX0_firstFree_12 : decode cX0_firstFree 12 = .ok (.aload_n 0, 1) := by decide +kernel
theorem dX0_firstFree_13 : decode cX0_firstFree 13 = .ok (.iload_n 1, 1) := by decide +kernel
theorem dX0_firstFree_14 : decode cX0_firstFree 14 = .ok (.iload_n 3, 1) := by decide +kernel
theorem dX0_firstFree_15 : decode cX0_firstFree 15 = .ok (.invokevirtual 41, 3) := by decide +kernel
theorem dX0_firstFree_18 : decode cX0_firstFree 18 = .ok (.istore 5, 2) := by decide +kernel
theorem dX0_firstFree_20 : decode cX0_firstFree 20 = .ok (.iload 5, 2) := by decide +kernel
theorem dX0_firstFree_22 : decode cX0_firstFree 22 = .ok (.iload_n 3, 1) := by decide +kernel
theorem dX0_firstFree_23 : decode cX0_firstFree 23 = .ok (.if_icmp .ne 5, 3) := by decide +kernel
theorem dX0_firstFree_26 : decode cX0_firstFree 26 = .ok (.iload_n 3, 1) := by decide +kernel
theorem dX0_firstFree_27 : decode cX0_firstFree 27 = .ok (.ireturn, 1) := by decide +kernel
theorem dX0_firstFree_28 : decode cX0_firstFree 28 = .ok (.iload 5, 2) := by decide +kernel
theorem dX0_firstFree_30 : decode cX0_firstFree 30 = .ok (.istore_n 3, 1) := by decide +kernel
theorem dX0_firstFree_31 : decode cX0_firstFree 31 = .ok (.iinc 4 1, 3) := by decide +kernel
theorem dX0_firstFree_34 : decode cX0_firstFree 34 = .ok (.goto (-29), 3) := by decide +kernel
theorem dX0_firstFree_37 : decode cX0_firstFree 37 = .ok (.iload_n 3, 1) := by decide +kernel
theorem dX0_firstFree_38 : decode cX0_firstFree 38 = .ok (.ireturn, 1) := by decide +kernel
theorem dX0_dayBehindBansOn_0 : decode cX0_dayBehindBansOn 0 = .ok (.iload_n 2, 1) := by decide +kernel
theorem dX0_dayBehindBansOn_1 : decode cX0_dayBehindBansOn 1 = .ok (.istore_n 3, 1) := by decide +kernel
theorem dX0_dayBehindBansOn_2 : decode cX0_dayBehindBansOn 2 = .ok (.iconst 0, 1) := by decide +kernel
theorem dX0_dayBehindBansOn_3 : decode cX0_dayBehindBansOn 3 = .ok (.istore 4, 2) := by decide +kernel
theorem dX0_dayBehindBansOn_5 : decode cX0_dayBehindBansOn 5 = .ok (.iload 4, 2) := by decide +kernel
theorem dX0_dayBehindBansOn_7 : decode cX0_dayBehindBansOn 7 = .ok (.aload_n 0, 1) := by decide +kernel
theorem dX0_dayBehindBansOn_8 : decode cX0_dayBehindBansOn 8 = .ok (.getfield 33, 3) := by decide +kernel
theorem dX0_dayBehindBansOn_11 : decode cX0_dayBehindBansOn 11 = .ok (.if_icmp .ge 41, 3) := by decide +kernel
theorem dX0_dayBehindBansOn_14 : decode cX0_dayBehindBansOn 14 = .ok (.iload 4, 2) := by decide +kernel
theorem dX0_dayBehindBansOn_16 : decode cX0_dayBehindBansOn 16 = .ok (.bipush 82, 2) := by decide +kernel
theorem dX0_dayBehindBansOn_18 : decode cX0_dayBehindBansOn 18 = .ok (.if_icmp .ge 34, 3) := by decide +kernel
theorem dX0_dayBehindBansOn_21 : decode cX0_dayBehindBansOn 21 = .ok (.aload_n 0, 1) := by decide +kernel
theorem dX0_dayBehindBansOn_22 : decode cX0_dayBehindBansOn 22 = .ok (.iload 4, 2) := by decide +kernel
theorem dX0_dayBehindBansOn_24 : decode cX0_dayBehindBansOn 24 = .ok (.iload_n 1, 1) := by decide +kernel
theorem dX0_dayBehindBansOn_25 : decode cX0_dayBehindBansOn 25 = .ok (.iload_n 2, 1) := by decide +kernel
theorem dX0_dayBehindBansOn_26 : decode cX0_dayBehindBansOn 26 = .ok (.invokevirtual 37, 3) := by decide +kernel
theorem dX0_dayBehindBansOn_29 : decode cX0_dayBehindBansOn 29 = .ok (.ifCond .eq 17, 3) := by decide +kernel
theorem dX0_dayBehindBansOn_32 : decode cX0_dayBehindBansOn 32 = .ok (.iload_n 3, 1) := by decide +kernel
theorem dX0_dayBehindBansOn_33 : decode cX0_dayBehindBansOn 33 = .ok (.aload_n 0, 1) := by decide +kernel
theorem dX0_dayBehindBansOn_34 : decode cX0_dayBehindBansOn 34 = .ok (.getfield 18, 3) := by decide +kernel
theorem dX0_dayBehindBansOn_37 : decode cX0_dayBehindBansOn 37 = .ok (.iload 4, 2) := by decide +kernel
theorem dX0_dayBehindBansOn_39 : decode cX0_dayBehindBansOn 39 = .ok (.iaload, 1) := by decide +kernel
theorem dX0_dayBehindBansOn_40 : decode cX0_dayBehindBansOn 40 = .ok (.iconst 1, 1) := by decide +kernel
theorem dX0_dayBehindBansOn_41 : decode cX0_dayBehindBansOn 41 = .ok (.iadd, 1) := by decide +kernel
theorem dX0_dayBehindBansOn_42 : decode cX0_dayBehindBansOn 42 = .ok (.invokestatic 45, 3) := by decide +kernel
theorem dX0_dayBehindBansOn_45 : decode cX0_dayBehindBansOn 45 = .ok (.istore_n 3, 1) := by decide +kernel
theorem dX0_dayBehindBansOn_46 : decode cX0_dayBehindBansOn 46 = .ok (.iinc 4 1, 3) := by decide +kernel
theorem dX0_dayBehindBansOn_49 : decode cX0_dayBehindBansOn 49 = .ok (.goto (-44), 3) := by decide +kernel
theorem dX0_dayBehindBansOn_52 : decode cX0_dayBehindBansOn 52 = .ok (.iload_n 3, 1) := by decide +kernel
theorem dX0_dayBehindBansOn_53 : decode cX0_dayBehindBansOn 53 = .ok (.ireturn, 1) := by decide +kernel
theorem dX0_daysBetween_0 : decode cX0_daysBetween 0 = .ok (.iconst 0, 1) := by decide +kernel
theorem dX0_daysBetween_1 : decode cX0_daysBetween 1 = .ok (.istore 4, 2) := by decide +kernel
theorem dX0_daysBetween_3 : decode cX0_daysBetween 3 = .ok (.iload_n 2, 1) := by decide +kernel
theorem dX0_daysBetween_4 : decode cX0_daysBetween 4 = .ok (.istore 5, 2) := by decide +kernel
theorem dX0_daysBetween_6 : decode cX0_daysBetween 6 = .ok (.iconst 0, 1) := by decide +kernel
theorem dX0_daysBetween_7 : decode cX0_daysBetween 7 = .ok (.istore 6, 2) := by decide +kernel
theorem dX0_daysBetween_9 : decode cX0_daysBetween 9 = .ok (.iload 6, 2) := by decide +kernel
theorem dX0_daysBetween_11 : decode cX0_daysBetween 11 = .ok (.bipush 83, 2) := by decide +kernel
theorem dX0_daysBetween_13 : decode cX0_daysBetween 13 = .ok (.if_icmp .gt 52, 3) := by decide +kernel
theorem dX0_daysBetween_16 : decode cX0_daysBetween 16 = .ok (.iload 5, 2) := by decide +kernel
theorem dX0_daysBetween_18 : decode cX0_daysBetween 18 = .ok (.iload_n 3, 1) := by decide +kernel
theorem dX0_daysBetween_19 : decode cX0_daysBetween 19 = .ok (.if_icmp .gt 46, 3) := by decide +kernel
theorem dX0_daysBetween_22 : decode cX0_daysBetween 22 = .ok (.aload_n 0, 1) := by decide +kernel
theorem dX0_daysBetween_23 : decode cX0_daysBetween 23 = .ok (.iload_n 1, 1) := by decide +kernel
theorem dX0_daysBetween_24 : decode cX0_daysBetween 24 = .ok (.iload 5, 2) := by decide +kernel
theorem dX0_daysBetween_26 : decode cX0_daysBetween 26 = .ok (.invokevirtual 50, 3) := by decide +kernel
theorem dX0_daysBetween_29 : decode cX0_daysBetween 29 = .ok (.istore 7, 2) := by decide +kernel
theorem dX0_daysBetween_31 : decode cX0_daysBetween 31 = .ok (.iload 4, 2) := by decide +kernel
theorem dX0_daysBetween_33 : decode cX0_daysBetween 33 = .ok (.iload 7, 2) := by decide +kernel
theorem dX0_daysBetween_35 : decode cX0_daysBetween 35 = .ok (.iload_n 3, 1) := by decide +kernel
theorem dX0_daysBetween_36 : decode cX0_daysBetween 36 = .ok (.iconst 1, 1) := by decide +kernel
theorem dX0_daysBetween_37 : decode cX0_daysBetween 37 = .ok (.iadd, 1) := by decide +kernel
theorem dX0_daysBetween_38 : decode cX0_daysBetween 38 = .ok (.invokestatic 53, 3) := by decide +kernel
theorem dX0_daysBetween_41 : decode cX0_daysBetween 41 = .ok (.iload 5, 2) := by decide +kernel
theorem dX0_daysBetween_43 : decode cX0_daysBetween 43 = .ok (.isub, 1) := by decide +kernel
theorem dX0_daysBetween_44 : decode cX0_daysBetween 44 = .ok (.iadd, 1) := by decide +kernel
theorem dX0_daysBetween_45 : decode cX0_daysBetween 45 = .ok (.istore 4, 2) := by decide +kernel
theorem dX0_daysBetween_47 : decode cX0_daysBetween 47 = .ok (.aload_n 0, 1) := by decide +kernel
theorem dX0_daysBetween_48 : decode cX0_daysBetween 48 = .ok (.iload_n 1, 1) := by decide +kernel
theorem dX0_daysBetween_49 : decode cX0_daysBetween 49 = .ok (.iload 7, 2) := by decide +kernel
theorem dX0_daysBetween_51 : decode cX0_daysBetween 51 = .ok (.iload_n 3, 1) := by decide +kernel
theorem dX0_daysBetween_52 : decode cX0_daysBetween 52 = .ok (.iconst 1, 1) := by decide +kernel
theorem dX0_daysBetween_53 : decode cX0_daysBetween 53 = .ok (.iadd, 1) := by decide +kernel
theorem dX0_daysBetween_54 : decode cX0_daysBetween 54 = .ok (.invokevirtual 56, 3) := by decide +kernel
theorem dX0_daysBetween_57 : decode cX0_daysBetween 57 = .ok (.istore 5, 2) := by decide +kernel
theorem dX0_daysBetween_59 : decode cX0_daysBetween 59 = .ok (.iinc 6 1, 3) := by decide +kernel
theorem dX0_daysBetween_62 : decode cX0_daysBetween 62 = .ok (.goto (-53), 3) := by decide +kernel
theorem dX0_daysBetween_65 : decode cX0_daysBetween 65 = .ok (.iload 4, 2) := by decide +kernel
theorem dX0_daysBetween_67 : decode cX0_daysBetween 67 = .ok (.ireturn, 1) := by decide +kernel
theorem dX0_nextFirstDay_0 : decode cX0_nextFirstDay 0 = .ok (.iload_n 3, 1) := by decide +kernel
theorem dX0_nextFirstDay_1 : decode cX0_nextFirstDay 1 = .ok (.istore 4, 2) := by decide +kernel
theorem dX0_nextFirstDay_3 : decode cX0_nextFirstDay 3 = .ok (.iconst 0, 1) := by decide +kernel
theorem dX0_nextFirstDay_4 : decode cX0_nextFirstDay 4 = .ok (.istore 5, 2) := by decide +kernel
theorem dX0_nextFirstDay_6 : decode cX0_nextFirstDay 6 = .ok (.iload 5, 2) := by decide +kernel
theorem dX0_nextFirstDay_8 : decode cX0_nextFirstDay 8 = .ok (.aload_n 0, 1) := by decide +kernel
theorem dX0_nextFirstDay_9 : decode cX0_nextFirstDay 9 = .ok (.getfield 33, 3) := by decide +kernel
theorem dX0_nextFirstDay_12 : decode cX0_nextFirstDay 12 = .ok (.if_icmp .ge 52, 3) := by decide +kernel
theorem dX0_nextFirstDay_15 : decode cX0_nextFirstDay 15 = .ok (.iload 5, 2) := by decide +kernel
theorem dX0_nextFirstDay_17 : decode cX0_nextFirstDay 17 = .ok (.bipush 82, 2) := by decide +kernel
theorem dX0_nextFirstDay_19 : decode cX0_nextFirstDay 19 = .ok (.if_icmp .ge 45, 3) := by decide +kernel
theorem dX0_nextFirstDay_22 : decode cX0_nextFirstDay 22 = .ok (.aload_n 0, 1) := by decide +kernel
theorem dX0_nextFirstDay_23 : decode cX0_nextFirstDay 23 = .ok (.getfield 11, 3) := by decide +kernel
theorem dX0_nextFirstDay_26 : decode cX0_nextFirstDay 26 = .ok (.iload 5, 2) := by decide +kernel
theorem dX0_nextFirstDay_28 : decode cX0_nextFirstDay 28 = .ok (.iaload, 1) := by decide +kernel
theorem dX0_nextFirstDay_29 : decode cX0_nextFirstDay 29 = .ok (.iload_n 1, 1) := by decide +kernel
theorem dX0_nextFirstDay_30 : decode cX0_nextFirstDay 30 = .ok (.if_icmp .ne 28, 3) := by decide +kernel
theorem dX0_nextFirstDay_33 : decode cX0_nextFirstDay 33 = .ok (.aload_n 0, 1) := by decide +kernel
theorem dX0_nextFirstDay_34 : decode cX0_nextFirstDay 34 = .ok (.getfield 15, 3) := by decide +kernel
theorem dX0_nextFirstDay_37 : decode cX0_nextFirstDay 37 = .ok (.iload 5, 2) := by decide +kernel
theorem dX0_nextFirstDay_39 : decode cX0_nextFirstDay 39 = .ok (.iaload, 1) := by decide +kernel
theorem dX0_nextFirstDay_40 : decode cX0_nextFirstDay 40 = .ok (.iload_n 2, 1) := by decide +kernel
theorem dX0_nextFirstDay_41 : decode cX0_nextFirstDay 41 = .ok (.if_icmp .le 17, 3) := by decide +kernel
theorem dX0_nextFirstDay_44 : decode cX0_nextFirstDay 44 = .ok (.iload 4, 2) := by decide +kernel
theorem dX0_nextFirstDay_46 : decode cX0_nextFirstDay 46 = .ok (.aload_n 0, 1) := by decide +kernel
theorem dX0_nextFirstDay_47 : decode cX0_nextFirstDay 47 = .ok (.getfield 15, 3) := by decide +kernel
theorem dX0_nextFirstDay_50 : decode cX0_nextFirstDay 50 = .ok (.iload 5, 2) := by decide +kernel
theorem dX0_nextFirstDay_52 : decode cX0_nextFirstDay 52 = .ok (.iaload, 1) := by decide +kernel
theorem dX0_nextFirstDay_53 : decode cX0_nextFirstDay 53 = .ok (.invokestatic 53, 3) := by decide +kernel
theorem dX0_nextFirstDay_56 : decode cX0_nextFirstDay 56 = .ok (.istore 4, 2) := by decide +kernel
theorem dX0_nextFirstDay_58 : decode cX0_nextFirstDay 58 = .ok (.iinc 5 1, 3) := by decide +kernel
theorem dX0_nextFirstDay_61 : decode cX0_nextFirstDay 61 = .ok (.goto (-55), 3) := by decide +kernel
theorem dX0_nextFirstDay_64 : decode cX0_nextFirstDay 64 = .ok (.iload 4, 2) := by decide +kernel
theorem dX0_nextFirstDay_66 : decode cX0_nextFirstDay 66 = .ok (.ireturn, 1) := by decide +kernel
theorem dX0_latestDay_0 : decode cX0_latestDay 0 = .ok (.iconst (-1), 1) := by decide +kernel
theorem dX0_latestDay_1 : decode cX0_latestDay 1 = .ok (.istore_n 2, 1) := by decide +kernel
theorem dX0_latestDay_2 : decode cX0_latestDay 2 = .ok (.iconst 0, 1) := by decide +kernel
theorem dX0_latestDay_3 : decode cX0_latestDay 3 = .ok (.istore_n 3, 1) := by decide +kernel
theorem dX0_latestDay_4 : decode cX0_latestDay 4 = .ok (.iload_n 3, 1) := by decide +kernel
theorem dX0_latestDay_5 : decode cX0_latestDay 5 = .ok (.aload_n 0, 1) := by decide +kernel
theorem dX0_latestDay_6 : decode cX0_latestDay 6 = .ok (.getfield 33, 3) := by decide +kernel
theorem dX0_latestDay_9 : decode cX0_latestDay 9 = .ok (.if_icmp .ge 36, 3) := by decide +kernel
theorem dX0_latestDay_12 : decode cX0_latestDay 12 = .ok (.iload_n 3, 1) := by decide +kernel
theorem dX0_latestDay_13 : decode cX0_latestDay 13 = .ok (.bipush 82, 2) := by decide +kernel
theorem dX0_latestDay_15 : decode cX0_latestDay 15 = .ok (.if_icmp .ge 30, 3) := by decide +kernel
theorem dX0_latestDay_18 : decode cX0_latestDay 18 = .ok (.aload_n 0, 1) := by decide +kernel
theorem dX0_latestDay_19 : decode cX0_latestDay 19 = .ok (.getfield 11, 3) := by decide +kernel
theorem dX0_latestDay_22 : decode cX0_latestDay 22 = .ok (.iload_n 3, 1) := by decide +kernel
theorem dX0_latestDay_23 : decode cX0_latestDay 23 = .ok (.iaload, 1) := by decide +kernel
theorem dX0_latestDay_24 : decode cX0_latestDay 24 = .ok (.iload_n 1, 1) := by decide +kernel
theorem dX0_latestDay_25 : decode cX0_latestDay 25 = .ok (.if_icmp .ne 14, 3) := by decide +kernel
theorem dX0_latestDay_28 : decode cX0_latestDay 28 = .ok (.iload_n 2, 1) := by decide +kernel
theorem dX0_latestDay_29 : decode cX0_latestDay 29 = .ok (.aload_n 0, 1) := by decide +kernel
theorem dX0_latestDay_30 : decode cX0_latestDay 30 = .ok (.getfield 18, 3) := by decide +kernel
theorem dX0_latestDay_33 : decode cX0_latestDay 33 = .ok (.iload_n 3, 1) := by decide +kernel
theorem dX0_latestDay_34 : decode cX0_latestDay 34 = .ok (.iaload, 1) := by decide +kernel
theorem dX0_latestDay_35 : decode cX0_latestDay 35 = .ok (.invokestatic 45, 3) := by decide +kernel
theorem dX0_latestDay_38 : decode cX0_latestDay 38 = .ok (.istore_n 2, 1) := by decide +kernel
theorem dX0_latestDay_39 : decode cX0_latestDay 39 = .ok (.iinc 3 1, 3) := by decide +kernel
theorem dX0_latestDay_42 : decode cX0_latestDay 42 = .ok (.goto (-38), 3) := by decide +kernel
theorem dX0_latestDay_45 : decode cX0_latestDay 45 = .ok (.iload_n 2, 1) := by decide +kernel
theorem dX0_latestDay_46 : decode cX0_latestDay 46 = .ok (.ireturn, 1) := by decide +kernel
theorem dX0_greatSince_0 : decode cX0_greatSince 0 = .ok (.iconst 0, 1) := by decide +kernel
theorem dX0_greatSince_1 : decode cX0_greatSince 1 = .ok (.istore_n 3, 1) := by decide +kernel
theorem dX0_greatSince_2 : decode cX0_greatSince 2 = .ok (.iconst 0, 1) := by decide +kernel
theorem dX0_greatSince_3 : decode cX0_greatSince 3 = .ok (.istore 4, 2) := by decide +kernel
theorem dX0_greatSince_5 : decode cX0_greatSince 5 = .ok (.iload 4, 2) := by decide +kernel
theorem dX0_greatSince_7 : decode cX0_greatSince 7 = .ok (.aload_n 0, 1) := by decide +kernel
theorem dX0_greatSince_8 : decode cX0_greatSince 8 = .ok (.getfield 33, 3) := by decide +kernel
theorem dX0_greatSince_11 : decode cX0_greatSince 11 = .ok (.if_icmp .ge 52, 3) := by decide +kernel
theorem dX0_greatSince_14 : decode cX0_greatSince 14 = .ok (.iload 4, 2) := by decide +kernel
theorem dX0_greatSince_16 : decode cX0_greatSince 16 = .ok (.bipush 82, 2) := by decide +kernel
theorem dX0_greatSince_18 : decode cX0_greatSince 18 = .ok (.if_icmp .ge 45, 3) := by decide +kernel
theorem dX0_greatSince_21 : decode cX0_greatSince 21 = .ok (.aload_n 0, 1) := by decide +kernel
theorem dX0_greatSince_22 : decode cX0_greatSince 22 = .ok (.getfield 11, 3) := by decide +kernel
theorem dX0_greatSince_25 : decode cX0_greatSince 25 = .ok (.iload 4, 2) := by decide +kernel
theorem dX0_greatSince_27 : decode cX0_greatSince 27 = .ok (.iaload, 1) := by decide +kernel
theorem dX0_greatSince_28 : decode cX0_greatSince 28 = .ok (.iload_n 1, 1) := by decide +kernel
theorem dX0_greatSince_29 : decode cX0_greatSince 29 = .ok (.if_icmp .ne 28, 3) := by decide +kernel
theorem dX0_greatSince_32 : decode cX0_greatSince 32 = .ok (.aload_n 0, 1) := by decide +kernel
theorem dX0_greatSince_33 : decode cX0_greatSince 33 = .ok (.getfield 27, 3) := by decide +kernel
theorem dX0_greatSince_36 : decode cX0_greatSince 36 = .ok (.iload 4, 2) := by decide +kernel
theorem dX0_greatSince_38 : decode cX0_greatSince 38 = .ok (.iaload, 1) := by decide +kernel
theorem dX0_greatSince_39 : decode cX0_greatSince 39 = .ok (.iconst 1, 1) := by decide +kernel
theorem dX0_greatSince_40 : decode cX0_greatSince 40 = .ok (.if_icmp .ne 17, 3) := by decide +kernel
theorem dX0_greatSince_43 : decode cX0_greatSince 43 = .ok (.aload_n 0, 1) := by decide +kernel
theorem dX0_greatSince_44 : decode cX0_greatSince 44 = .ok (.getfield 24, 3) := by decide +kernel
theorem dX0_greatSince_47 : decode cX0_greatSince 47 = .ok (.iload 4, 2) := by decide +kernel
theorem dX0_greatSince_49 : decode cX0_greatSince 49 = .ok (.iaload, 1) := by decide +kernel
theorem dX0_greatSince_50 : decode cX0_greatSince 50 = .ok (.iload_n 2, 1) := by decide +kernel
theorem dX0_greatSince_51 : decode cX0_greatSince 51 = .ok (.if_icmp .lt 6, 3) := by decide +kernel
theorem dX0_greatSince_54 : decode cX0_greatSince 54 = .ok (.iinc 3 1, 3) := by decide +kernel
theorem dX0_greatSince_57 : decode cX0_greatSince 57 = .ok (.iinc 4 1, 3) := by decide +kernel
theorem dX0_greatSince_60 : decode cX0_greatSince 60 = .ok (.goto (-55), 3) := by decide +kernel
theorem dX0_greatSince_63 : decode cX0_greatSince 63 = .ok (.iload_n 3, 1) := by decide +kernel
theorem dX0_greatSince_64 : decode cX0_greatSince 64 = .ok (.ireturn, 1) := by decide +kernel
theorem dX0_toShorten_0 : decode cX0_toShorten 0 = .ok (.iconst (-1), 1) := by decide +kernel
theorem dX0_toShorten_1 : decode cX0_toShorten 1 = .ok (.istore_n 3, 1) := by decide +kernel
theorem dX0_toShorten_2 : decode cX0_toShorten 2 = .ok (.iload_n 2, 1) := by decide +kernel
theorem dX0_toShorten_3 : decode cX0_toShorten 3 = .ok (.istore 4, 2) := by decide +kernel
theorem dX0_toShorten_5 : decode cX0_toShorten 5 = .ok (.iconst 0, 1) := by decide +kernel
theorem dX0_toShorten_6 : decode cX0_toShorten 6 = .ok (.istore 5, 2) := by decide +kernel
theorem dX0_toShorten_8 : decode cX0_toShorten 8 = .ok (.iload 5, 2) := by decide +kernel
theorem dX0_toShorten_10 : decode cX0_toShorten 10 = .ok (.aload_n 0, 1) := by decide +kernel
theorem dX0_toShorten_11 : decode cX0_toShorten 11 = .ok (.getfield 33, 3) := by decide +kernel
theorem dX0_toShorten_14 : decode cX0_toShorten 14 = .ok (.if_icmp .ge 61, 3) := by decide +kernel
theorem dX0_toShorten_17 : decode cX0_toShorten 17 = .ok (.iload 5, 2) := by decide +kernel
theorem dX0_toShorten_19 : decode cX0_toShorten 19 = .ok (.bipush 82, 2) := by decide +kernel
theorem dX0_toShorten_21 : decode cX0_toShorten 21 = .ok (.if_icmp .ge 54, 3) := by decide +kernel
theorem dX0_toShorten_24 : decode cX0_toShorten 24 = .ok (.aload_n 0, 1) := by decide +kernel
theorem dX0_toShorten_25 : decode cX0_toShorten 25 = .ok (.iload 5, 2) := by decide +kernel
theorem dX0_toShorten_27 : decode cX0_toShorten 27 = .ok (.iload_n 1, 1) := by decide +kernel
theorem dX0_toShorten_28 : decode cX0_toShorten 28 = .ok (.iload_n 2, 1) := by decide +kernel
theorem dX0_toShorten_29 : decode cX0_toShorten 29 = .ok (.invokevirtual 37, 3) := by decide +kernel
theorem dX0_toShorten_32 : decode cX0_toShorten 32 = .ok (.ifCond .eq 37, 3) := by decide +kernel
theorem dX0_toShorten_35 : decode cX0_toShorten 35 = .ok (.aload_n 0, 1) := by decide +kernel
theorem dX0_toShorten_36 : decode cX0_toShorten 36 = .ok (.getfield 30, 3) := by decide +kernel
theorem dX0_toShorten_39 : decode cX0_toShorten 39 = .ok (.iload 5, 2) := by decide +kernel
theorem dX0_toShorten_41 : decode cX0_toShorten 41 = .ok (.iaload, 1) := by decide +kernel
theorem dX0_toShorten_42 : decode cX0_toShorten 42 = .ok (.ifCond .ne 27, 3) := by decide +kernel
theorem dX0_toShorten_45 : decode cX0_toShorten 45 = .ok (.aload_n 0, 1) := by decide +kernel
theorem dX0_toShorten_46 : decode cX0_toShorten 46 = .ok (.getfield 18, 3) := by decide +kernel
theorem dX0_toShorten_49 : decode cX0_toShorten 49 = .ok (.iload 5, 2) := by decide +kernel
theorem dX0_toShorten_51 : decode cX0_toShorten 51 = .ok (.iaload, 1) := by decide +kernel
theorem dX0_toShorten_52 : decode cX0_toShorten 52 = .ok (.iload 4, 2) := by decide +kernel
theorem dX0_toShorten_54 : decode cX0_toShorten 54 = .ok (.if_icmp .lt 15, 3) := by decide +kernel
theorem dX0_toShorten_57 : decode cX0_toShorten 57 = .ok (.iload 5, 2) := by decide +kernel
theorem dX0_toShorten_59 : decode cX0_toShorten 59 = .ok (.istore_n 3, 1) := by decide +kernel
theorem dX0_toShorten_60 : decode cX0_toShorten 60 = .ok (.aload_n 0, 1) := by decide +kernel
theorem dX0_toShorten_61 : decode cX0_toShorten 61 = .ok (.getfield 18, 3) := by decide +kernel
theorem dX0_toShorten_64 : decode cX0_toShorten 64 = .ok (.iload 5, 2) := by decide +kernel
theorem dX0_toShorten_66 : decode cX0_toShorten 66 = .ok (.iaload, 1) := by decide +kernel
theorem dX0_toShorten_67 : decode cX0_toShorten 67 = .ok (.istore 4, 2) := by decide +kernel
theorem dX0_toShorten_69 : decode cX0_toShorten 69 = .ok (.iinc 5 1, 3) := by decide +kernel
theorem dX0_toShorten_72 : decode cX0_toShorten 72 = .ok (.goto (-64), 3) := by decide +kernel
theorem dX0_toShorten_75 : decode cX0_toShorten 75 = .ok (.iload_n 3, 1) := by decide +kernel
theorem dX0_toShorten_76 : decode cX0_toShorten 76 = .ok (.ireturn, 1) := by decide +kernel
theorem dX0_shorten_0 : decode cX0_shorten 0 = .ok (.iload_n 1, 1) := by decide +kernel
theorem dX0_shorten_1 : decode cX0_shorten 1 = .ok (.ifCond .lt 52, 3) := by decide +kernel
theorem dX0_shorten_4 : decode cX0_shorten 4 = .ok (.iload_n 1, 1) := by decide +kernel
theorem dX0_shorten_5 : decode cX0_shorten 5 = .ok (.bipush 82, 2) := by decide +kernel
theorem dX0_shorten_7 : decode cX0_shorten 7 = .ok (.if_icmp .ge 46, 3) := by decide +kernel
theorem dX0_shorten_10 : decode cX0_shorten 10 = .ok (.aload_n 0, 1) := by decide +kernel
theorem dX0_shorten_11 : decode cX0_shorten 11 = .ok (.getfield 18, 3) := by decide +kernel
theorem dX0_shorten_14 : decode cX0_shorten 14 = .ok (.iload_n 1, 1) := by decide +kernel
theorem dX0_shorten_15 : decode cX0_shorten 15 = .ok (.iaload, 1) := by decide +kernel
theorem dX0_shorten_16 : decode cX0_shorten 16 = .ok (.aload_n 0, 1) := by decide +kernel
theorem dX0_shorten_17 : decode cX0_shorten 17 = .ok (.getfield 15, 3) := by decide +kernel
theorem dX0_shorten_20 : decode cX0_shorten 20 = .ok (.iload_n 1, 1) := by decide +kernel
theorem dX0_shorten_21 : decode cX0_shorten 21 = .ok (.iaload, 1) := by decide +kernel
theorem dX0_shorten_22 : decode cX0_shorten 22 = .ok (.isub, 1) := by decide +kernel
theorem dX0_shorten_23 : decode cX0_shorten 23 = .ok (.iconst 1, 1) := by decide +kernel
theorem dX0_shorten_24 : decode cX0_shorten 24 = .ok (.iadd, 1) := by decide +kernel
theorem dX0_shorten_25 : decode cX0_shorten 25 = .ok (.istore_n 3, 1) := by decide +kernel
theorem dX0_shorten_26 : decode cX0_shorten 26 = .ok (.aload_n 0, 1) := by decide +kernel
theorem dX0_shorten_27 : decode cX0_shorten 27 = .ok (.getfield 18, 3) := by decide +kernel
theorem dX0_shorten_30 : decode cX0_shorten 30 = .ok (.iload_n 1, 1) := by decide +kernel
theorem dX0_shorten_31 : decode cX0_shorten 31 = .ok (.aload_n 0, 1) := by decide +kernel
theorem dX0_shorten_32 : decode cX0_shorten 32 = .ok (.getfield 18, 3) := by decide +kernel
theorem dX0_shorten_35 : decode cX0_shorten 35 = .ok (.iload_n 1, 1) := by decide +kernel
theorem dX0_shorten_36 : decode cX0_shorten 36 = .ok (.iaload, 1) := by decide +kernel
theorem dX0_shorten_37 : decode cX0_shorten 37 = .ok (.iload_n 3, 1) := by decide +kernel
theorem dX0_shorten_38 : decode cX0_shorten 38 = .ok (.iconst 4, 1) := by decide +kernel
theorem dX0_shorten_39 : decode cX0_shorten 39 = .ok (.idiv, 1) := by decide +kernel
theorem dX0_shorten_40 : decode cX0_shorten 40 = .ok (.isub, 1) := by decide +kernel
theorem dX0_shorten_41 : decode cX0_shorten 41 = .ok (.iload_n 2, 1) := by decide +kernel
theorem dX0_shorten_42 : decode cX0_shorten 42 = .ok (.invokestatic 45, 3) := by decide +kernel
theorem dX0_shorten_45 : decode cX0_shorten 45 = .ok (.iastore, 1) := by decide +kernel
theorem dX0_shorten_46 : decode cX0_shorten 46 = .ok (.aload_n 0, 1) := by decide +kernel
theorem dX0_shorten_47 : decode cX0_shorten 47 = .ok (.getfield 30, 3) := by decide +kernel
theorem dX0_shorten_50 : decode cX0_shorten 50 = .ok (.iload_n 1, 1) := by decide +kernel
theorem dX0_shorten_51 : decode cX0_shorten 51 = .ok (.iconst 1, 1) := by decide +kernel
theorem dX0_shorten_52 : decode cX0_shorten 52 = .ok (.iastore, 1) := by decide +kernel
theorem dX0_shorten_53 : decode cX0_shorten 53 = .ok (.return_, 1) := by decide +kernel
theorem dX0_givenTo_0 : decode cX0_givenTo 0 = .ok (.iconst 0, 1) := by decide +kernel
theorem dX0_givenTo_1 : decode cX0_givenTo 1 = .ok (.istore_n 2, 1) := by decide +kernel
theorem dX0_givenTo_2 : decode cX0_givenTo 2 = .ok (.iconst 0, 1) := by decide +kernel
theorem dX0_givenTo_3 : decode cX0_givenTo 3 = .ok (.istore_n 3, 1) := by decide +kernel
theorem dX0_givenTo_4 : decode cX0_givenTo 4 = .ok (.iload_n 3, 1) := by decide +kernel
theorem dX0_givenTo_5 : decode cX0_givenTo 5 = .ok (.aload_n 0, 1) := by decide +kernel
theorem dX0_givenTo_6 : decode cX0_givenTo 6 = .ok (.getfield 33, 3) := by decide +kernel
theorem dX0_givenTo_9 : decode cX0_givenTo 9 = .ok (.if_icmp .ge 28, 3) := by decide +kernel
theorem dX0_givenTo_12 : decode cX0_givenTo 12 = .ok (.iload_n 3, 1) := by decide +kernel
theorem dX0_givenTo_13 : decode cX0_givenTo 13 = .ok (.bipush 82, 2) := by decide +kernel
theorem dX0_givenTo_15 : decode cX0_givenTo 15 = .ok (.if_icmp .ge 22, 3) := by decide +kernel
theorem dX0_givenTo_18 : decode cX0_givenTo 18 = .ok (.aload_n 0, 1) := by decide +kernel
theorem dX0_givenTo_19 : decode cX0_givenTo 19 = .ok (.getfield 11, 3) := by decide +kernel
theorem dX0_givenTo_22 : decode cX0_givenTo 22 = .ok (.iload_n 3, 1) := by decide +kernel
theorem dX0_givenTo_23 : decode cX0_givenTo 23 = .ok (.iaload, 1) := by decide +kernel
theorem dX0_givenTo_24 : decode cX0_givenTo 24 = .ok (.iload_n 1, 1) := by decide +kernel
theorem dX0_givenTo_25 : decode cX0_givenTo 25 = .ok (.if_icmp .ne 6, 3) := by decide +kernel
theorem dX0_givenTo_28 : decode cX0_givenTo 28 = .ok (.iinc 2 1, 3) := by decide +kernel
theorem dX0_givenTo_31 : decode cX0_givenTo 31 = .ok (.iinc 3 1, 3) := by decide +kernel
theorem dX0_givenTo_34 : decode cX0_givenTo 34 = .ok (.goto (-30), 3) := by decide +kernel
theorem dX0_givenTo_37 : decode cX0_givenTo 37 = .ok (.iload_n 2, 1) := by decide +kernel
theorem dX0_givenTo_38 : decode cX0_givenTo 38 = .ok (.ireturn, 1) := by decide +kernel
theorem dX0_placeOf_0 : decode cX0_placeOf 0 = .ok (.iconst 0, 1) := by decide +kernel
theorem dX0_placeOf_1 : decode cX0_placeOf 1 = .ok (.istore_n 3, 1) := by decide +kernel
theorem dX0_placeOf_2 : decode cX0_placeOf 2 = .ok (.iconst 0, 1) := by decide +kernel
theorem dX0_placeOf_3 : decode cX0_placeOf 3 = .ok (.istore 4, 2) := by decide +kernel
theorem dX0_placeOf_5 : decode cX0_placeOf 5 = .ok (.iload 4, 2) := by decide +kernel
theorem dX0_placeOf_7 : decode cX0_placeOf 7 = .ok (.aload_n 0, 1) := by decide +kernel
theorem dX0_placeOf_8 : decode cX0_placeOf 8 = .ok (.getfield 33, 3) := by decide +kernel
theorem dX0_placeOf_11 : decode cX0_placeOf 11 = .ok (.if_icmp .ge 38, 3) := by decide +kernel
theorem dX0_placeOf_14 : decode cX0_placeOf 14 = .ok (.iload 4, 2) := by decide +kernel
theorem dX0_placeOf_16 : decode cX0_placeOf 16 = .ok (.bipush 82, 2) := by decide +kernel
theorem dX0_placeOf_18 : decode cX0_placeOf 18 = .ok (.if_icmp .ge 31, 3) := by decide +kernel
theorem dX0_placeOf_21 : decode cX0_placeOf 21 = .ok (.aload_n 0, 1) := by decide +kernel
theorem dX0_placeOf_22 : decode cX0_placeOf 22 = .ok (.getfield 11, 3) := by decide +kernel
theorem dX0_placeOf_25 : decode cX0_placeOf 25 = .ok (.iload 4, 2) := by decide +kernel
theorem dX0_placeOf_27 : decode cX0_placeOf 27 = .ok (.iaload, 1) := by decide +kernel
theorem dX0_placeOf_28 : decode cX0_placeOf 28 = .ok (.iload_n 1, 1) := by decide +kernel
theorem dX0_placeOf_29 : decode cX0_placeOf 29 = .ok (.if_icmp .ne 14, 3) := by decide +kernel
theorem dX0_placeOf_32 : decode cX0_placeOf 32 = .ok (.iload_n 3, 1) := by decide +kernel
theorem dX0_placeOf_33 : decode cX0_placeOf 33 = .ok (.iload_n 2, 1) := by decide +kernel
theorem dX0_placeOf_34 : decode cX0_placeOf 34 = .ok (.if_icmp .ne 6, 3) := by decide +kernel
theorem dX0_placeOf_37 : decode cX0_placeOf 37 = .ok (.iload 4, 2) := by decide +kernel
theorem dX0_placeOf_39 : decode cX0_placeOf 39 = .ok (.ireturn, 1) := by decide +kernel
theorem dX0_placeOf_40 : decode cX0_placeOf 40 = .ok (.iinc 3 1, 3) := by decide +kernel
theorem dX0_placeOf_43 : decode cX0_placeOf 43 = .ok (.iinc 4 1, 3) := by decide +kernel
theorem dX0_placeOf_46 : decode cX0_placeOf 46 = .ok (.goto (-41), 3) := by decide +kernel
theorem dX0_placeOf_49 : decode cX0_placeOf 49 = .ok (.iconst (-1), 1) := by decide +kernel
theorem dX0_placeOf_50 : decode cX0_placeOf 50 = .ok (.ireturn, 1) := by decide +kernel
theorem dX0_tellOf_0 : decode cX0_tellOf 0 = .ok (.iload_n 1, 1) := by decide +kernel
theorem dX0_tellOf_1 : decode cX0_tellOf 1 = .ok (.ifCond .lt 9, 3) := by decide +kernel
theorem dX0_tellOf_4 : decode cX0_tellOf 4 = .ok (.iload_n 1, 1) := by decide +kernel
theorem dX0_tellOf_5 : decode cX0_tellOf 5 = .ok (.bipush 82, 2) := by decide +kernel
theorem dX0_tellOf_7 : decode cX0_tellOf 7 = .ok (.if_icmp .lt 6, 3) := by decide +kernel
theorem dX0_tellOf_10 : decode cX0_tellOf 10 = .ok (.bipush (-4), 2) := by decide +kernel
theorem dX0_tellOf_12 : decode cX0_tellOf 12 = .ok (.ireturn, 1) := by decide +kernel
theorem dX0_tellOf_13 : decode cX0_tellOf 13 = .ok (.iload_n 2, 1) := by decide +kernel
theorem dX0_tellOf_14 : decode cX0_tellOf 14 = .ok (.tableswitch 67 0 3 #[30, 37, 53, 60], 30) := by decide +kernel
theorem dX0_tellOf_44 : decode cX0_tellOf 44 = .ok (.aload_n 0, 1) := by decide +kernel
theorem dX0_tellOf_45 : decode cX0_tellOf 45 = .ok (.getfield 15, 3) := by decide +kernel
theorem dX0_tellOf_48 : decode cX0_tellOf 48 = .ok (.iload_n 1, 1) := by decide +kernel
theorem dX0_tellOf_49 : decode cX0_tellOf 49 = .ok (.iaload, 1) := by decide +kernel
theorem dX0_tellOf_50 : decode cX0_tellOf 50 = .ok (.ireturn, 1) := by decide +kernel
theorem dX0_tellOf_51 : decode cX0_tellOf 51 = .ok (.aload_n 0, 1) := by decide +kernel
theorem dX0_tellOf_52 : decode cX0_tellOf 52 = .ok (.getfield 18, 3) := by decide +kernel
theorem dX0_tellOf_55 : decode cX0_tellOf 55 = .ok (.iload_n 1, 1) := by decide +kernel
theorem dX0_tellOf_56 : decode cX0_tellOf 56 = .ok (.iaload, 1) := by decide +kernel
theorem dX0_tellOf_57 : decode cX0_tellOf 57 = .ok (.aload_n 0, 1) := by decide +kernel
theorem dX0_tellOf_58 : decode cX0_tellOf 58 = .ok (.getfield 15, 3) := by decide +kernel
theorem dX0_tellOf_61 : decode cX0_tellOf 61 = .ok (.iload_n 1, 1) := by decide +kernel
theorem dX0_tellOf_62 : decode cX0_tellOf 62 = .ok (.iaload, 1) := by decide +kernel
theorem dX0_tellOf_63 : decode cX0_tellOf 63 = .ok (.isub, 1) := by decide +kernel
theorem dX0_tellOf_64 : decode cX0_tellOf 64 = .ok (.iconst 1, 1) := by decide +kernel
theorem dX0_tellOf_65 : decode cX0_tellOf 65 = .ok (.iadd, 1) := by decide +kernel
theorem dX0_tellOf_66 : decode cX0_tellOf 66 = .ok (.ireturn, 1) := by decide +kernel
theorem dX0_tellOf_67 : decode cX0_tellOf 67 = .ok (.aload_n 0, 1) := by decide +kernel
theorem dX0_tellOf_68 : decode cX0_tellOf 68 = .ok (.getfield 21, 3) := by decide +kernel
theorem dX0_tellOf_71 : decode cX0_tellOf 71 = .ok (.iload_n 1, 1) := by decide +kernel
theorem dX0_tellOf_72 : decode cX0_tellOf 72 = .ok (.iaload, 1) := by decide +kernel
theorem dX0_tellOf_73 : decode cX0_tellOf 73 = .ok (.ireturn, 1) := by decide +kernel
theorem dX0_tellOf_74 : decode cX0_tellOf 74 = .ok (.aload_n 0, 1) := by decide +kernel
theorem dX0_tellOf_75 : decode cX0_tellOf 75 = .ok (.getfield 27, 3) := by decide +kernel
theorem dX0_tellOf_78 : decode cX0_tellOf 78 = .ok (.iload_n 1, 1) := by decide +kernel
theorem dX0_tellOf_79 : decode cX0_tellOf 79 = .ok (.iaload, 1) := by decide +kernel
theorem dX0_tellOf_80 : decode cX0_tellOf 80 = .ok (.ireturn, 1) := by decide +kernel
theorem dX0_tellOf_81 : decode cX0_tellOf 81 = .ok (.aload_n 0, 1) := by decide +kernel
theorem dX0_tellOf_82 : decode cX0_tellOf 82 = .ok (.getfield 30, 3) := by decide +kernel
theorem dX0_tellOf_85 : decode cX0_tellOf 85 = .ok (.iload_n 1, 1) := by decide +kernel
theorem dX0_tellOf_86 : decode cX0_tellOf 86 = .ok (.iaload, 1) := by decide +kernel
theorem dX0_tellOf_87 : decode cX0_tellOf 87 = .ok (.ireturn, 1) := by decide +kernel
theorem dX1_note_0 : decode cX1_note 0 = .ok (.aload_n 0, 1) := by decide +kernel
theorem dX1_note_1 : decode cX1_note 1 = .ok (.getfield 21, 3) := by decide +kernel
theorem dX1_note_4 : decode cX1_note 4 = .ok (.bipush 6, 2) := by decide +kernel
theorem dX1_note_6 : decode cX1_note 6 = .ok (.if_icmp .lt 7, 3) := by decide +kernel
theorem dX1_note_9 : decode cX1_note 9 = .ok (.aload_n 0, 1) := by decide +kernel
theorem dX1_note_10 : decode cX1_note 10 = .ok (.invokevirtual 25, 3) := by decide +kernel
theorem dX1_note_13 : decode cX1_note 13 = .ok (.aload_n 0, 1) := by decide +kernel
theorem dX1_note_14 : decode cX1_note 14 = .ok (.getfield 21, 3) := by decide +kernel
theorem dX1_note_17 : decode cX1_note 17 = .ok (.ifCond .lt 52, 3) := by decide +kernel
theorem dX1_note_20 : decode cX1_note 20 = .ok (.aload_n 0, 1) := by decide +kernel
theorem dX1_note_21 : decode cX1_note 21 = .ok (.getfield 21, 3) := by decide +kernel
theorem dX1_note_24 : decode cX1_note 24 = .ok (.bipush 6, 2) := by decide +kernel
theorem dX1_note_26 : decode cX1_note 26 = .ok (.if_icmp .ge 43, 3) := by decide +kernel
theorem dX1_note_29 : decode cX1_note 29 = .ok (.aload_n 0, 1) := by decide +kernel
theorem dX1_note_30 : decode cX1_note 30 = .ok (.getfield 9, 3) := by decide +kernel
theorem dX1_note_33 : decode cX1_note 33 = .ok (.aload_n 0, 1) := by decide +kernel
theorem dX1_note_34 : decode cX1_note 34 = .ok (.getfield 21, 3) := by decide +kernel
theorem dX1_note_37 : decode cX1_note 37 = .ok (.iload_n 1, 1) := by decide +kernel
theorem dX1_note_38 : decode cX1_note 38 = .ok (.iastore, 1) := by decide +kernel
theorem dX1_note_39 : decode cX1_note 39 = .ok (.aload_n 0, 1) := by decide +kernel
theorem dX1_note_40 : decode cX1_note 40 = .ok (.getfield 15, 3) := by decide +kernel
theorem dX1_note_43 : decode cX1_note 43 = .ok (.aload_n 0, 1) := by decide +kernel
theorem dX1_note_44 : decode cX1_note 44 = .ok (.getfield 21, 3) := by decide +kernel
theorem dX1_note_47 : decode cX1_note 47 = .ok (.iload_n 2, 1) := by decide +kernel
theorem dX1_note_48 : decode cX1_note 48 = .ok (.iastore, 1) := by decide +kernel
theorem dX1_note_49 : decode cX1_note 49 = .ok (.aload_n 0, 1) := by decide +kernel
theorem dX1_note_50 : decode cX1_note 50 = .ok (.getfield 18, 3) := by decide +kernel
theorem dX1_note_53 : decode cX1_note 53 = .ok (.aload_n 0, 1) := by decide +kernel
theorem dX1_note_54 : decode cX1_note 54 = .ok (.getfield 21, 3) := by decide +kernel
theorem dX1_note_57 : decode cX1_note 57 = .ok (.iload_n 3, 1) := by decide +kernel
theorem dX1_note_58 : decode cX1_note 58 = .ok (.iastore, 1) := by decide +kernel
theorem dX1_note_59 : decode cX1_note 59 = .ok (.aload_n 0, 1) := by decide +kernel
theorem dX1_note_60 : decode cX1_note 60 = .ok (.dup, 1) := by decide +kernel
theorem dX1_note_61 : decode cX1_note 61 = .ok (.getfield 21, 3) := by decide +kernel
theorem dX1_note_64 : decode cX1_note 64 = .ok (.iconst 1, 1) := by decide +kernel
theorem dX1_note_65 : decode cX1_note 65 = .ok (.iadd, 1) := by decide +kernel
theorem dX1_note_66 : decode cX1_note 66 = .ok (.putfield 21, 3) := by decide +kernel
theorem dX1_note_69 : decode cX1_note 69 = .ok (.return_, 1) := by decide +kernel
theorem dX1_forgetOldest_0 : decode cX1_forgetOldest 0 = .ok (.iconst 1, 1) := by decide +kernel
theorem dX1_forgetOldest_1 : decode cX1_forgetOldest 1 = .ok (.istore_n 1, 1) := by decide +kernel
theorem dX1_forgetOldest_2 : decode cX1_forgetOldest 2 = .ok (.iload_n 1, 1) := by decide +kernel
theorem dX1_forgetOldest_3 : decode cX1_forgetOldest 3 = .ok (.bipush 6, 2) := by decide +kernel
theorem dX1_forgetOldest_5 : decode cX1_forgetOldest 5 = .ok (.if_icmp .ge 51, 3) := by decide +kernel
theorem dX1_forgetOldest_8 : decode cX1_forgetOldest 8 = .ok (.aload_n 0, 1) := by decide +kernel
theorem dX1_forgetOldest_9 : decode cX1_forgetOldest 9 = .ok (.getfield 9, 3) := by decide +kernel
theorem dX1_forgetOldest_12 : decode cX1_forgetOldest 12 = .ok (.iload_n 1, 1) := by decide +kernel
theorem dX1_forgetOldest_13 : decode cX1_forgetOldest 13 = .ok (.iconst 1, 1) := by decide +kernel
theorem dX1_forgetOldest_14 : decode cX1_forgetOldest 14 = .ok (.isub, 1) := by decide +kernel
theorem dX1_forgetOldest_15 : decode cX1_forgetOldest 15 = .ok (.aload_n 0, 1) := by decide +kernel
theorem dX1_forgetOldest_16 : decode cX1_forgetOldest 16 = .ok (.getfield 9, 3) := by decide +kernel
theorem dX1_forgetOldest_19 : decode cX1_forgetOldest 19 = .ok (.iload_n 1, 1) := by decide +kernel
theorem dX1_forgetOldest_20 : decode cX1_forgetOldest 20 = .ok (.iaload, 1) := by decide +kernel
theorem dX1_forgetOldest_21 : decode cX1_forgetOldest 21 = .ok (.iastore, 1) := by decide +kernel
theorem dX1_forgetOldest_22 : decode cX1_forgetOldest 22 = .ok (.aload_n 0, 1) := by decide +kernel
theorem dX1_forgetOldest_23 : decode cX1_forgetOldest 23 = .ok (.getfield 15, 3) := by decide +kernel
theorem dX1_forgetOldest_26 : decode cX1_forgetOldest 26 = .ok (.iload_n 1, 1) := by decide +kernel
theorem dX1_forgetOldest_27 : decode cX1_forgetOldest 27 = .ok (.iconst 1, 1) := by decide +kernel
theorem dX1_forgetOldest_28 : decode cX1_forgetOldest 28 = .ok (.isub, 1) := by decide +kernel
theorem dX1_forgetOldest_29 : decode cX1_forgetOldest 29 = .ok (.aload_n 0, 1) := by decide +kernel
theorem dX1_forgetOldest_30 : decode cX1_forgetOldest 30 = .ok (.getfield 15, 3) := by decide +kernel
theorem dX1_forgetOldest_33 : decode cX1_forgetOldest 33 = .ok (.iload_n 1, 1) := by decide +kernel
theorem dX1_forgetOldest_34 : decode cX1_forgetOldest 34 = .ok (.iaload, 1) := by decide +kernel
theorem dX1_forgetOldest_35 : decode cX1_forgetOldest 35 = .ok (.iastore, 1) := by decide +kernel
theorem dX1_forgetOldest_36 : decode cX1_forgetOldest 36 = .ok (.aload_n 0, 1) := by decide +kernel
theorem dX1_forgetOldest_37 : decode cX1_forgetOldest 37 = .ok (.getfield 18, 3) := by decide +kernel
theorem dX1_forgetOldest_40 : decode cX1_forgetOldest 40 = .ok (.iload_n 1, 1) := by decide +kernel
theorem dX1_forgetOldest_41 : decode cX1_forgetOldest 41 = .ok (.iconst 1, 1) := by decide +kernel
theorem dX1_forgetOldest_42 : decode cX1_forgetOldest 42 = .ok (.isub, 1) := by decide +kernel
theorem dX1_forgetOldest_43 : decode cX1_forgetOldest 43 = .ok (.aload_n 0, 1) := by decide +kernel
theorem dX1_forgetOldest_44 : decode cX1_forgetOldest 44 = .ok (.getfield 18, 3) := by decide +kernel
theorem dX1_forgetOldest_47 : decode cX1_forgetOldest 47 = .ok (.iload_n 1, 1) := by decide +kernel
theorem dX1_forgetOldest_48 : decode cX1_forgetOldest 48 = .ok (.iaload, 1) := by decide +kernel
theorem dX1_forgetOldest_49 : decode cX1_forgetOldest 49 = .ok (.iastore, 1) := by decide +kernel
theorem dX1_forgetOldest_50 : decode cX1_forgetOldest 50 = .ok (.iinc 1 1, 3) := by decide +kernel
theorem dX1_forgetOldest_53 : decode cX1_forgetOldest 53 = .ok (.goto (-51), 3) := by decide +kernel
theorem dX1_forgetOldest_56 : decode cX1_forgetOldest 56 = .ok (.aload_n 0, 1) := by decide +kernel
theorem dX1_forgetOldest_57 : decode cX1_forgetOldest 57 = .ok (.iconst 5, 1) := by decide +kernel
theorem dX1_forgetOldest_58 : decode cX1_forgetOldest 58 = .ok (.putfield 21, 3) := by decide +kernel
theorem dX1_forgetOldest_61 : decode cX1_forgetOldest 61 = .ok (.return_, 1) := by decide +kernel
theorem dX1_dropLast_0 : decode cX1_dropLast 0 = .ok (.aload_n 0, 1) := by decide +kernel
theorem dX1_dropLast_1 : decode cX1_dropLast 1 = .ok (.getfield 21, 3) := by decide +kernel
theorem dX1_dropLast_4 : decode cX1_dropLast 4 = .ok (.iconst 1, 1) := by decide +kernel
theorem dX1_dropLast_5 : decode cX1_dropLast 5 = .ok (.if_icmp .lt 12, 3) := by decide +kernel
theorem dX1_dropLast_8 : decode cX1_dropLast 8 = .ok (.aload_n 0, 1) := by decide +kernel
theorem dX1_dropLast_9 : decode cX1_dropLast 9 = .ok (.getfield 21, 3) := by decide +kernel
theorem dX1_dropLast_12 : decode cX1_dropLast 12 = .ok (.bipush 6, 2) := by decide +kernel
theorem dX1_dropLast_14 : decode cX1_dropLast 14 = .ok (.if_icmp .le 5, 3) := by decide +kernel
theorem dX1_dropLast_17 : decode cX1_dropLast 17 = .ok (.iconst 0, 1) := by decide +kernel
theorem dX1_dropLast_18 : decode cX1_dropLast 18 = .ok (.ireturn, 1) := by decide +kernel
theorem dX1_dropLast_19 : decode cX1_dropLast 19 = .ok (.aload_n 0, 1) := by decide +kernel
theorem dX1_dropLast_20 : decode cX1_dropLast 20 = .ok (.dup, 1) := by decide +kernel
theorem dX1_dropLast_21 : decode cX1_dropLast 21 = .ok (.getfield 21, 3) := by decide +kernel
theorem dX1_dropLast_24 : decode cX1_dropLast 24 = .ok (.iconst 1, 1) := by decide +kernel
theorem dX1_dropLast_25 : decode cX1_dropLast 25 = .ok (.isub, 1) := by decide +kernel
theorem dX1_dropLast_26 : decode cX1_dropLast 26 = .ok (.putfield 21, 3) := by decide +kernel
theorem dX1_dropLast_29 : decode cX1_dropLast 29 = .ok (.aload_n 0, 1) := by decide +kernel
theorem dX1_dropLast_30 : decode cX1_dropLast 30 = .ok (.aload_n 0, 1) := by decide +kernel
theorem dX1_dropLast_31 : decode cX1_dropLast 31 = .ok (.getfield 9, 3) := by decide +kernel
theorem dX1_dropLast_34 : decode cX1_dropLast 34 = .ok (.aload_n 0, 1) := by decide +kernel
theorem dX1_dropLast_35 : decode cX1_dropLast 35 = .ok (.getfield 21, 3) := by decide +kernel
theorem dX1_dropLast_38 : decode cX1_dropLast 38 = .ok (.iaload, 1) := by decide +kernel
theorem dX1_dropLast_39 : decode cX1_dropLast 39 = .ok (.putfield 28, 3) := by decide +kernel
theorem dX1_dropLast_42 : decode cX1_dropLast 42 = .ok (.aload_n 0, 1) := by decide +kernel
theorem dX1_dropLast_43 : decode cX1_dropLast 43 = .ok (.aload_n 0, 1) := by decide +kernel
theorem dX1_dropLast_44 : decode cX1_dropLast 44 = .ok (.getfield 15, 3) := by decide +kernel
theorem dX1_dropLast_47 : decode cX1_dropLast 47 = .ok (.aload_n 0, 1) := by decide +kernel
theorem dX1_dropLast_48 : decode cX1_dropLast 48 = .ok (.getfield 21, 3) := by decide +kernel
theorem dX1_dropLast_51 : decode cX1_dropLast 51 = .ok (.iaload, 1) := by decide +kernel
theorem dX1_dropLast_52 : decode cX1_dropLast 52 = .ok (.putfield 31, 3) := by decide +kernel
theorem dX1_dropLast_55 : decode cX1_dropLast 55 = .ok (.aload_n 0, 1) := by decide +kernel
theorem dX1_dropLast_56 : decode cX1_dropLast 56 = .ok (.aload_n 0, 1) := by decide +kernel
theorem dX1_dropLast_57 : decode cX1_dropLast 57 = .ok (.getfield 18, 3) := by decide +kernel
theorem dX1_dropLast_60 : decode cX1_dropLast 60 = .ok (.aload_n 0, 1) := by decide +kernel
theorem dX1_dropLast_61 : decode cX1_dropLast 61 = .ok (.getfield 21, 3) := by decide +kernel
theorem dX1_dropLast_64 : decode cX1_dropLast 64 = .ok (.iaload, 1) := by decide +kernel
theorem dX1_dropLast_65 : decode cX1_dropLast 65 = .ok (.putfield 34, 3) := by decide +kernel
theorem dX1_dropLast_68 : decode cX1_dropLast 68 = .ok (.iconst 1, 1) := by decide +kernel
theorem dX1_dropLast_69 : decode cX1_dropLast 69 = .ok (.ireturn, 1) := by decide +kernel
theorem dX2_isThere_0 : decode cX2_isThere 0 = .ok (.iload_n 1, 1) := by decide +kernel
theorem dX2_isThere_1 : decode cX2_isThere 1 = .ok (.ifCond .lt 21, 3) := by decide +kernel
theorem dX2_isThere_4 : decode cX2_isThere 4 = .ok (.iload_n 1, 1) := by decide +kernel
theorem dX2_isThere_5 : decode cX2_isThere 5 = .ok (.aload_n 0, 1) := by decide +kernel
theorem dX2_isThere_6 : decode cX2_isThere 6 = .ok (.getfield 48, 3) := by decide +kernel
theorem dX2_isThere_9 : decode cX2_isThere 9 = .ok (.if_icmp .ge 13, 3) := by decide +kernel
theorem dX2_isThere_12 : decode cX2_isThere 12 = .ok (.iload_n 1, 1) := by decide +kernel
theorem dX2_isThere_13 : decode cX2_isThere 13 = .ok (.bipush 41, 2) := by decide +kernel
theorem dX2_isThere_15 : decode cX2_isThere 15 = .ok (.if_icmp .ge 7, 3) := by decide +kernel
theorem dX2_isThere_18 : decode cX2_isThere 18 = .ok (.iconst 1, 1) := by decide +kernel
theorem dX2_isThere_19 : decode cX2_isThere 19 = .ok (.goto 4, 3) := by decide +kernel
theorem dX2_isThere_22 : decode cX2_isThere 22 = .ok (.iconst 0, 1) := by decide +kernel
theorem dX2_isThere_23 : decode cX2_isThere 23 = .ok (.ireturn, 1) := by decide +kernel
theorem dX2_isConviction_0 : decode cX2_isConviction 0 = .ok (.aload_n 0, 1) := by decide +kernel
theorem dX2_isConviction_1 : decode cX2_isConviction 1 = .ok (.iload_n 1, 1) := by decide +kernel
theorem dX2_isConviction_2 : decode cX2_isConviction 2 = .ok (.invokevirtual 52, 3) := by decide +kernel
theorem dX2_isConviction_5 : decode cX2_isConviction 5 = .ok (.ifCond .eq 16, 3) := by decide +kernel
theorem dX2_isConviction_8 : decode cX2_isConviction 8 = .ok (.aload_n 0, 1) := by decide +kernel
theorem dX2_isConviction_9 : decode cX2_isConviction 9 = .ok (.getfield 18, 3) := by decide +kernel
theorem dX2_isConviction_12 : decode cX2_isConviction 12 = .ok (.iload_n 1, 1) := by decide +kernel
theorem dX2_isConviction_13 : decode cX2_isConviction 13 = .ok (.iaload, 1) := by decide +kernel
theorem dX2_isConviction_14 : decode cX2_isConviction 14 = .ok (.ifCond .ne 7, 3) := by decide +kernel
theorem dX2_isConviction_17 : decode cX2_isConviction 17 = .ok (.iconst 1, 1) := by decide +kernel
theorem dX2_isConviction_18 : decode cX2_isConviction 18 = .ok (.goto 4, 3) := by decide +kernel
theorem dX2_isConviction_21 : decode cX2_isConviction 21 = .ok (.iconst 0, 1) := by decide +kernel
theorem dX2_isConviction_22 : decode cX2_isConviction 22 = .ok (.ireturn, 1) := by decide +kernel
theorem dX2_addConviction_0 : decode cX2_addConviction 0 = .ok (.aload_n 0, 1) := by decide +kernel
theorem dX2_addConviction_1 : decode cX2_addConviction 1 = .ok (.getfield 48, 3) := by decide +kernel
theorem dX2_addConviction_4 : decode cX2_addConviction 4 = .ok (.ifCond .lt 12, 3) := by decide +kernel
theorem dX2_addConviction_7 : decode cX2_addConviction 7 = .ok (.aload_n 0, 1) := by decide +kernel
theorem dX2_addConviction_8 : decode cX2_addConviction 8 = .ok (.getfield 48, 3) := by decide +kernel
theorem dX2_addConviction_11 : decode cX2_addConviction 11 = .ok (.bipush 41, 2) := by decide +kernel
theorem dX2_addConviction_13 : decode cX2_addConviction 13 = .ok (.if_icmp .lt 4, 3) := by decide +kernel
theorem dX2_addConviction_16 : decode cX2_addConviction 16 = .ok (.return_, 1) := by decide +kernel
theorem dX2_addConviction_17 : decode cX2_addConviction 17 = .ok (.aload_n 0, 1) := by decide +kernel
theorem dX2_addConviction_18 : decode cX2_addConviction 18 = .ok (.getfield 11, 3) := by decide +kernel
theorem dX2_addConviction_21 : decode cX2_addConviction 21 = .ok (.aload_n 0, 1) := by decide +kernel
theorem dX2_addConviction_22 : decode cX2_addConviction 22 = .ok (.getfield 48, 3) := by decide +kernel
theorem dX2_addConviction_25 : decode cX2_addConviction 25 = .ok (.iload_n 1, 1) := by decide +kernel
theorem dX2_addConviction_26 : decode cX2_addConviction 26 = .ok (.iastore, 1) := by decide +kernel
theorem dX2_addConviction_27 : decode cX2_addConviction 27 = .ok (.aload_n 0, 1) := by decide +kernel
theorem dX2_addConviction_28 : decode cX2_addConviction 28 = .ok (.getfield 15, 3) := by decide +kernel
theorem dX2_addConviction_31 : decode cX2_addConviction 31 = .ok (.aload_n 0, 1) := by decide +kernel
theorem dX2_addConviction_32 : decode cX2_addConviction 32 = .ok (.getfield 48, 3) := by decide +kernel
theorem dX2_addConviction_35 : decode cX2_addConviction 35 = .ok (.iload_n 2, 1) := by decide +kernel
theorem dX2_addConviction_36 : decode cX2_addConviction 36 = .ok (.iastore, 1) := by decide +kernel
theorem dX2_addConviction_37 : decode cX2_addConviction 37 = .ok (.aload_n 0, 1) := by decide +kernel
theorem dX2_addConviction_38 : decode cX2_addConviction 38 = .ok (.getfield 18, 3) := by decide +kernel
theorem dX2_addConviction_41 : decode cX2_addConviction 41 = .ok (.aload_n 0, 1) := by decide +kernel
theorem dX2_addConviction_42 : decode cX2_addConviction 42 = .ok (.getfield 48, 3) := by decide +kernel
theorem dX2_addConviction_45 : decode cX2_addConviction 45 = .ok (.iconst 0, 1) := by decide +kernel
theorem dX2_addConviction_46 : decode cX2_addConviction 46 = .ok (.iastore, 1) := by decide +kernel
theorem dX2_addConviction_47 : decode cX2_addConviction 47 = .ok (.aload_n 0, 1) := by decide +kernel
theorem dX2_addConviction_48 : decode cX2_addConviction 48 = .ok (.getfield 21, 3) := by decide +kernel
theorem dX2_addConviction_51 : decode cX2_addConviction 51 = .ok (.aload_n 0, 1) := by decide +kernel
theorem dX2_addConviction_52 : decode cX2_addConviction 52 = .ok (.getfield 48, 3) := by decide +kernel
theorem dX2_addConviction_55 : decode cX2_addConviction 55 = .ok (.iload_n 3, 1) := by decide +kernel
theorem dX2_addConviction_56 : decode cX2_addConviction 56 = .ok (.iastore, 1) := by decide +kernel
theorem dX2_addConviction_57 : decode cX2_addConviction 57 = .ok (.aload_n 0, 1) := by decide +kernel
theorem dX2_addConviction_58 : decode cX2_addConviction 58 = .ok (.getfield 24, 3) := by decide +kernel
theorem dX2_addConviction_61 : decode cX2_addConviction 61 = .ok (.aload_n 0, 1) := by decide +kernel
theorem dX2_addConviction_62 : decode cX2_addConviction 62 = .ok (.getfield 48, 3) := by decide +kernel
theorem dX2_addConviction_65 : decode cX2_addConviction 65 = .ok (.iload 4, 2) := by decide +kernel
theorem dX2_addConviction_67 : decode cX2_addConviction 67 = .ok (.iastore, 1) := by decide +kernel
theorem dX2_addConviction_68 : decode cX2_addConviction 68 = .ok (.aload_n 0, 1) := by decide +kernel
theorem dX2_addConviction_69 : decode cX2_addConviction 69 = .ok (.getfield 27, 3) := by decide +kernel
theorem dX2_addConviction_72 : decode cX2_addConviction 72 = .ok (.aload_n 0, 1) := by decide +kernel
theorem dX2_addConviction_73 : decode cX2_addConviction 73 = .ok (.getfield 48, 3) := by decide +kernel
theorem dX2_addConviction_76 : decode cX2_addConviction 76 = .ok (.iload 5, 2) := by decide +kernel
theorem dX2_addConviction_78 : decode cX2_addConviction 78 = .ok (.iastore, 1) := by decide +kernel
theorem dX2_addConviction_79 : decode cX2_addConviction 79 = .ok (.aload_n 0, 1) := by decide +kernel
theorem dX2_addConviction_80 : decode cX2_addConviction 80 = .ok (.getfield 30, 3) := by decide +kernel
theorem dX2_addConviction_83 : decode cX2_addConviction 83 = .ok (.aload_n 0, 1) := by decide +kernel
theorem dX2_addConviction_84 : decode cX2_addConviction 84 = .ok (.getfield 48, 3) := by decide +kernel
theorem dX2_addConviction_87 : decode cX2_addConviction 87 = .ok (.iload 6, 2) := by decide +kernel
theorem dX2_addConviction_89 : decode cX2_addConviction 89 = .ok (.iastore, 1) := by decide +kernel
theorem dX2_addConviction_90 : decode cX2_addConviction 90 = .ok (.aload_n 0, 1) := by decide +kernel
theorem dX2_addConviction_91 : decode cX2_addConviction 91 = .ok (.getfield 33, 3) := by decide +kernel
theorem dX2_addConviction_94 : decode cX2_addConviction 94 = .ok (.aload_n 0, 1) := by decide +kernel
theorem dX2_addConviction_95 : decode cX2_addConviction 95 = .ok (.getfield 48, 3) := by decide +kernel
theorem dX2_addConviction_98 : decode cX2_addConviction 98 = .ok (.iconst 0, 1) := by decide +kernel
theorem dX2_addConviction_99 : decode cX2_addConviction 99 = .ok (.iastore, 1) := by decide +kernel
theorem dX2_addConviction_100 : decode cX2_addConviction 100 = .ok (.aload_n 0, 1) := by decide +kernel
theorem dX2_addConviction_101 : decode cX2_addConviction 101 = .ok (.dup, 1) := by decide +kernel
theorem dX2_addConviction_102 : decode cX2_addConviction 102 = .ok (.getfield 48, 3) := by decide +kernel
theorem dX2_addConviction_105 : decode cX2_addConviction 105 = .ok (.iconst 1, 1) := by decide +kernel
theorem dX2_addConviction_106 : decode cX2_addConviction 106 = .ok (.iadd, 1) := by decide +kernel
theorem dX2_addConviction_107 : decode cX2_addConviction 107 = .ok (.putfield 48, 3) := by decide +kernel
theorem dX2_addConviction_110 : decode cX2_addConviction 110 = .ok (.return_, 1) := by decide +kernel
theorem dX2_addCourse_0 : decode cX2_addCourse 0 = .ok (.aload_n 0, 1) := by decide +kernel
theorem dX2_addCourse_1 : decode cX2_addCourse 1 = .ok (.getfield 48, 3) := by decide +kernel
theorem dX2_addCourse_4 : decode cX2_addCourse 4 = .ok (.ifCond .lt 12, 3) := by decide +kernel
theorem dX2_addCourse_7 : decode cX2_addCourse 7 = .ok (.aload_n 0, 1) := by decide +kernel
theorem dX2_addCourse_8 : decode cX2_addCourse 8 = .ok (.getfield 48, 3) := by decide +kernel
theorem dX2_addCourse_11 : decode cX2_addCourse 11 = .ok (.bipush 41, 2) := by decide +kernel
theorem dX2_addCourse_13 : decode cX2_addCourse 13 = .ok (.if_icmp .lt 4, 3) := by decide +kernel
theorem dX2_addCourse_16 : decode cX2_addCourse 16 = .ok (.return_, 1) := by decide +kernel
theorem dX2_addCourse_17 : decode cX2_addCourse 17 = .ok (.aload_n 0, 1) := by decide +kernel
theorem dX2_addCourse_18 : decode cX2_addCourse 18 = .ok (.getfield 11, 3) := by decide +kernel
theorem dX2_addCourse_21 : decode cX2_addCourse 21 = .ok (.aload_n 0, 1) := by decide +kernel
theorem dX2_addCourse_22 : decode cX2_addCourse 22 = .ok (.getfield 48, 3) := by decide +kernel
theorem dX2_addCourse_25 : decode cX2_addCourse 25 = .ok (.iload_n 1, 1) := by decide +kernel
theorem dX2_addCourse_26 : decode cX2_addCourse 26 = .ok (.iastore, 1) := by decide +kernel
theorem dX2_addCourse_27 : decode cX2_addCourse 27 = .ok (.aload_n 0, 1) := by decide +kernel
theorem dX2_addCourse_28 : decode cX2_addCourse 28 = .ok (.getfield 15, 3) := by decide +kernel
theorem dX2_addCourse_31 : decode cX2_addCourse 31 = .ok (.aload_n 0, 1) := by decide +kernel
theorem dX2_addCourse_32 : decode cX2_addCourse 32 = .ok (.getfield 48, 3) := by decide +kernel
theorem dX2_addCourse_35 : decode cX2_addCourse 35 = .ok (.iload_n 2, 1) := by decide +kernel
theorem dX2_addCourse_36 : decode cX2_addCourse 36 = .ok (.iastore, 1) := by decide +kernel
theorem dX2_addCourse_37 : decode cX2_addCourse 37 = .ok (.aload_n 0, 1) := by decide +kernel
theorem dX2_addCourse_38 : decode cX2_addCourse 38 = .ok (.getfield 18, 3) := by decide +kernel
theorem dX2_addCourse_41 : decode cX2_addCourse 41 = .ok (.aload_n 0, 1) := by decide +kernel
theorem dX2_addCourse_42 : decode cX2_addCourse 42 = .ok (.getfield 48, 3) := by decide +kernel
theorem dX2_addCourse_45 : decode cX2_addCourse 45 = .ok (.iload_n 3, 1) := by decide +kernel
theorem dX2_addCourse_46 : decode cX2_addCourse 46 = .ok (.iastore, 1) := by decide +kernel
theorem dX2_addCourse_47 : decode cX2_addCourse 47 = .ok (.aload_n 0, 1) := by decide +kernel
theorem dX2_addCourse_48 : decode cX2_addCourse 48 = .ok (.getfield 21, 3) := by decide +kernel
theorem dX2_addCourse_51 : decode cX2_addCourse 51 = .ok (.aload_n 0, 1) := by decide +kernel
theorem dX2_addCourse_52 : decode cX2_addCourse 52 = .ok (.getfield 48, 3) := by decide +kernel
theorem dX2_addCourse_55 : decode cX2_addCourse 55 = .ok (.iload_n 2, 1) := by decide +kernel
theorem dX2_addCourse_56 : decode cX2_addCourse 56 = .ok (.iastore, 1) := by decide +kernel
theorem dX2_addCourse_57 : decode cX2_addCourse 57 = .ok (.aload_n 0, 1) := by decide +kernel
theorem dX2_addCourse_58 : decode cX2_addCourse 58 = .ok (.dup, 1) := by decide +kernel
theorem dX2_addCourse_59 : decode cX2_addCourse 59 = .ok (.getfield 48, 3) := by decide +kernel
theorem dX2_addCourse_62 : decode cX2_addCourse 62 = .ok (.iconst 1, 1) := by decide +kernel
theorem dX2_addCourse_63 : decode cX2_addCourse 63 = .ok (.iadd, 1) := by decide +kernel
theorem dX2_addCourse_64 : decode cX2_addCourse 64 = .ok (.putfield 48, 3) := by decide +kernel
theorem dX2_addCourse_67 : decode cX2_addCourse 67 = .ok (.return_, 1) := by decide +kernel
theorem dX2_dropLast_0 : decode cX2_dropLast 0 = .ok (.aload_n 0, 1) := by decide +kernel
theorem dX2_dropLast_1 : decode cX2_dropLast 1 = .ok (.getfield 48, 3) := by decide +kernel
theorem dX2_dropLast_4 : decode cX2_dropLast 4 = .ok (.ifCond .le 13, 3) := by decide +kernel
theorem dX2_dropLast_7 : decode cX2_dropLast 7 = .ok (.aload_n 0, 1) := by decide +kernel
theorem dX2_dropLast_8 : decode cX2_dropLast 8 = .ok (.dup, 1) := by decide +kernel
theorem dX2_dropLast_9 : decode cX2_dropLast 9 = .ok (.getfield 48, 3) := by decide +kernel
theorem dX2_dropLast_12 : decode cX2_dropLast 12 = .ok (.iconst 1, 1) := by decide +kernel
theorem dX2_dropLast_13 : decode cX2_dropLast 13 = .ok (.isub, 1) := by decide +kernel
theorem dX2_dropLast_14 : decode cX2_dropLast 14 = .ok (.putfield 48, 3) := by decide +kernel
theorem dX2_dropLast_17 : decode cX2_dropLast 17 = .ok (.return_, 1) := by decide +kernel
theorem dX2_hasLightAfter_0 : decode cX2_hasLightAfter 0 = .ok (.iconst 0, 1) := by decide +kernel
theorem dX2_hasLightAfter_1 : decode cX2_hasLightAfter 1 = .ok (.istore_n 3, 1) := by decide +kernel
theorem dX2_hasLightAfter_2 : decode cX2_hasLightAfter 2 = .ok (.iload_n 3, 1) := by decide +kernel
theorem dX2_hasLightAfter_3 : decode cX2_hasLightAfter 3 = .ok (.aload_n 0, 1) := by decide +kernel
theorem dX2_hasLightAfter_4 : decode cX2_hasLightAfter 4 = .ok (.getfield 48, 3) := by decide +kernel
theorem dX2_hasLightAfter_7 : decode cX2_hasLightAfter 7 = .ok (.if_icmp .ge 47, 3) := by decide +kernel
theorem dX2_hasLightAfter_10 : decode cX2_hasLightAfter 10 = .ok (.iload_n 3, 1) := by decide +kernel
theorem dX2_hasLightAfter_11 : decode cX2_hasLightAfter 11 = .ok (.bipush 41, 2) := by decide +kernel
theorem dX2_hasLightAfter_13 : decode cX2_hasLightAfter 13 = .ok (.if_icmp .ge 41, 3) := by decide +kernel
theorem dX2_hasLightAfter_16 : decode cX2_hasLightAfter 16 = .ok (.aload_n 0, 1) := by decide +kernel
theorem dX2_hasLightAfter_17 : decode cX2_hasLightAfter 17 = .ok (.getfield 11, 3) := by decide +kernel
theorem dX2_hasLightAfter_20 : decode cX2_hasLightAfter 20 = .ok (.iload_n 3, 1) := by decide +kernel
theorem dX2_hasLightAfter_21 : decode cX2_hasLightAfter 21 = .ok (.iaload, 1) := by decide +kernel
theorem dX2_hasLightAfter_22 : decode cX2_hasLightAfter 22 = .ok (.iload_n 1, 1) := by decide +kernel
theorem dX2_hasLightAfter_23 : decode cX2_hasLightAfter 23 = .ok (.if_icmp .ne 25, 3) := by decide +kernel
theorem dX2_hasLightAfter_26 : decode cX2_hasLightAfter 26 = .ok (.aload_n 0, 1) := by decide +kernel
theorem dX2_hasLightAfter_27 : decode cX2_hasLightAfter 27 = .ok (.getfield 18, 3) := by decide +kernel
theorem dX2_hasLightAfter_30 : decode cX2_hasLightAfter 30 = .ok (.iload_n 3, 1) := by decide +kernel
theorem dX2_hasLightAfter_31 : decode cX2_hasLightAfter 31 = .ok (.iaload, 1) := by decide +kernel
theorem dX2_hasLightAfter_32 : decode cX2_hasLightAfter 32 = .ok (.iconst 1, 1) := by decide +kernel
theorem dX2_hasLightAfter_33 : decode cX2_hasLightAfter 33 = .ok (.if_icmp .ne 15, 3) := by decide +kernel
theorem dX2_hasLightAfter_36 : decode cX2_hasLightAfter 36 = .ok (.aload_n 0, 1) := by decide +kernel
theorem dX2_hasLightAfter_37 : decode cX2_hasLightAfter 37 = .ok (.getfield 15, 3) := by decide +kernel
theorem dX2_hasLightAfter_40 : decode cX2_hasLightAfter 40 = .ok (.iload_n 3, 1) := by decide +kernel
theorem dX2_hasLightAfter_41 : decode cX2_hasLightAfter 41 = .ok (.iaload, 1) := by decide +kernel
theorem dX2_hasLightAfter_42 : decode cX2_hasLightAfter 42 = .ok (.iload_n 2, 1) := by decide +kernel
theorem dX2_hasLightAfter_43 : decode cX2_hasLightAfter 43 = .ok (.if_icmp .le 5, 3) := by decide +kernel
theorem dX2_hasLightAfter_46 : decode cX2_hasLightAfter 46 = .ok (.iconst 1, 1) := by decide +kernel
theorem dX2_hasLightAfter_47 : decode cX2_hasLightAfter 47 = .ok (.ireturn, 1) := by decide +kernel
theorem dX2_hasLightAfter_48 : decode cX2_hasLightAfter 48 = .ok (.iinc 3 1, 3) := by decide +kernel
theorem dX2_hasLightAfter_51 : decode cX2_hasLightAfter 51 = .ok (.goto (-49), 3) := by decide +kernel
theorem dX2_hasLightAfter_54 : decode cX2_hasLightAfter 54 = .ok (.iconst 0, 1) := by decide +kernel
theorem dX2_hasLightAfter_55 : decode cX2_hasLightAfter 55 = .ok (.ireturn, 1) := by decide +kernel
theorem dX2_tell_0 : decode cX2_tell 0 = .ok (.aload_n 0, 1) := by decide +kernel
theorem dX2_tell_1 : decode cX2_tell 1 = .ok (.iload_n 2, 1) := by decide +kernel
theorem dX2_tell_2 : decode cX2_tell 2 = .ok (.invokevirtual 52, 3) := by decide +kernel
theorem dX2_tell_5 : decode cX2_tell 5 = .ok (.ifCond .ne 5, 3) := by decide +kernel
theorem dX2_tell_8 : decode cX2_tell 8 = .ok (.iconst 0, 1) := by decide +kernel
theorem dX2_tell_9 : decode cX2_tell 9 = .ok (.ireturn, 1) := by decide +kernel
theorem dX2_tell_10 : decode cX2_tell 10 = .ok (.iload_n 1, 1) := by decide +kernel
theorem dX2_tell_11 : decode cX2_tell 11 = .ok (.tableswitch 73 1 4 #[29, 40, 51, 62], 29) := by decide +kernel
theorem dX2_tell_40 : decode cX2_tell 40 = .ok (.aload_n 0, 1) := by decide +kernel
theorem dX2_tell_41 : decode cX2_tell 41 = .ok (.aload_n 0, 1) := by decide +kernel
theorem dX2_tell_42 : decode cX2_tell 42 = .ok (.getfield 33, 3) := by decide +kernel
theorem dX2_tell_45 : decode cX2_tell 45 = .ok (.iload_n 2, 1) := by decide +kernel
theorem dX2_tell_46 : decode cX2_tell 46 = .ok (.iload_n 3, 1) := by decide +kernel
theorem dX2_tell_47 : decode cX2_tell 47 = .ok (.invokevirtual 56, 3) := by decide +kernel
theorem dX2_tell_50 : decode cX2_tell 50 = .ok (.ireturn, 1) := by decide +kernel
theorem dX2_tell_51 : decode cX2_tell 51 = .ok (.aload_n 0, 1) := by decide +kernel
theorem dX2_tell_52 : decode cX2_tell 52 = .ok (.aload_n 0, 1) := by decide +kernel
theorem dX2_tell_53 : decode cX2_tell 53 = .ok (.getfield 27, 3) := by decide +kernel
theorem dX2_tell_56 : decode cX2_tell 56 = .ok (.iload_n 2, 1) := by decide +kernel
theorem dX2_tell_57 : decode cX2_tell 57 = .ok (.iload_n 3, 1) := by decide +kernel
theorem dX2_tell_58 : decode cX2_tell 58 = .ok (.invokevirtual 56, 3) := by decide +kernel
theorem dX2_tell_61 : decode cX2_tell 61 = .ok (.ireturn, 1) := by decide +kernel
theorem dX2_tell_62 : decode cX2_tell 62 = .ok (.aload_n 0, 1) := by decide +kernel
theorem dX2_tell_63 : decode cX2_tell 63 = .ok (.aload_n 0, 1) := by decide +kernel
theorem dX2_tell_64 : decode cX2_tell 64 = .ok (.getfield 21, 3) := by decide +kernel
theorem dX2_tell_67 : decode cX2_tell 67 = .ok (.iload_n 2, 1) := by decide +kernel
theorem dX2_tell_68 : decode cX2_tell 68 = .ok (.iload_n 3, 1) := by decide +kernel
theorem dX2_tell_69 : decode cX2_tell 69 = .ok (.invokevirtual 56, 3) := by decide +kernel
theorem dX2_tell_72 : decode cX2_tell 72 = .ok (.ireturn, 1) := by decide +kernel
theorem dX2_tell_73 : decode cX2_tell 73 = .ok (.aload_n 0, 1) := by decide +kernel
theorem dX2_tell_74 : decode cX2_tell 74 = .ok (.aload_n 0, 1) := by decide +kernel
theorem dX2_tell_75 : decode cX2_tell 75 = .ok (.getfield 30, 3) := by decide +kernel
theorem dX2_tell_78 : decode cX2_tell 78 = .ok (.iload_n 2, 1) := by decide +kernel
theorem dX2_tell_79 : decode cX2_tell 79 = .ok (.iload_n 3, 1) := by decide +kernel
theorem dX2_tell_80 : decode cX2_tell 80 = .ok (.invokevirtual 56, 3) := by decide +kernel
theorem dX2_tell_83 : decode cX2_tell 83 = .ok (.ireturn, 1) := by decide +kernel
theorem dX2_tell_84 : decode cX2_tell 84 = .ok (.iconst 0, 1) := by decide +kernel
theorem dX2_tell_85 : decode cX2_tell 85 = .ok (.ireturn, 1) := by decide +kernel
theorem dX2_swap_0 : decode cX2_swap 0 = .ok (.iload_n 2, 1) := by decide +kernel
theorem dX2_swap_1 : decode cX2_swap 1 = .ok (.ifCond .lt 9, 3) := by decide +kernel
theorem dX2_swap_4 : decode cX2_swap 4 = .ok (.iload_n 2, 1) := by decide +kernel
theorem dX2_swap_5 : decode cX2_swap 5 = .ok (.aload_n 1, 1) := by decide +kernel
theorem dX2_swap_6 : decode cX2_swap 6 = .ok (.arraylength, 1) := by decide +kernel
theorem dX2_swap_7 : decode cX2_swap 7 = .ok (.if_icmp .lt 5, 3) := by decide +kernel
theorem dX2_swap_10 : decode cX2_swap 10 = .ok (.iconst 0, 1) := by decide +kernel
theorem dX2_swap_11 : decode cX2_swap 11 = .ok (.ireturn, 1) := by decide +kernel
theorem dX2_swap_12 : decode cX2_swap 12 = .ok (.aload_n 1, 1) := by decide +kernel
theorem dX2_swap_13 : decode cX2_swap 13 = .ok (.iload_n 2, 1) := by decide +kernel
theorem dX2_swap_14 : decode cX2_swap 14 = .ok (.iaload, 1) := by decide +kernel
theorem dX2_swap_15 : decode cX2_swap 15 = .ok (.istore 4, 2) := by decide +kernel
theorem dX2_swap_17 : decode cX2_swap 17 = .ok (.aload_n 1, 1) := by decide +kernel
theorem dX2_swap_18 : decode cX2_swap 18 = .ok (.iload_n 2, 1) := by decide +kernel
theorem dX2_swap_19 : decode cX2_swap 19 = .ok (.iload_n 3, 1) := by decide +kernel
theorem dX2_swap_20 : decode cX2_swap 20 = .ok (.iastore, 1) := by decide +kernel
theorem dX2_swap_21 : decode cX2_swap 21 = .ok (.iload 4, 2) := by decide +kernel
theorem dX2_swap_23 : decode cX2_swap 23 = .ok (.ireturn, 1) := by decide +kernel
theorem dX2_tellOf_0 : decode cX2_tellOf 0 = .ok (.aload_n 0, 1) := by decide +kernel
theorem dX2_tellOf_1 : decode cX2_tellOf 1 = .ok (.iload_n 1, 1) := by decide +kernel
theorem dX2_tellOf_2 : decode cX2_tellOf 2 = .ok (.invokevirtual 52, 3) := by decide +kernel
theorem dX2_tellOf_5 : decode cX2_tellOf 5 = .ok (.ifCond .ne 6, 3) := by decide +kernel
theorem dX2_tellOf_8 : decode cX2_tellOf 8 = .ok (.bipush (-4), 2) := by decide +kernel
theorem dX2_tellOf_10 : decode cX2_tellOf 10 = .ok (.ireturn, 1) := by decide +kernel
theorem dX2_tellOf_11 : decode cX2_tellOf 11 = .ok (.iload_n 2, 1) := by decide +kernel
theorem dX2_tellOf_12 : decode cX2_tellOf 12 = .ok (.tableswitch 110 0 10 #[60, 67, 74, 110, 110, 110, 110, 110, 110, 81, 88], 60) := by decide +kernel
theorem dX2_tellOf_72 : decode cX2_tellOf 72 = .ok (.aload_n 0, 1) := by decide +kernel
theorem dX2_tellOf_73 : decode cX2_tellOf 73 = .ok (.getfield 11, 3) := by decide +kernel
theorem dX2_tellOf_76 : decode cX2_tellOf 76 = .ok (.iload_n 1, 1) := by decide +kernel
theorem dX2_tellOf_77 : decode cX2_tellOf 77 = .ok (.iaload, 1) := by decide +kernel
theorem dX2_tellOf_78 : decode cX2_tellOf 78 = .ok (.ireturn, 1) := by decide +kernel
theorem dX2_tellOf_79 : decode cX2_tellOf 79 = .ok (.aload_n 0, 1) := by decide +kernel
theorem dX2_tellOf_80 : decode cX2_tellOf 80 = .ok (.getfield 15, 3) := by decide +kernel
theorem dX2_tellOf_83 : decode cX2_tellOf 83 = .ok (.iload_n 1, 1) := by decide +kernel
theorem dX2_tellOf_84 : decode cX2_tellOf 84 = .ok (.iaload, 1) := by decide +kernel
theorem dX2_tellOf_85 : decode cX2_tellOf 85 = .ok (.ireturn, 1) := by decide +kernel
theorem dX2_tellOf_86 : decode cX2_tellOf 86 = .ok (.aload_n 0, 1) := by decide +kernel
theorem dX2_tellOf_87 : decode cX2_tellOf 87 = .ok (.getfield 18, 3) := by decide +kernel
theorem dX2_tellOf_90 : decode cX2_tellOf 90 = .ok (.iload_n 1, 1) := by decide +kernel
theorem dX2_tellOf_91 : decode cX2_tellOf 91 = .ok (.iaload, 1) := by decide +kernel
theorem dX2_tellOf_92 : decode cX2_tellOf 92 = .ok (.ireturn, 1) := by decide +kernel
theorem dX2_tellOf_93 : decode cX2_tellOf 93 = .ok (.aload_n 0, 1) := by decide +kernel
theorem dX2_tellOf_94 : decode cX2_tellOf 94 = .ok (.getfield 39, 3) := by decide +kernel
theorem dX2_tellOf_97 : decode cX2_tellOf 97 = .ok (.iload_n 1, 1) := by decide +kernel
theorem dX2_tellOf_98 : decode cX2_tellOf 98 = .ok (.iaload, 1) := by decide +kernel
theorem dX2_tellOf_99 : decode cX2_tellOf 99 = .ok (.ireturn, 1) := by decide +kernel
theorem dX2_tellOf_100 : decode cX2_tellOf 100 = .ok (.aload_n 0, 1) := by decide +kernel
theorem dX2_tellOf_101 : decode cX2_tellOf 101 = .ok (.getfield 18, 3) := by decide +kernel
theorem dX2_tellOf_104 : decode cX2_tellOf 104 = .ok (.iload_n 1, 1) := by decide +kernel
theorem dX2_tellOf_105 : decode cX2_tellOf 105 = .ok (.iaload, 1) := by decide +kernel
theorem dX2_tellOf_106 : decode cX2_tellOf 106 = .ok (.iconst 2, 1) := by decide +kernel
theorem dX2_tellOf_107 : decode cX2_tellOf 107 = .ok (.if_icmp .ne 12, 3) := by decide +kernel
theorem dX2_tellOf_110 : decode cX2_tellOf 110 = .ok (.aload_n 0, 1) := by decide +kernel
theorem dX2_tellOf_111 : decode cX2_tellOf 111 = .ok (.getfield 42, 3) := by decide +kernel
theorem dX2_tellOf_114 : decode cX2_tellOf 114 = .ok (.iload_n 1, 1) := by decide +kernel
theorem dX2_tellOf_115 : decode cX2_tellOf 115 = .ok (.iaload, 1) := by decide +kernel
theorem dX2_tellOf_116 : decode cX2_tellOf 116 = .ok (.goto 5, 3) := by decide +kernel
theorem dX2_tellOf_119 : decode cX2_tellOf 119 = .ok (.bipush (-4), 2) := by decide +kernel
theorem dX2_tellOf_121 : decode cX2_tellOf 121 = .ok (.ireturn, 1) := by decide +kernel
theorem dX2_tellOf_122 : decode cX2_tellOf 122 = .ok (.aload_n 0, 1) := by decide +kernel
theorem dX2_tellOf_123 : decode cX2_tellOf 123 = .ok (.getfield 18, 3) := by decide +kernel
theorem dX2_tellOf_126 : decode cX2_tellOf 126 = .ok (.iload_n 1, 1) := by decide +kernel
theorem dX2_tellOf_127 : decode cX2_tellOf 127 = .ok (.iaload, 1) := by decide +kernel
theorem dX2_tellOf_128 : decode cX2_tellOf 128 = .ok (.ifCond .ne 12, 3) := by decide +kernel
theorem dX2_tellOf_131 : decode cX2_tellOf 131 = .ok (.aload_n 0, 1) := by decide +kernel
theorem dX2_tellOf_132 : decode cX2_tellOf 132 = .ok (.iload_n 1, 1) := by decide +kernel
theorem dX2_tellOf_133 : decode cX2_tellOf 133 = .ok (.iload_n 2, 1) := by decide +kernel
theorem dX2_tellOf_134 : decode cX2_tellOf 134 = .ok (.invokevirtual 60, 3) := by decide +kernel
theorem dX2_tellOf_137 : decode cX2_tellOf 137 = .ok (.goto 5, 3) := by decide +kernel
theorem dX2_tellOf_140 : decode cX2_tellOf 140 = .ok (.bipush (-4), 2) := by decide +kernel
theorem dX2_tellOf_142 : decode cX2_tellOf 142 = .ok (.ireturn, 1) := by decide +kernel
theorem dX2_tellOfConviction_0 : decode cX2_tellOfConviction 0 = .ok (.aload_n 0, 1) := by decide +kernel
theorem dX2_tellOfConviction_1 : decode cX2_tellOfConviction 1 = .ok (.iload_n 1, 1) := by decide +kernel
theorem dX2_tellOfConviction_2 : decode cX2_tellOfConviction 2 = .ok (.invokevirtual 52, 3) := by decide +kernel
theorem dX2_tellOfConviction_5 : decode cX2_tellOfConviction 5 = .ok (.ifCond .ne 6, 3) := by decide +kernel
theorem dX2_tellOfConviction_8 : decode cX2_tellOfConviction 8 = .ok (.bipush (-4), 2) := by decide +kernel
theorem dX2_tellOfConviction_10 : decode cX2_tellOfConviction 10 = .ok (.ireturn, 1) := by decide +kernel
theorem dX2_tellOfConviction_11 : decode cX2_tellOfConviction 11 = .ok (.iload_n 2, 1) := by decide +kernel
theorem dX2_tellOfConviction_12 : decode cX2_tellOfConviction 12 = .ok (.tableswitch 82 3 8 #[40, 47, 54, 61, 68, 75], 40) := by decide +kernel
theorem dX2_tellOfConviction_52 : decode cX2_tellOfConviction 52 = .ok (.aload_n 0, 1) := by decide +kernel
theorem dX2_tellOfConviction_53 : decode cX2_tellOfConviction 53 = .ok (.getfield 21, 3) := by decide +kernel
theorem dX2_tellOfConviction_56 : decode cX2_tellOfConviction 56 = .ok (.iload_n 1, 1) := by decide +kernel
theorem dX2_tellOfConviction_57 : decode cX2_tellOfConviction 57 = .ok (.iaload, 1) := by decide +kernel
theorem dX2_tellOfConviction_58 : decode cX2_tellOfConviction 58 = .ok (.ireturn, 1) := by decide +kernel
theorem dX2_tellOfConviction_59 : decode cX2_tellOfConviction 59 = .ok (.aload_n 0, 1) := by decide +kernel
theorem dX2_tellOfConviction_60 : decode cX2_tellOfConviction 60 = .ok (.getfield 24, 3) := by decide +kernel
theorem dX2_tellOfConviction_63 : decode cX2_tellOfConviction 63 = .ok (.iload_n 1, 1) := by decide +kernel
theorem dX2_tellOfConviction_64 : decode cX2_tellOfConviction 64 = .ok (.iaload, 1) := by decide +kernel
theorem dX2_tellOfConviction_65 : decode cX2_tellOfConviction 65 = .ok (.ireturn, 1) := by decide +kernel
theorem dX2_tellOfConviction_66 : decode cX2_tellOfConviction 66 = .ok (.aload_n 0, 1) := by decide +kernel
theorem dX2_tellOfConviction_67 : decode cX2_tellOfConviction 67 = .ok (.getfield 27, 3) := by decide +kernel
theorem dX2_tellOfConviction_70 : decode cX2_tellOfConviction 70 = .ok (.iload_n 1, 1) := by decide +kernel
theorem dX2_tellOfConviction_71 : decode cX2_tellOfConviction 71 = .ok (.iaload, 1) := by decide +kernel
theorem dX2_tellOfConviction_72 : decode cX2_tellOfConviction 72 = .ok (.ireturn, 1) := by decide +kernel
theorem dX2_tellOfConviction_73 : decode cX2_tellOfConviction 73 = .ok (.aload_n 0, 1) := by decide +kernel
theorem dX2_tellOfConviction_74 : decode cX2_tellOfConviction 74 = .ok (.getfield 30, 3) := by decide +kernel
theorem dX2_tellOfConviction_77 : decode cX2_tellOfConviction 77 = .ok (.iload_n 1, 1) := by decide +kernel
theorem dX2_tellOfConviction_78 : decode cX2_tellOfConviction 78 = .ok (.iaload, 1) := by decide +kernel
theorem dX2_tellOfConviction_79 : decode cX2_tellOfConviction 79 = .ok (.ireturn, 1) := by decide +kernel
theorem dX2_tellOfConviction_80 : decode cX2_tellOfConviction 80 = .ok (.aload_n 0, 1) := by decide +kernel
theorem dX2_tellOfConviction_81 : decode cX2_tellOfConviction 81 = .ok (.getfield 33, 3) := by decide +kernel
theorem dX2_tellOfConviction_84 : decode cX2_tellOfConviction 84 = .ok (.iload_n 1, 1) := by decide +kernel
theorem dX2_tellOfConviction_85 : decode cX2_tellOfConviction 85 = .ok (.iaload, 1) := by decide +kernel
theorem dX2_tellOfConviction_86 : decode cX2_tellOfConviction 86 = .ok (.ireturn, 1) := by decide +kernel
theorem dX2_tellOfConviction_87 : decode cX2_tellOfConviction 87 = .ok (.aload_n 0, 1) := by decide +kernel
theorem dX2_tellOfConviction_88 : decode cX2_tellOfConviction 88 = .ok (.getfield 36, 3) := by decide +kernel
theorem dX2_tellOfConviction_91 : decode cX2_tellOfConviction 91 = .ok (.iload_n 1, 1) := by decide +kernel
theorem dX2_tellOfConviction_92 : decode cX2_tellOfConviction 92 = .ok (.iaload, 1) := by decide +kernel
theorem dX2_tellOfConviction_93 : decode cX2_tellOfConviction 93 = .ok (.ireturn, 1) := by decide +kernel
theorem dX2_tellOfConviction_94 : decode cX2_tellOfConviction 94 = .ok (.bipush (-4), 2) := by decide +kernel
theorem dX2_tellOfConviction_96 : decode cX2_tellOfConviction 96 = .ok (.ireturn, 1) := by decide +kernel
theorem dX2_clearMarks_0 : decode cX2_clearMarks 0 = .ok (.aload_n 0, 1) := by decide +kernel
theorem dX2_clearMarks_1 : decode cX2_clearMarks 1 = .ok (.iload_n 1, 1) := by decide +kernel
theorem dX2_clearMarks_2 : decode cX2_clearMarks 2 = .ok (.invokevirtual 52, 3) := by decide +kernel
theorem dX2_clearMarks_5 : decode cX2_clearMarks 5 = .ok (.ifCond .eq 46, 3) := by decide +kernel
theorem dX2_clearMarks_8 : decode cX2_clearMarks 8 = .ok (.aload_n 0, 1) := by decide +kernel
theorem dX2_clearMarks_9 : decode cX2_clearMarks 9 = .ok (.getfield 36, 3) := by decide +kernel
theorem dX2_clearMarks_12 : decode cX2_clearMarks 12 = .ok (.iload_n 1, 1) := by decide +kernel
theorem dX2_clearMarks_13 : decode cX2_clearMarks 13 = .ok (.iconst 0, 1) := by decide +kernel
theorem dX2_clearMarks_14 : decode cX2_clearMarks 14 = .ok (.iastore, 1) := by decide +kernel
theorem dX2_clearMarks_15 : decode cX2_clearMarks 15 = .ok (.aload_n 0, 1) := by decide +kernel
theorem dX2_clearMarks_16 : decode cX2_clearMarks 16 = .ok (.getfield 39, 3) := by decide +kernel
theorem dX2_clearMarks_19 : decode cX2_clearMarks 19 = .ok (.iload_n 1, 1) := by decide +kernel
theorem dX2_clearMarks_20 : decode cX2_clearMarks 20 = .ok (.iconst 0, 1) := by decide +kernel
theorem dX2_clearMarks_21 : decode cX2_clearMarks 21 = .ok (.iastore, 1) := by decide +kernel
theorem dX2_clearMarks_22 : decode cX2_clearMarks 22 = .ok (.aload_n 0, 1) := by decide +kernel
theorem dX2_clearMarks_23 : decode cX2_clearMarks 23 = .ok (.getfield 42, 3) := by decide +kernel
theorem dX2_clearMarks_26 : decode cX2_clearMarks 26 = .ok (.iload_n 1, 1) := by decide +kernel
theorem dX2_clearMarks_27 : decode cX2_clearMarks 27 = .ok (.iconst 0, 1) := by decide +kernel
theorem dX2_clearMarks_28 : decode cX2_clearMarks 28 = .ok (.iastore, 1) := by decide +kernel
theorem dX2_clearMarks_29 : decode cX2_clearMarks 29 = .ok (.aload_n 0, 1) := by decide +kernel
theorem dX2_clearMarks_30 : decode cX2_clearMarks 30 = .ok (.getfield 45, 3) := by decide +kernel
theorem dX2_clearMarks_33 : decode cX2_clearMarks 33 = .ok (.iload_n 1, 1) := by decide +kernel
theorem dX2_clearMarks_34 : decode cX2_clearMarks 34 = .ok (.aload_n 0, 1) := by decide +kernel
theorem dX2_clearMarks_35 : decode cX2_clearMarks 35 = .ok (.getfield 18, 3) := by decide +kernel
theorem dX2_clearMarks_38 : decode cX2_clearMarks 38 = .ok (.iload_n 1, 1) := by decide +kernel
theorem dX2_clearMarks_39 : decode cX2_clearMarks 39 = .ok (.iaload, 1) := by decide +kernel
theorem dX2_clearMarks_40 : decode cX2_clearMarks 40 = .ok (.iconst 1, 1) := by decide +kernel
theorem dX2_clearMarks_41 : decode cX2_clearMarks 41 = .ok (.if_icmp .ne 8, 3) := by decide +kernel
theorem dX2_clearMarks_44 : decode cX2_clearMarks 44 = .ok (.bipush (-3), 2) := by decide +kernel
theorem dX2_clearMarks_46 : decode cX2_clearMarks 46 = .ok (.goto 4, 3) := by decide +kernel
theorem dX2_clearMarks_49 : decode cX2_clearMarks 49 = .ok (.iconst 0, 1) := by decide +kernel
theorem dX2_clearMarks_50 : decode cX2_clearMarks 50 = .ok (.iastore, 1) := by decide +kernel
theorem dX2_clearMarks_51 : decode cX2_clearMarks 51 = .ok (.return_, 1) := by decide +kernel
theorem dX2_spend_0 : decode cX2_spend 0 = .ok (.iconst 0, 1) := by decide +kernel
theorem dX2_spend_1 : decode cX2_spend 1 = .ok (.istore_n 3, 1) := by decide +kernel
theorem dX2_spend_2 : decode cX2_spend 2 = .ok (.iload_n 3, 1) := by decide +kernel
theorem dX2_spend_3 : decode cX2_spend 3 = .ok (.iload_n 2, 1) := by decide +kernel
theorem dX2_spend_4 : decode cX2_spend 4 = .ok (.if_icmp .ge 39, 3) := by decide +kernel
theorem dX2_spend_7 : decode cX2_spend 7 = .ok (.iload_n 3, 1) := by decide +kernel
theorem dX2_spend_8 : decode cX2_spend 8 = .ok (.bipush 41, 2) := by decide +kernel
theorem dX2_spend_10 : decode cX2_spend 10 = .ok (.if_icmp .ge 33, 3) := by decide +kernel
theorem dX2_spend_13 : decode cX2_spend 13 = .ok (.aload_n 0, 1) := by decide +kernel
theorem dX2_spend_14 : decode cX2_spend 14 = .ok (.getfield 11, 3) := by decide +kernel
theorem dX2_spend_17 : decode cX2_spend 17 = .ok (.iload_n 3, 1) := by decide +kernel
theorem dX2_spend_18 : decode cX2_spend 18 = .ok (.iaload, 1) := by decide +kernel
theorem dX2_spend_19 : decode cX2_spend 19 = .ok (.iload_n 1, 1) := by decide +kernel
theorem dX2_spend_20 : decode cX2_spend 20 = .ok (.if_icmp .ne 17, 3) := by decide +kernel
theorem dX2_spend_23 : decode cX2_spend 23 = .ok (.aload_n 0, 1) := by decide +kernel
theorem dX2_spend_24 : decode cX2_spend 24 = .ok (.getfield 39, 3) := by decide +kernel
theorem dX2_spend_27 : decode cX2_spend 27 = .ok (.iload_n 3, 1) := by decide +kernel
theorem dX2_spend_28 : decode cX2_spend 28 = .ok (.iconst 1, 1) := by decide +kernel
theorem dX2_spend_29 : decode cX2_spend 29 = .ok (.iastore, 1) := by decide +kernel
theorem dX2_spend_30 : decode cX2_spend 30 = .ok (.aload_n 0, 1) := by decide +kernel
theorem dX2_spend_31 : decode cX2_spend 31 = .ok (.getfield 45, 3) := by decide +kernel
theorem dX2_spend_34 : decode cX2_spend 34 = .ok (.iload_n 3, 1) := by decide +kernel
theorem dX2_spend_35 : decode cX2_spend 35 = .ok (.iconst 0, 1) := by decide +kernel
theorem dX2_spend_36 : decode cX2_spend 36 = .ok (.iastore, 1) := by decide +kernel
theorem dX2_spend_37 : decode cX2_spend 37 = .ok (.iinc 3 1, 3) := by decide +kernel
theorem dX2_spend_40 : decode cX2_spend 40 = .ok (.goto (-38), 3) := by decide +kernel
theorem dX2_spend_43 : decode cX2_spend 43 = .ok (.return_, 1) := by decide +kernel
theorem dX2_weigh_0 : decode cX2_weigh 0 = .ok (.iconst 0, 1) := by decide +kernel
theorem dX2_weigh_1 : decode cX2_weigh 1 = .ok (.istore 5, 2) := by decide +kernel
theorem dX2_weigh_3 : decode cX2_weigh 3 = .ok (.iconst 0, 1) := by decide +kernel
theorem dX2_weigh_4 : decode cX2_weigh 4 = .ok (.istore 6, 2) := by decide +kernel
theorem dX2_weigh_6 : decode cX2_weigh 6 = .ok (.iload 6, 2) := by decide +kernel
theorem dX2_weigh_8 : decode cX2_weigh 8 = .ok (.iload_n 2, 1) := by decide +kernel
theorem dX2_weigh_9 : decode cX2_weigh 9 = .ok (.if_icmp .ge 62, 3) := by decide +kernel
theorem dX2_weigh_12 : decode cX2_weigh 12 = .ok (.iload 6, 2) := by decide +kernel
theorem dX2_weigh_14 : decode cX2_weigh 14 = .ok (.bipush 41, 2) := by decide +kernel
theorem dX2_weigh_16 : decode cX2_weigh 16 = .ok (.if_icmp .ge 55, 3) := by decide +kernel
theorem dX2_weigh_19 : decode cX2_weigh 19 = .ok (.aload_n 0, 1) := by decide +kernel
theorem dX2_weigh_20 : decode cX2_weigh 20 = .ok (.getfield 21, 3) := by decide +kernel
theorem dX2_weigh_23 : decode cX2_weigh 23 = .ok (.iload 6, 2) := by decide +kernel
theorem dX2_weigh_25 : decode cX2_weigh 25 = .ok (.iaload, 1) := by decide +kernel
theorem dX2_weigh_26 : decode cX2_weigh 26 = .ok (.iload_n 3, 1) := by decide +kernel
theorem dX2_weigh_27 : decode cX2_weigh 27 = .ok (.isub, 1) := by decide +kernel
theorem dX2_weigh_28 : decode cX2_weigh 28 = .ok (.istore 7, 2) := by decide +kernel
theorem dX2_weigh_30 : decode cX2_weigh 30 = .ok (.aload_n 0, 1) := by decide +kernel
theorem dX2_weigh_31 : decode cX2_weigh 31 = .ok (.getfield 11, 3) := by decide +kernel
theorem dX2_weigh_34 : decode cX2_weigh 34 = .ok (.iload 6, 2) := by decide +kernel
theorem dX2_weigh_36 : decode cX2_weigh 36 = .ok (.iaload, 1) := by decide +kernel
theorem dX2_weigh_37 : decode cX2_weigh 37 = .ok (.iload_n 1, 1) := by decide +kernel
theorem dX2_weigh_38 : decode cX2_weigh 38 = .ok (.if_icmp .ne 27, 3) := by decide +kernel
theorem dX2_weigh_41 : decode cX2_weigh 41 = .ok (.iload 7, 2) := by decide +kernel
theorem dX2_weigh_43 : decode cX2_weigh 43 = .ok (.ifCond .lt 22, 3) := by decide +kernel
theorem dX2_weigh_46 : decode cX2_weigh 46 = .ok (.iload 7, 2) := by decide +kernel
theorem dX2_weigh_48 : decode cX2_weigh 48 = .ok (.iload 4, 2) := by decide +kernel
theorem dX2_weigh_50 : decode cX2_weigh 50 = .ok (.if_icmp .ge 15, 3) := by decide +kernel
theorem dX2_weigh_53 : decode cX2_weigh 53 = .ok (.iload 5, 2) := by decide +kernel
theorem dX2_weigh_55 : decode cX2_weigh 55 = .ok (.aload_n 0, 1) := by decide +kernel
theorem dX2_weigh_56 : decode cX2_weigh 56 = .ok (.getfield 45, 3) := by decide +kernel
theorem dX2_weigh_59 : decode cX2_weigh 59 = .ok (.iload 6, 2) := by decide +kernel
theorem dX2_weigh_61 : decode cX2_weigh 61 = .ok (.iaload, 1) := by decide +kernel
theorem dX2_weigh_62 : decode cX2_weigh 62 = .ok (.iadd, 1) := by decide +kernel
theorem dX2_weigh_63 : decode cX2_weigh 63 = .ok (.istore 5, 2) := by decide +kernel
theorem dX2_weigh_65 : decode cX2_weigh 65 = .ok (.iinc 6 1, 3) := by decide +kernel
theorem dX2_weigh_68 : decode cX2_weigh 68 = .ok (.goto (-62), 3) := by decide +kernel
theorem dX2_weigh_71 : decode cX2_weigh 71 = .ok (.iload 5, 2) := by decide +kernel
theorem dX2_weigh_73 : decode cX2_weigh 73 = .ok (.ireturn, 1) := by decide +kernel
theorem dX3_reckonAll_0 : decode cX3_reckonAll 0 = .ok (.aload_n 0, 1) := by decide +kernel
theorem dX3_reckonAll_1 : decode cX3_reckonAll 1 = .ok (.getfield 19, 3) := by decide +kernel
theorem dX3_reckonAll_4 : decode cX3_reckonAll 4 = .ok (.iconst 0, 1) := by decide +kernel
theorem dX3_reckonAll_5 : decode cX3_reckonAll 5 = .ok (.putfield 23, 3) := by decide +kernel
theorem dX3_reckonAll_8 : decode cX3_reckonAll 8 = .ok (.aload_n 0, 1) := by decide +kernel
theorem dX3_reckonAll_9 : decode cX3_reckonAll 9 = .ok (.iconst 0, 1) := by decide +kernel
theorem dX3_reckonAll_10 : decode cX3_reckonAll 10 = .ok (.putfield 29, 3) := by decide +kernel
theorem dX3_reckonAll_13 : decode cX3_reckonAll 13 = .ok (.iconst 0, 1) := by decide +kernel
theorem dX3_reckonAll_14 : decode cX3_reckonAll 14 = .ok (.istore_n 1, 1) := by decide +kernel
theorem dX3_reckonAll_15 : decode cX3_reckonAll 15 = .ok (.iload_n 1, 1) := by decide +kernel
theorem dX3_reckonAll_16 : decode cX3_reckonAll 16 = .ok (.aload_n 0, 1) := by decide +kernel
theorem dX3_reckonAll_17 : decode cX3_reckonAll 17 = .ok (.getfield 15, 3) := by decide +kernel
theorem dX3_reckonAll_20 : decode cX3_reckonAll 20 = .ok (.getfield 32, 3) := by decide +kernel
theorem dX3_reckonAll_23 : decode cX3_reckonAll 23 = .ok (.if_icmp .ge 13, 3) := by decide +kernel
theorem dX3_reckonAll_26 : decode cX3_reckonAll 26 = .ok (.aload_n 0, 1) := by decide +kernel
theorem dX3_reckonAll_27 : decode cX3_reckonAll 27 = .ok (.invokevirtual 35, 3) := by decide +kernel
theorem dX3_reckonAll_30 : decode cX3_reckonAll 30 = .ok (.iinc 1 1, 3) := by decide +kernel
theorem dX3_reckonAll_33 : decode cX3_reckonAll 33 = .ok (.goto (-18), 3) := by decide +kernel
theorem dX3_reckonAll_36 : decode cX3_reckonAll 36 = .ok (.return_, 1) := by decide +kernel
theorem dX3_reckonNext_0 : decode cX3_reckonNext 0 = .ok (.aload_n 0, 1) := by decide +kernel
theorem dX3_reckonNext_1 : decode cX3_reckonNext 1 = .ok (.getfield 29, 3) := by decide +kernel
theorem dX3_reckonNext_4 : decode cX3_reckonNext 4 = .ok (.istore_n 1, 1) := by decide +kernel
theorem dX3_reckonNext_5 : decode cX3_reckonNext 5 = .ok (.aload_n 0, 1) := by decide +kernel
theorem dX3_reckonNext_6 : decode cX3_reckonNext 6 = .ok (.getfield 15, 3) := by decide +kernel
theorem dX3_reckonNext_9 : decode cX3_reckonNext 9 = .ok (.iload_n 1, 1) := by decide +kernel
theorem dX3_reckonNext_10 : decode cX3_reckonNext 10 = .ok (.invokevirtual 38, 3) := by decide +kernel
theorem dX3_reckonNext_13 : decode cX3_reckonNext 13 = .ok (.ifCond .ne 4, 3) := by decide +kernel
theorem dX3_reckonNext_16 : decode cX3_reckonNext 16 = .ok (.return_, 1) := by decide +kernel
theorem dX3_reckonNext_17 : decode cX3_reckonNext 17 = .ok (.aload_n 0, 1) := by decide +kernel
theorem dX3_reckonNext_18 : decode cX3_reckonNext 18 = .ok (.dup, 1) := by decide +kernel
theorem dX3_reckonNext_19 : decode cX3_reckonNext 19 = .ok (.getfield 29, 3) := by decide +kernel
theorem dX3_reckonNext_22 : decode cX3_reckonNext 22 = .ok (.iconst 1, 1) := by decide +kernel
theorem dX3_reckonNext_23 : decode cX3_reckonNext 23 = .ok (.iadd, 1) := by decide +kernel
theorem dX3_reckonNext_24 : decode cX3_reckonNext 24 = .ok (.putfield 29, 3) := by decide +kernel
theorem dX3_reckonNext_27 : decode cX3_reckonNext 27 = .ok (.aload_n 0, 1) := by decide +kernel
theorem dX3_reckonNext_28 : decode cX3_reckonNext 28 = .ok (.getfield 15, 3) := by decide +kernel
theorem dX3_reckonNext_31 : decode cX3_reckonNext 31 = .ok (.iload_n 1, 1) := by decide +kernel
theorem dX3_reckonNext_32 : decode cX3_reckonNext 32 = .ok (.invokevirtual 42, 3) := by decide +kernel
theorem dX3_reckonNext_35 : decode cX3_reckonNext 35 = .ok (.aload_n 0, 1) := by decide +kernel
theorem dX3_reckonNext_36 : decode cX3_reckonNext 36 = .ok (.getfield 15, 3) := by decide +kernel
theorem dX3_reckonNext_39 : decode cX3_reckonNext 39 = .ok (.getfield 46, 3) := by decide +kernel
theorem dX3_reckonNext_42 : decode cX3_reckonNext 42 = .ok (.iload_n 1, 1) := by decide +kernel
theorem dX3_reckonNext_43 : decode cX3_reckonNext 43 = .ok (.iaload, 1) := by decide +kernel
theorem dX3_reckonNext_44 : decode cX3_reckonNext 44 = .ok (.iconst 2, 1) := by decide +kernel
theorem dX3_reckonNext_45 : decode cX3_reckonNext 45 = .ok (.if_icmp .ne 11, 3) := by decide +kernel
theorem dX3_reckonNext_48 : decode cX3_reckonNext 48 = .ok (.aload_n 0, 1) := by decide +kernel
theorem dX3_reckonNext_49 : decode cX3_reckonNext 49 = .ok (.iload_n 1, 1) := by decide +kernel
theorem dX3_reckonNext_50 : decode cX3_reckonNext 50 = .ok (.invokevirtual 50, 3) := by decide +kernel
theorem dX3_reckonNext_53 : decode cX3_reckonNext 53 = .ok (.goto 32, 3) := by decide +kernel
theorem dX3_reckonNext_56 : decode cX3_reckonNext 56 = .ok (.aload_n 0, 1) := by decide +kernel
theorem dX3_reckonNext_57 : decode cX3_reckonNext 57 = .ok (.getfield 15, 3) := by decide +kernel
theorem dX3_reckonNext_60 : decode cX3_reckonNext 60 = .ok (.getfield 46, 3) := by decide +kernel
theorem dX3_reckonNext_63 : decode cX3_reckonNext 63 = .ok (.iload_n 1, 1) := by decide +kernel
theorem dX3_reckonNext_64 : decode cX3_reckonNext 64 = .ok (.iaload, 1) := by decide +kernel
theorem dX3_reckonNext_65 : decode cX3_reckonNext 65 = .ok (.ifCond .ne 20, 3) := by decide +kernel
theorem dX3_reckonNext_68 : decode cX3_reckonNext 68 = .ok (.aload_n 0, 1) := by decide +kernel
theorem dX3_reckonNext_69 : decode cX3_reckonNext 69 = .ok (.getfield 15, 3) := by decide +kernel
theorem dX3_reckonNext_72 : decode cX3_reckonNext 72 = .ok (.getfield 53, 3) := by decide +kernel
theorem dX3_reckonNext_75 : decode cX3_reckonNext 75 = .ok (.iload_n 1, 1) := by decide +kernel
theorem dX3_reckonNext_76 : decode cX3_reckonNext 76 = .ok (.iaload, 1) := by decide +kernel
theorem dX3_reckonNext_77 : decode cX3_reckonNext 77 = .ok (.ifCond .ne 8, 3) := by decide +kernel
theorem dX3_reckonNext_80 : decode cX3_reckonNext 80 = .ok (.aload_n 0, 1) := by decide +kernel
theorem dX3_reckonNext_81 : decode cX3_reckonNext 81 = .ok (.iload_n 1, 1) := by decide +kernel
theorem dX3_reckonNext_82 : decode cX3_reckonNext 82 = .ok (.invokevirtual 56, 3) := by decide +kernel
theorem dX3_reckonNext_85 : decode cX3_reckonNext 85 = .ok (.return_, 1) := by decide +kernel
theorem dX3_reckonLong_0 : decode cX3_reckonLong 0 = .ok (.aload_n 0, 1) := by decide +kernel
theorem dX3_reckonLong_1 : decode cX3_reckonLong 1 = .ok (.getfield 15, 3) := by decide +kernel
theorem dX3_reckonLong_4 : decode cX3_reckonLong 4 = .ok (.iload_n 1, 1) := by decide +kernel
theorem dX3_reckonLong_5 : decode cX3_reckonLong 5 = .ok (.invokevirtual 38, 3) := by decide +kernel
theorem dX3_reckonLong_8 : decode cX3_reckonLong 8 = .ok (.ifCond .ne 4, 3) := by decide +kernel
theorem dX3_reckonLong_11 : decode cX3_reckonLong 11 = .ok (.return_, 1) := by decide +kernel
theorem dX3_reckonLong_12 : decode cX3_reckonLong 12 = .ok (.aload_n 0, 1) := by decide +kernel
theorem dX3_reckonLong_13 : decode cX3_reckonLong 13 = .ok (.getfield 15, 3) := by decide +kernel
theorem dX3_reckonLong_16 : decode cX3_reckonLong 16 = .ok (.getfield 59, 3) := by decide +kernel
theorem dX3_reckonLong_19 : decode cX3_reckonLong 19 = .ok (.iload_n 1, 1) := by decide +kernel
theorem dX3_reckonLong_20 : decode cX3_reckonLong 20 = .ok (.iaload, 1) := by decide +kernel
theorem dX3_reckonLong_21 : decode cX3_reckonLong 21 = .ok (.istore_n 2, 1) := by decide +kernel
theorem dX3_reckonLong_22 : decode cX3_reckonLong 22 = .ok (.aload_n 0, 1) := by decide +kernel
theorem dX3_reckonLong_23 : decode cX3_reckonLong 23 = .ok (.getfield 19, 3) := by decide +kernel
theorem dX3_reckonLong_26 : decode cX3_reckonLong 26 = .ok (.aload_n 0, 1) := by decide +kernel
theorem dX3_reckonLong_27 : decode cX3_reckonLong 27 = .ok (.getfield 15, 3) := by decide +kernel
theorem dX3_reckonLong_30 : decode cX3_reckonLong 30 = .ok (.getfield 62, 3) := by decide +kernel
theorem dX3_reckonLong_33 : decode cX3_reckonLong 33 = .ok (.iload_n 1, 1) := by decide +kernel
theorem dX3_reckonLong_34 : decode cX3_reckonLong 34 = .ok (.iaload, 1) := by decide +kernel
theorem dX3_reckonLong_35 : decode cX3_reckonLong 35 = .ok (.iload_n 2, 1) := by decide +kernel
theorem dX3_reckonLong_36 : decode cX3_reckonLong 36 = .ok (.invokevirtual 65, 3) := by decide +kernel
theorem dX3_reckonLong_39 : decode cX3_reckonLong 39 = .ok (.istore_n 3, 1) := by decide +kernel
theorem dX3_reckonLong_40 : decode cX3_reckonLong 40 = .ok (.iload_n 3, 1) := by decide +kernel
theorem dX3_reckonLong_41 : decode cX3_reckonLong 41 = .ok (.ifCond .ge 16, 3) := by decide +kernel
theorem dX3_reckonLong_44 : decode cX3_reckonLong 44 = .ok (.aload_n 0, 1) := by decide +kernel
theorem dX3_reckonLong_45 : decode cX3_reckonLong 45 = .ok (.getfield 15, 3) := by decide +kernel
theorem dX3_reckonLong_48 : decode cX3_reckonLong 48 = .ok (.getfield 69, 3) := by decide +kernel
theorem dX3_reckonLong_51 : decode cX3_reckonLong 51 = .ok (.iload_n 1, 1) := by decide +kernel
theorem dX3_reckonLong_52 : decode cX3_reckonLong 52 = .ok (.iconst 1, 1) := by decide +kernel
theorem dX3_reckonLong_53 : decode cX3_reckonLong 53 = .ok (.iastore, 1) := by decide +kernel
theorem dX3_reckonLong_54 : decode cX3_reckonLong 54 = .ok (.goto 12, 3) := by decide +kernel
theorem dX3_reckonLong_57 : decode cX3_reckonLong 57 = .ok (.aload_n 0, 1) := by decide +kernel
theorem dX3_reckonLong_58 : decode cX3_reckonLong 58 = .ok (.getfield 19, 3) := by decide +kernel
theorem dX3_reckonLong_61 : decode cX3_reckonLong 61 = .ok (.iload_n 3, 1) := by decide +kernel
theorem dX3_reckonLong_62 : decode cX3_reckonLong 62 = .ok (.iload_n 2, 1) := by decide +kernel
theorem dX3_reckonLong_63 : decode cX3_reckonLong 63 = .ok (.invokevirtual 72, 3) := by decide +kernel
theorem dX3_reckonLong_66 : decode cX3_reckonLong 66 = .ok (.return_, 1) := by decide +kernel
theorem dX3_reckonConviction_0 : decode cX3_reckonConviction 0 = .ok (.aload_n 0, 1) := by decide +kernel
theorem dX3_reckonConviction_1 : decode cX3_reckonConviction 1 = .ok (.getfield 15, 3) := by decide +kernel
theorem dX3_reckonConviction_4 : decode cX3_reckonConviction 4 = .ok (.iload_n 1, 1) := by decide +kernel
theorem dX3_reckonConviction_5 : decode cX3_reckonConviction 5 = .ok (.invokevirtual 38, 3) := by decide +kernel
theorem dX3_reckonConviction_8 : decode cX3_reckonConviction 8 = .ok (.ifCond .ne 4, 3) := by decide +kernel
theorem dX3_reckonConviction_11 : decode cX3_reckonConviction 11 = .ok (.return_, 1) := by decide +kernel
theorem dX3_reckonConviction_12 : decode cX3_reckonConviction 12 = .ok (.aload_n 0, 1) := by decide +kernel
theorem dX3_reckonConviction_13 : decode cX3_reckonConviction 13 = .ok (.getfield 15, 3) := by decide +kernel
theorem dX3_reckonConviction_16 : decode cX3_reckonConviction 16 = .ok (.getfield 62, 3) := by decide +kernel
theorem dX3_reckonConviction_19 : decode cX3_reckonConviction 19 = .ok (.iload_n 1, 1) := by decide +kernel
theorem dX3_reckonConviction_20 : decode cX3_reckonConviction 20 = .ok (.iaload, 1) := by decide +kernel
theorem dX3_reckonConviction_21 : decode cX3_reckonConviction 21 = .ok (.istore_n 2, 1) := by decide +kernel
theorem dX3_reckonConviction_22 : decode cX3_reckonConviction 22 = .ok (.aload_n 0, 1) := by decide +kernel
theorem dX3_reckonConviction_23 : decode cX3_reckonConviction 23 = .ok (.getfield 15, 3) := by decide +kernel
theorem dX3_reckonConviction_26 : decode cX3_reckonConviction 26 = .ok (.getfield 59, 3) := by decide +kernel
theorem dX3_reckonConviction_29 : decode cX3_reckonConviction 29 = .ok (.iload_n 1, 1) := by decide +kernel
theorem dX3_reckonConviction_30 : decode cX3_reckonConviction 30 = .ok (.iaload, 1) := by decide +kernel
theorem dX3_reckonConviction_31 : decode cX3_reckonConviction 31 = .ok (.istore_n 3, 1) := by decide +kernel
theorem dX3_reckonConviction_32 : decode cX3_reckonConviction 32 = .ok (.aload_n 0, 1) := by decide +kernel
theorem dX3_reckonConviction_33 : decode cX3_reckonConviction 33 = .ok (.getfield 15, 3) := by decide +kernel
theorem dX3_reckonConviction_36 : decode cX3_reckonConviction 36 = .ok (.getfield 76, 3) := by decide +kernel
theorem dX3_reckonConviction_39 : decode cX3_reckonConviction 39 = .ok (.iload_n 1, 1) := by decide +kernel
theorem dX3_reckonConviction_40 : decode cX3_reckonConviction 40 = .ok (.iaload, 1) := by decide +kernel
theorem dX3_reckonConviction_41 : decode cX3_reckonConviction 41 = .ok (.istore 4, 2) := by decide +kernel
theorem dX3_reckonConviction_43 : decode cX3_reckonConviction 43 = .ok (.aload_n 0, 1) := by decide +kernel
theorem dX3_reckonConviction_44 : decode cX3_reckonConviction 44 = .ok (.getfield 19, 3) := by decide +kernel
theorem dX3_reckonConviction_47 : decode cX3_reckonConviction 47 = .ok (.iload_n 2, 1) := by decide +kernel
theorem dX3_reckonConviction_48 : decode cX3_reckonConviction 48 = .ok (.iload 4, 2) := by decide +kernel
theorem dX3_reckonConviction_50 : decode cX3_reckonConviction 50 = .ok (.invokevirtual 79, 3) := by decide +kernel
theorem dX3_reckonConviction_53 : decode cX3_reckonConviction 53 = .ok (.istore 5, 2) := by decide +kernel
theorem dX3_reckonConviction_55 : decode cX3_reckonConviction 55 = .ok (.aload_n 0, 1) := by decide +kernel
theorem dX3_reckonConviction_56 : decode cX3_reckonConviction 56 = .ok (.getfield 15, 3) := by decide +kernel
theorem dX3_reckonConviction_59 : decode cX3_reckonConviction 59 = .ok (.getfield 83, 3) := by decide +kernel
theorem dX3_reckonConviction_62 : decode cX3_reckonConviction 62 = .ok (.iload_n 1, 1) := by decide +kernel
theorem dX3_reckonConviction_63 : decode cX3_reckonConviction 63 = .ok (.iload 5, 2) := by decide +kernel
theorem dX3_reckonConviction_65 : decode cX3_reckonConviction 65 = .ok (.ifCond .eq 7, 3) := by decide +kernel
theorem dX3_reckonConviction_68 : decode cX3_reckonConviction 68 = .ok (.iconst 1, 1) := by decide +kernel
theorem dX3_reckonConviction_69 : decode cX3_reckonConviction 69 = .ok (.goto 4, 3) := by decide +kernel
theorem dX3_reckonConviction_72 : decode cX3_reckonConviction 72 = .ok (.iconst 0, 1) := by decide +kernel
theorem dX3_reckonConviction_73 : decode cX3_reckonConviction 73 = .ok (.iastore, 1) := by decide +kernel
theorem dX3_reckonConviction_74 : decode cX3_reckonConviction 74 = .ok (.aload_n 0, 1) := by decide +kernel
theorem dX3_reckonConviction_75 : decode cX3_reckonConviction 75 = .ok (.getfield 15, 3) := by decide +kernel
theorem dX3_reckonConviction_78 : decode cX3_reckonConviction 78 = .ok (.getfield 86, 3) := by decide +kernel
theorem dX3_reckonConviction_81 : decode cX3_reckonConviction 81 = .ok (.iload_n 1, 1) := by decide +kernel
theorem dX3_reckonConviction_82 : decode cX3_reckonConviction 82 = .ok (.iload 5, 2) := by decide +kernel
theorem dX3_reckonConviction_84 : decode cX3_reckonConviction 84 = .ok (.ifCond .eq 17, 3) := by decide +kernel
theorem dX3_reckonConviction_87 : decode cX3_reckonConviction 87 = .ok (.iconst 2, 1) := by decide +kernel
theorem dX3_reckonConviction_88 : decode cX3_reckonConviction 88 = .ok (.aload_n 0, 1) := by decide +kernel
theorem dX3_reckonConviction_89 : decode cX3_reckonConviction 89 = .ok (.getfield 15, 3) := by decide +kernel
theorem dX3_reckonConviction_92 : decode cX3_reckonConviction 92 = .ok (.getfield 89, 3) := by decide +kernel
theorem dX3_reckonConviction_95 : decode cX3_reckonConviction 95 = .ok (.iload_n 1, 1) := by decide +kernel
theorem dX3_reckonConviction_96 : decode cX3_reckonConviction 96 = .ok (.iaload, 1) := by decide +kernel
theorem dX3_reckonConviction_97 : decode cX3_reckonConviction 97 = .ok (.imul, 1) := by decide +kernel
theorem dX3_reckonConviction_98 : decode cX3_reckonConviction 98 = .ok (.goto 12, 3) := by decide +kernel
theorem dX3_reckonConviction_101 : decode cX3_reckonConviction 101 = .ok (.aload_n 0, 1) := by decide +kernel
theorem dX3_reckonConviction_102 : decode cX3_reckonConviction 102 = .ok (.getfield 15, 3) := by decide +kernel
theorem dX3_reckonConviction_105 : decode cX3_reckonConviction 105 = .ok (.getfield 89, 3) := by decide +kernel
theorem dX3_reckonConviction_108 : decode cX3_reckonConviction 108 = .ok (.iload_n 1, 1) := by decide +kernel
theorem dX3_reckonConviction_109 : decode cX3_reckonConviction 109 = .ok (.iaload, 1) := by decide +kernel
theorem dX3_reckonConviction_110 : decode cX3_reckonConviction 110 = .ok (.iastore, 1) := by decide +kernel
theorem dX3_reckonConviction_111 : decode cX3_reckonConviction 111 = .ok (.aload_n 0, 1) := by decide +kernel
theorem dX3_reckonConviction_112 : decode cX3_reckonConviction 112 = .ok (.getfield 9, 3) := by decide +kernel
theorem dX3_reckonConviction_115 : decode cX3_reckonConviction 115 = .ok (.aload_n 0, 1) := by decide +kernel
theorem dX3_reckonConviction_116 : decode cX3_reckonConviction 116 = .ok (.getfield 15, 3) := by decide +kernel
theorem dX3_reckonConviction_119 : decode cX3_reckonConviction 119 = .ok (.getfield 92, 3) := by decide +kernel
theorem dX3_reckonConviction_122 : decode cX3_reckonConviction 122 = .ok (.iload_n 1, 1) := by decide +kernel
theorem dX3_reckonConviction_123 : decode cX3_reckonConviction 123 = .ok (.iaload, 1) := by decide +kernel
theorem dX3_reckonConviction_124 : decode cX3_reckonConviction 124 = .ok (.invokevirtual 95, 3) := by decide +kernel
theorem dX3_reckonConviction_127 : decode cX3_reckonConviction 127 = .ok (.istore 6, 2) := by decide +kernel
theorem dX3_reckonConviction_129 : decode cX3_reckonConviction 129 = .ok (.iload 6, 2) := by decide +kernel
theorem dX3_reckonConviction_131 : decode cX3_reckonConviction 131 = .ok (.ifCond .le 17, 3) := by decide +kernel
theorem dX3_reckonConviction_134 : decode cX3_reckonConviction 134 = .ok (.aload_n 0, 1) := by decide +kernel
theorem dX3_reckonConviction_135 : decode cX3_reckonConviction 135 = .ok (.getfield 19, 3) := by decide +kernel
theorem dX3_reckonConviction_138 : decode cX3_reckonConviction 138 = .ok (.iload_n 2, 1) := by decide +kernel
theorem dX3_reckonConviction_139 : decode cX3_reckonConviction 139 = .ok (.iload_n 3, 1) := by decide +kernel
theorem dX3_reckonConviction_140 : decode cX3_reckonConviction 140 = .ok (.iload 6, 2) := by decide +kernel
theorem dX3_reckonConviction_142 : decode cX3_reckonConviction 142 = .ok (.iload_n 1, 1) := by decide +kernel
theorem dX3_reckonConviction_143 : decode cX3_reckonConviction 143 = .ok (.iload_n 3, 1) := by decide +kernel
theorem dX3_reckonConviction_144 : decode cX3_reckonConviction 144 = .ok (.iconst 0, 1) := by decide +kernel
theorem dX3_reckonConviction_145 : decode cX3_reckonConviction 145 = .ok (.invokevirtual 101, 3) := by decide +kernel
theorem dX3_reckonConviction_148 : decode cX3_reckonConviction 148 = .ok (.aload_n 0, 1) := by decide +kernel
theorem dX3_reckonConviction_149 : decode cX3_reckonConviction 149 = .ok (.getfield 15, 3) := by decide +kernel
theorem dX3_reckonConviction_152 : decode cX3_reckonConviction 152 = .ok (.getfield 105, 3) := by decide +kernel
theorem dX3_reckonConviction_155 : decode cX3_reckonConviction 155 = .ok (.iload_n 1, 1) := by decide +kernel
theorem dX3_reckonConviction_156 : decode cX3_reckonConviction 156 = .ok (.iaload, 1) := by decide +kernel
theorem dX3_reckonConviction_157 : decode cX3_reckonConviction 157 = .ok (.ifCond .ne 28, 3) := by decide +kernel
theorem dX3_reckonConviction_160 : decode cX3_reckonConviction 160 = .ok (.aload_n 0, 1) := by decide +kernel
theorem dX3_reckonConviction_161 : decode cX3_reckonConviction 161 = .ok (.iload_n 2, 1) := by decide +kernel
theorem dX3_reckonConviction_162 : decode cX3_reckonConviction 162 = .ok (.iload 4, 2) := by decide +kernel
theorem dX3_reckonConviction_164 : decode cX3_reckonConviction 164 = .ok (.invokevirtual 108, 3) := by decide +kernel
theorem dX3_reckonConviction_167 : decode cX3_reckonConviction 167 = .ok (.aload_n 0, 1) := by decide +kernel
theorem dX3_reckonConviction_168 : decode cX3_reckonConviction 168 = .ok (.getfield 9, 3) := by decide +kernel
theorem dX3_reckonConviction_171 : decode cX3_reckonConviction 171 = .ok (.iconst 1, 1) := by decide +kernel
theorem dX3_reckonConviction_172 : decode cX3_reckonConviction 172 = .ok (.invokevirtual 111, 3) := by decide +kernel
theorem dX3_reckonConviction_175 : decode cX3_reckonConviction 175 = .ok (.if_icmp .lt 10, 3) := by decide +kernel
theorem dX3_reckonConviction_178 : decode cX3_reckonConviction 178 = .ok (.aload_n 0, 1) := by decide +kernel
theorem dX3_reckonConviction_179 : decode cX3_reckonConviction 179 = .ok (.iload_n 2, 1) := by decide +kernel
theorem dX3_reckonConviction_180 : decode cX3_reckonConviction 180 = .ok (.iload_n 1, 1) := by decide +kernel
theorem dX3_reckonConviction_181 : decode cX3_reckonConviction 181 = .ok (.iload_n 3, 1) := by decide +kernel
theorem dX3_reckonConviction_182 : decode cX3_reckonConviction 182 = .ok (.invokevirtual 114, 3) := by decide +kernel
theorem dX3_reckonConviction_185 : decode cX3_reckonConviction 185 = .ok (.return_, 1) := by decide +kernel
theorem dX3_giveGreatBan_0 : decode cX3_giveGreatBan 0 = .ok (.aload_n 0, 1) := by decide +kernel
theorem dX3_giveGreatBan_1 : decode cX3_giveGreatBan 1 = .ok (.getfield 19, 3) := by decide +kernel
theorem dX3_giveGreatBan_4 : decode cX3_giveGreatBan 4 = .ok (.iload_n 1, 1) := by decide +kernel
theorem dX3_giveGreatBan_5 : decode cX3_giveGreatBan 5 = .ok (.iload_n 3, 1) := by decide +kernel
theorem dX3_giveGreatBan_6 : decode cX3_giveGreatBan 6 = .ok (.aload_n 0, 1) := by decide +kernel
theorem dX3_giveGreatBan_7 : decode cX3_giveGreatBan 7 = .ok (.getfield 9, 3) := by decide +kernel
theorem dX3_giveGreatBan_10 : decode cX3_giveGreatBan 10 = .ok (.iconst 3, 1) := by decide +kernel
theorem dX3_giveGreatBan_11 : decode cX3_giveGreatBan 11 = .ok (.invokevirtual 111, 3) := by decide +kernel
theorem dX3_giveGreatBan_14 : decode cX3_giveGreatBan 14 = .ok (.isub, 1) := by decide +kernel
theorem dX3_giveGreatBan_15 : decode cX3_giveGreatBan 15 = .ok (.invokevirtual 118, 3) := by decide +kernel
theorem dX3_giveGreatBan_18 : decode cX3_giveGreatBan 18 = .ok (.istore 4, 2) := by decide +kernel
theorem dX3_giveGreatBan_20 : decode cX3_giveGreatBan 20 = .ok (.iload 4, 2) := by decide +kernel
theorem dX3_giveGreatBan_22 : decode cX3_giveGreatBan 22 = .ok (.ifCond .ne 7, 3) := by decide +kernel
theorem dX3_giveGreatBan_25 : decode cX3_giveGreatBan 25 = .ok (.iconst 1, 1) := by decide +kernel
theorem dX3_giveGreatBan_26 : decode cX3_giveGreatBan 26 = .ok (.goto 14, 3) := by decide +kernel
theorem dX3_giveGreatBan_29 : decode cX3_giveGreatBan 29 = .ok (.iload 4, 2) := by decide +kernel
theorem dX3_giveGreatBan_31 : decode cX3_giveGreatBan 31 = .ok (.iconst 1, 1) := by decide +kernel
theorem dX3_giveGreatBan_32 : decode cX3_giveGreatBan 32 = .ok (.if_icmp .ne 7, 3) := by decide +kernel
theorem dX3_giveGreatBan_35 : decode cX3_giveGreatBan 35 = .ok (.iconst 2, 1) := by decide +kernel
theorem dX3_giveGreatBan_36 : decode cX3_giveGreatBan 36 = .ok (.goto 4, 3) := by decide +kernel
theorem dX3_giveGreatBan_39 : decode cX3_giveGreatBan 39 = .ok (.iconst 4, 1) := by decide +kernel
theorem dX3_giveGreatBan_40 : decode cX3_giveGreatBan 40 = .ok (.istore 5, 2) := by decide +kernel
theorem dX3_giveGreatBan_42 : decode cX3_giveGreatBan 42 = .ok (.iload_n 3, 1) := by decide +kernel
theorem dX3_giveGreatBan_43 : decode cX3_giveGreatBan 43 = .ok (.aload_n 0, 1) := by decide +kernel
theorem dX3_giveGreatBan_44 : decode cX3_giveGreatBan 44 = .ok (.getfield 19, 3) := by decide +kernel
theorem dX3_giveGreatBan_47 : decode cX3_giveGreatBan 47 = .ok (.iload_n 1, 1) := by decide +kernel
theorem dX3_giveGreatBan_48 : decode cX3_giveGreatBan 48 = .ok (.invokevirtual 121, 3) := by decide +kernel
theorem dX3_giveGreatBan_51 : decode cX3_giveGreatBan 51 = .ok (.iconst 1, 1) := by decide +kernel
theorem dX3_giveGreatBan_52 : decode cX3_giveGreatBan 52 = .ok (.iadd, 1) := by decide +kernel
theorem dX3_giveGreatBan_53 : decode cX3_giveGreatBan 53 = .ok (.invokestatic 124, 3) := by decide +kernel
theorem dX3_giveGreatBan_56 : decode cX3_giveGreatBan 56 = .ok (.istore 6, 2) := by decide +kernel
theorem dX3_giveGreatBan_58 : decode cX3_giveGreatBan 58 = .ok (.aload_n 0, 1) := by decide +kernel
theorem dX3_giveGreatBan_59 : decode cX3_giveGreatBan 59 = .ok (.getfield 19, 3) := by decide +kernel
theorem dX3_giveGreatBan_62 : decode cX3_giveGreatBan 62 = .ok (.iload_n 1, 1) := by decide +kernel
theorem dX3_giveGreatBan_63 : decode cX3_giveGreatBan 63 = .ok (.iload 6, 2) := by decide +kernel
theorem dX3_giveGreatBan_65 : decode cX3_giveGreatBan 65 = .ok (.iload 5, 2) := by decide +kernel
theorem dX3_giveGreatBan_67 : decode cX3_giveGreatBan 67 = .ok (.aload_n 0, 1) := by decide +kernel
theorem dX3_giveGreatBan_68 : decode cX3_giveGreatBan 68 = .ok (.getfield 9, 3) := by decide +kernel
theorem dX3_giveGreatBan_71 : decode cX3_giveGreatBan 71 = .ok (.iconst 2, 1) := by decide +kernel
theorem dX3_giveGreatBan_72 : decode cX3_giveGreatBan 72 = .ok (.invokevirtual 111, 3) := by decide +kernel
theorem dX3_giveGreatBan_75 : decode cX3_giveGreatBan 75 = .ok (.imul, 1) := by decide +kernel
theorem dX3_giveGreatBan_76 : decode cX3_giveGreatBan 76 = .ok (.iload_n 2, 1) := by decide +kernel
theorem dX3_giveGreatBan_77 : decode cX3_giveGreatBan 77 = .ok (.iload_n 3, 1) := by decide +kernel
theorem dX3_giveGreatBan_78 : decode cX3_giveGreatBan 78 = .ok (.iconst 1, 1) := by decide +kernel
theorem dX3_giveGreatBan_79 : decode cX3_giveGreatBan 79 = .ok (.invokevirtual 101, 3) := by decide +kernel
theorem dX3_giveGreatBan_82 : decode cX3_giveGreatBan 82 = .ok (.aload_n 0, 1) := by decide +kernel
theorem dX3_giveGreatBan_83 : decode cX3_giveGreatBan 83 = .ok (.getfield 15, 3) := by decide +kernel
theorem dX3_giveGreatBan_86 : decode cX3_giveGreatBan 86 = .ok (.iload_n 1, 1) := by decide +kernel
theorem dX3_giveGreatBan_87 : decode cX3_giveGreatBan 87 = .ok (.aload_n 0, 1) := by decide +kernel
theorem dX3_giveGreatBan_88 : decode cX3_giveGreatBan 88 = .ok (.getfield 29, 3) := by decide +kernel
theorem dX3_giveGreatBan_91 : decode cX3_giveGreatBan 91 = .ok (.invokevirtual 129, 3) := by decide +kernel
theorem dX3_giveGreatBan_94 : decode cX3_giveGreatBan 94 = .ok (.return_, 1) := by decide +kernel
theorem dX3_heaviest_0 : decode cX3_heaviest 0 = .ok (.aload_n 0, 1) := by decide +kernel
theorem dX3_heaviest_1 : decode cX3_heaviest 1 = .ok (.getfield 9, 3) := by decide +kernel
theorem dX3_heaviest_4 : decode cX3_heaviest 4 = .ok (.iconst 0, 1) := by decide +kernel
theorem dX3_heaviest_5 : decode cX3_heaviest 5 = .ok (.invokevirtual 111, 3) := by decide +kernel
theorem dX3_heaviest_8 : decode cX3_heaviest 8 = .ok (.istore_n 3, 1) := by decide +kernel
theorem dX3_heaviest_9 : decode cX3_heaviest 9 = .ok (.iload_n 2, 1) := by decide +kernel
theorem dX3_heaviest_10 : decode cX3_heaviest 10 = .ok (.iload_n 3, 1) := by decide +kernel
theorem dX3_heaviest_11 : decode cX3_heaviest 11 = .ok (.isub, 1) := by decide +kernel
theorem dX3_heaviest_12 : decode cX3_heaviest 12 = .ok (.iconst 1, 1) := by decide +kernel
theorem dX3_heaviest_13 : decode cX3_heaviest 13 = .ok (.iadd, 1) := by decide +kernel
theorem dX3_heaviest_14 : decode cX3_heaviest 14 = .ok (.istore 4, 2) := by decide +kernel
theorem dX3_heaviest_16 : decode cX3_heaviest 16 = .ok (.aload_n 0, 1) := by decide +kernel
theorem dX3_heaviest_17 : decode cX3_heaviest 17 = .ok (.getfield 15, 3) := by decide +kernel
theorem dX3_heaviest_20 : decode cX3_heaviest 20 = .ok (.iload_n 1, 1) := by decide +kernel
theorem dX3_heaviest_21 : decode cX3_heaviest 21 = .ok (.aload_n 0, 1) := by decide +kernel
theorem dX3_heaviest_22 : decode cX3_heaviest 22 = .ok (.getfield 29, 3) := by decide +kernel
theorem dX3_heaviest_25 : decode cX3_heaviest 25 = .ok (.iload 4, 2) := by decide +kernel
theorem dX3_heaviest_27 : decode cX3_heaviest 27 = .ok (.iload_n 3, 1) := by decide +kernel
theorem dX3_heaviest_28 : decode cX3_heaviest 28 = .ok (.invokevirtual 132, 3) := by decide +kernel
theorem dX3_heaviest_31 : decode cX3_heaviest 31 = .ok (.istore 5, 2) := by decide +kernel
theorem dX3_heaviest_33 : decode cX3_heaviest 33 = .ok (.iconst 0, 1) := by decide +kernel
theorem dX3_heaviest_34 : decode cX3_heaviest 34 = .ok (.istore 6, 2) := by decide +kernel
theorem dX3_heaviest_36 : decode cX3_heaviest 36 = .ok (.iload 6, 2) := by decide +kernel
theorem dX3_heaviest_38 : decode cX3_heaviest 38 = .ok (.aload_n 0, 1) := by decide +kernel
theorem dX3_heaviest_39 : decode cX3_heaviest 39 = .ok (.getfield 29, 3) := by decide +kernel
theorem dX3_heaviest_42 : decode cX3_heaviest 42 = .ok (.if_icmp .ge 109, 3) := by decide +kernel
theorem dX3_heaviest_45 : decode cX3_heaviest 45 = .ok (.iload 6, 2) := by decide +kernel
theorem dX3_heaviest_47 : decode cX3_heaviest 47 = .ok (.bipush 41, 2) := by decide +kernel
theorem dX3_heaviest_49 : decode cX3_heaviest 49 = .ok (.if_icmp .ge 102, 3) := by decide +kernel
theorem dX3_heaviest_52 : decode cX3_heaviest 52 = .ok (.aload_n 0, 1) := by decide +kernel
theorem dX3_heaviest_53 : decode cX3_heaviest 53 = .ok (.getfield 15, 3) := by decide +kernel
theorem dX3_heaviest_56 : decode cX3_heaviest 56 = .ok (.getfield 46, 3) := by decide +kernel
theorem dX3_heaviest_59 : decode cX3_heaviest 59 = .ok (.iload 6, 2) := by decide +kernel
theorem dX3_heaviest_61 : decode cX3_heaviest 61 = .ok (.iaload, 1) := by decide +kernel
theorem dX3_heaviest_62 : decode cX3_heaviest 62 = .ok (.ifCond .ne 20, 3) := by decide +kernel
theorem dX3_heaviest_65 : decode cX3_heaviest 65 = .ok (.aload_n 0, 1) := by decide +kernel
theorem dX3_heaviest_66 : decode cX3_heaviest 66 = .ok (.getfield 15, 3) := by decide +kernel
theorem dX3_heaviest_69 : decode cX3_heaviest 69 = .ok (.getfield 76, 3) := by decide +kernel
theorem dX3_heaviest_72 : decode cX3_heaviest 72 = .ok (.iload 6, 2) := by decide +kernel
theorem dX3_heaviest_74 : decode cX3_heaviest 74 = .ok (.iaload, 1) := by decide +kernel
theorem dX3_heaviest_75 : decode cX3_heaviest 75 = .ok (.iload_n 3, 1) := by decide +kernel
theorem dX3_heaviest_76 : decode cX3_heaviest 76 = .ok (.isub, 1) := by decide +kernel
theorem dX3_heaviest_77 : decode cX3_heaviest 77 = .ok (.iconst 1, 1) := by decide +kernel
theorem dX3_heaviest_78 : decode cX3_heaviest 78 = .ok (.iadd, 1) := by decide +kernel
theorem dX3_heaviest_79 : decode cX3_heaviest 79 = .ok (.goto 15, 3) := by decide +kernel
theorem dX3_heaviest_82 : decode cX3_heaviest 82 = .ok (.aload_n 0, 1) := by decide +kernel
theorem dX3_heaviest_83 : decode cX3_heaviest 83 = .ok (.getfield 15, 3) := by decide +kernel
theorem dX3_heaviest_86 : decode cX3_heaviest 86 = .ok (.getfield 59, 3) := by decide +kernel
theorem dX3_heaviest_89 : decode cX3_heaviest 89 = .ok (.iload 6, 2) := by decide +kernel
theorem dX3_heaviest_91 : decode cX3_heaviest 91 = .ok (.iaload, 1) := by decide +kernel
theorem dX3_heaviest_92 : decode cX3_heaviest 92 = .ok (.iconst 1, 1) := by decide +kernel
theorem dX3_heaviest_93 : decode cX3_heaviest 93 = .ok (.iadd, 1) := by decide +kernel
theorem dX3_heaviest_94 : decode cX3_heaviest 94 = .ok (.istore 7, 2) := by decide +kernel
theorem dX3_heaviest_96 : decode cX3_heaviest 96 = .ok (.aload_n 0, 1) := by decide +kernel
theorem dX3_heaviest_97 : decode cX3_heaviest 97 = .ok (.getfield 15, 3) := by decide +kernel
theorem dX3_heaviest_100 : decode cX3_heaviest 100 = .ok (.getfield 62, 3) := by decide +kernel
theorem dX3_heaviest_103 : decode cX3_heaviest 103 = .ok (.iload 6, 2) := by decide +kernel
theorem dX3_heaviest_105 : decode cX3_heaviest 105 = .ok (.iaload, 1) := by decide +kernel
theorem dX3_heaviest_106 : decode cX3_heaviest 106 = .ok (.iload_n 1, 1) := by decide +kernel
theorem dX3_heaviest_107 : decode cX3_heaviest 107 = .ok (.if_icmp .ne 38, 3) := by decide +kernel
theorem dX3_heaviest_110 : decode cX3_heaviest 110 = .ok (.iload 7, 2) := by decide +kernel
theorem dX3_heaviest_112 : decode cX3_heaviest 112 = .ok (.iload 4, 2) := by decide +kernel
theorem dX3_heaviest_114 : decode cX3_heaviest 114 = .ok (.if_icmp .le 31, 3) := by decide +kernel
theorem dX3_heaviest_117 : decode cX3_heaviest 117 = .ok (.iload 7, 2) := by decide +kernel
theorem dX3_heaviest_119 : decode cX3_heaviest 119 = .ok (.iload_n 2, 1) := by decide +kernel
theorem dX3_heaviest_120 : decode cX3_heaviest 120 = .ok (.if_icmp .gt 25, 3) := by decide +kernel
theorem dX3_heaviest_123 : decode cX3_heaviest 123 = .ok (.iload 5, 2) := by decide +kernel
theorem dX3_heaviest_125 : decode cX3_heaviest 125 = .ok (.aload_n 0, 1) := by decide +kernel
theorem dX3_heaviest_126 : decode cX3_heaviest 126 = .ok (.getfield 15, 3) := by decide +kernel
theorem dX3_heaviest_129 : decode cX3_heaviest 129 = .ok (.iload_n 1, 1) := by decide +kernel
theorem dX3_heaviest_130 : decode cX3_heaviest 130 = .ok (.aload_n 0, 1) := by decide +kernel
theorem dX3_heaviest_131 : decode cX3_heaviest 131 = .ok (.getfield 29, 3) := by decide +kernel
theorem dX3_heaviest_134 : decode cX3_heaviest 134 = .ok (.iload 7, 2) := by decide +kernel
theorem dX3_heaviest_136 : decode cX3_heaviest 136 = .ok (.iload_n 3, 1) := by decide +kernel
theorem dX3_heaviest_137 : decode cX3_heaviest 137 = .ok (.invokevirtual 132, 3) := by decide +kernel
theorem dX3_heaviest_140 : decode cX3_heaviest 140 = .ok (.invokestatic 124, 3) := by decide +kernel
theorem dX3_heaviest_143 : decode cX3_heaviest 143 = .ok (.istore 5, 2) := by decide +kernel
theorem dX3_heaviest_145 : decode cX3_heaviest 145 = .ok (.iinc 6 1, 3) := by decide +kernel
theorem dX3_heaviest_148 : decode cX3_heaviest 148 = .ok (.goto (-112), 3) := by decide +kernel
theorem dX3_heaviest_151 : decode cX3_heaviest 151 = .ok (.iload 5, 2) := by decide +kernel
theorem dX3_heaviest_153 : decode cX3_heaviest 153 = .ok (.ireturn, 1) := by decide +kernel
theorem dX4_add_0 : decode cX4_add 0 = .ok (.aload_n 0, 1) := by decide +kernel
theorem dX4_add_1 : decode cX4_add 1 = .ok (.getfield 15, 3) := by decide +kernel
theorem dX4_add_4 : decode cX4_add 4 = .ok (.ifCond .lt 13, 3) := by decide +kernel
theorem dX4_add_7 : decode cX4_add 7 = .ok (.aload_n 0, 1) := by decide +kernel
theorem dX4_add_8 : decode cX4_add 8 = .ok (.getfield 15, 3) := by decide +kernel
theorem dX4_add_11 : decode cX4_add 11 = .ok (.sipush 200, 3) := by decide +kernel
theorem dX4_add_14 : decode cX4_add 14 = .ok (.if_icmp .lt 5, 3) := by decide +kernel
theorem dX4_add_17 : decode cX4_add 17 = .ok (.iconst 0, 1) := by decide +kernel
theorem dX4_add_18 : decode cX4_add 18 = .ok (.ireturn, 1) := by decide +kernel
theorem dX4_add_19 : decode cX4_add 19 = .ok (.aload_n 0, 1) := by decide +kernel
theorem dX4_add_20 : decode cX4_add 20 = .ok (.getfield 9, 3) := by decide +kernel
theorem dX4_add_23 : decode cX4_add 23 = .ok (.aload_n 0, 1) := by decide +kernel
theorem dX4_add_24 : decode cX4_add 24 = .ok (.getfield 15, 3) := by decide +kernel
theorem dX4_add_27 : decode cX4_add 27 = .ok (.iload_n 1, 1) := by decide +kernel
theorem dX4_add_28 : decode cX4_add 28 = .ok (.iastore, 1) := by decide +kernel
theorem dX4_add_29 : decode cX4_add 29 = .ok (.aload_n 0, 1) := by decide +kernel
theorem dX4_add_30 : decode cX4_add 30 = .ok (.dup, 1) := by decide +kernel
theorem dX4_add_31 : decode cX4_add 31 = .ok (.getfield 15, 3) := by decide +kernel
theorem dX4_add_34 : decode cX4_add 34 = .ok (.iconst 1, 1) := by decide +kernel
theorem dX4_add_35 : decode cX4_add 35 = .ok (.iadd, 1) := by decide +kernel
theorem dX4_add_36 : decode cX4_add 36 = .ok (.putfield 15, 3) := by decide +kernel
theorem dX4_add_39 : decode cX4_add 39 = .ok (.iconst 1, 1) := by decide +kernel
theorem dX4_add_40 : decode cX4_add 40 = .ok (.ireturn, 1) := by decide +kernel
theorem dX4_clear_0 : decode cX4_clear 0 = .ok (.aload_n 0, 1) := by decide +kernel
theorem dX4_clear_1 : decode cX4_clear 1 = .ok (.iconst 0, 1) := by decide +kernel
theorem dX4_clear_2 : decode cX4_clear 2 = .ok (.putfield 15, 3) := by decide +kernel
theorem dX4_clear_5 : decode cX4_clear 5 = .ok (.return_, 1) := by decide +kernel
theorem dX4_readInto_0 : decode cX4_readInto 0 = .ok (.aload_n 1, 1) := by decide +kernel
theorem dX4_readInto_1 : decode cX4_readInto 1 = .ok (.invokevirtual 19, 3) := by decide +kernel
theorem dX4_readInto_4 : decode cX4_readInto 4 = .ok (.aload_n 0, 1) := by decide +kernel
theorem dX4_readInto_5 : decode cX4_readInto 5 = .ok (.iconst 0, 1) := by decide +kernel
theorem dX4_readInto_6 : decode cX4_readInto 6 = .ok (.putfield 24, 3) := by decide +kernel
theorem dX4_readInto_9 : decode cX4_readInto 9 = .ok (.aload_n 0, 1) := by decide +kernel
theorem dX4_readInto_10 : decode cX4_readInto 10 = .ok (.iconst 0, 1) := by decide +kernel
theorem dX4_readInto_11 : decode cX4_readInto 11 = .ok (.putfield 27, 3) := by decide +kernel
theorem dX4_readInto_14 : decode cX4_readInto 14 = .ok (.iconst 0, 1) := by decide +kernel
theorem dX4_readInto_15 : decode cX4_readInto 15 = .ok (.istore_n 2, 1) := by decide +kernel
theorem dX4_readInto_16 : decode cX4_readInto 16 = .ok (.iload_n 2, 1) := by decide +kernel
theorem dX4_readInto_17 : decode cX4_readInto 17 = .ok (.sipush 200, 3) := by decide +kernel
theorem dX4_readInto_20 : decode cX4_readInto 20 = .ok (.if_icmp .ge 40, 3) := by decide +kernel
theorem dX4_readInto_23 : decode cX4_readInto 23 = .ok (.aload_n 0, 1) := by decide +kernel
theorem dX4_readInto_24 : decode cX4_readInto 24 = .ok (.getfield 24, 3) := by decide +kernel
theorem dX4_readInto_27 : decode cX4_readInto 27 = .ok (.aload_n 0, 1) := by decide +kernel
theorem dX4_readInto_28 : decode cX4_readInto 28 = .ok (.getfield 15, 3) := by decide +kernel
theorem dX4_readInto_31 : decode cX4_readInto 31 = .ok (.if_icmp .ge 29, 3) := by decide +kernel
theorem dX4_readInto_34 : decode cX4_readInto 34 = .ok (.aload_n 0, 1) := by decide +kernel
theorem dX4_readInto_35 : decode cX4_readInto 35 = .ok (.getfield 27, 3) := by decide +kernel
theorem dX4_readInto_38 : decode cX4_readInto 38 = .ok (.ifCond .ne 22, 3) := by decide +kernel
theorem dX4_readInto_41 : decode cX4_readInto 41 = .ok (.aload_n 0, 1) := by decide +kernel
theorem dX4_readInto_42 : decode cX4_readInto 42 = .ok (.aload_n 0, 1) := by decide +kernel
theorem dX4_readInto_43 : decode cX4_readInto 43 = .ok (.getfield 24, 3) := by decide +kernel
theorem dX4_readInto_46 : decode cX4_readInto 46 = .ok (.putfield 30, 3) := by decide +kernel
theorem dX4_readInto_49 : decode cX4_readInto 49 = .ok (.aload_n 0, 1) := by decide +kernel
theorem dX4_readInto_50 : decode cX4_readInto 50 = .ok (.aload_n 1, 1) := by decide +kernel
theorem dX4_readInto_51 : decode cX4_readInto 51 = .ok (.invokevirtual 33, 3) := by decide +kernel
theorem dX4_readInto_54 : decode cX4_readInto 54 = .ok (.iinc 2 1, 3) := by decide +kernel
theorem dX4_readInto_57 : decode cX4_readInto 57 = .ok (.goto (-41), 3) := by decide +kernel
theorem dX4_readInto_60 : decode cX4_readInto 60 = .ok (.return_, 1) := by decide +kernel
theorem dX4_readItem_0 : decode cX4_readItem 0 = .ok (.aload_n 0, 1) := by decide +kernel
theorem dX4_readItem_1 : decode cX4_readItem 1 = .ok (.invokevirtual 37, 3) := by decide +kernel
theorem dX4_readItem_4 : decode cX4_readItem 4 = .ok (.istore_n 2, 1) := by decide +kernel
theorem dX4_readItem_5 : decode cX4_readItem 5 = .ok (.aload_n 0, 1) := by decide +kernel
theorem dX4_readItem_6 : decode cX4_readItem 6 = .ok (.dup, 1) := by decide +kernel
theorem dX4_readItem_7 : decode cX4_readItem 7 = .ok (.getfield 24, 3) := by decide +kernel
theorem dX4_readItem_10 : decode cX4_readItem 10 = .ok (.iconst 1, 1) := by decide +kernel
theorem dX4_readItem_11 : decode cX4_readItem 11 = .ok (.iadd, 1) := by decide +kernel
theorem dX4_readItem_12 : decode cX4_readItem 12 = .ok (.putfield 24, 3) := by decide +kernel
theorem dX4_readItem_15 : decode cX4_readItem 15 = .ok (.iload_n 2, 1) := by decide +kernel
theorem dX4_readItem_16 : decode cX4_readItem 16 = .ok (.lookupswitch 125 #[(98, 80), (107, 117), (108, 70), (109, 90), (115, 100), (119, 60)], 60) := by decide +kernel
theorem dX4_readItem_76 : decode cX4_readItem 76 = .ok (.aload_n 0, 1) := by decide +kernel
theorem dX4_readItem_77 : decode cX4_readItem 77 = .ok (.aload_n 1, 1) := by decide +kernel
theorem dX4_readItem_78 : decode cX4_readItem 78 = .ok (.iconst 0, 1) := by decide +kernel
theorem dX4_readItem_79 : decode cX4_readItem 79 = .ok (.iconst 3, 1) := by decide +kernel
theorem dX4_readItem_80 : decode cX4_readItem 80 = .ok (.invokevirtual 41, 3) := by decide +kernel
theorem dX4_readItem_83 : decode cX4_readItem 83 = .ok (.goto 63, 3) := by decide +kernel
theorem dX4_readItem_86 : decode cX4_readItem 86 = .ok (.aload_n 0, 1) := by decide +kernel
theorem dX4_readItem_87 : decode cX4_readItem 87 = .ok (.aload_n 1, 1) := by decide +kernel
theorem dX4_readItem_88 : decode cX4_readItem 88 = .ok (.iconst 1, 1) := by decide +kernel
theorem dX4_readItem_89 : decode cX4_readItem 89 = .ok (.iconst 2, 1) := by decide +kernel
theorem dX4_readItem_90 : decode cX4_readItem 90 = .ok (.invokevirtual 41, 3) := by decide +kernel
theorem dX4_readItem_93 : decode cX4_readItem 93 = .ok (.goto 53, 3) := by decide +kernel
theorem dX4_readItem_96 : decode cX4_readItem 96 = .ok (.aload_n 0, 1) := by decide +kernel
theorem dX4_readItem_97 : decode cX4_readItem 97 = .ok (.aload_n 1, 1) := by decide +kernel
theorem dX4_readItem_98 : decode cX4_readItem 98 = .ok (.iconst 2, 1) := by decide +kernel
theorem dX4_readItem_99 : decode cX4_readItem 99 = .ok (.iconst 2, 1) := by decide +kernel
theorem dX4_readItem_100 : decode cX4_readItem 100 = .ok (.invokevirtual 41, 3) := by decide +kernel
theorem dX4_readItem_103 : decode cX4_readItem 103 = .ok (.goto 43, 3) := by decide +kernel
theorem dX4_readItem_106 : decode cX4_readItem 106 = .ok (.aload_n 0, 1) := by decide +kernel
theorem dX4_readItem_107 : decode cX4_readItem 107 = .ok (.aload_n 1, 1) := by decide +kernel
theorem dX4_readItem_108 : decode cX4_readItem 108 = .ok (.iconst 3, 1) := by decide +kernel
theorem dX4_readItem_109 : decode cX4_readItem 109 = .ok (.iconst 3, 1) := by decide +kernel
theorem dX4_readItem_110 : decode cX4_readItem 110 = .ok (.invokevirtual 41, 3) := by decide +kernel
theorem dX4_readItem_113 : decode cX4_readItem 113 = .ok (.goto 33, 3) := by decide +kernel
theorem dX4_readItem_116 : decode cX4_readItem 116 = .ok (.aload_n 0, 1) := by decide +kernel
theorem dX4_readItem_117 : decode cX4_readItem 117 = .ok (.aload_n 1, 1) := by decide +kernel
theorem dX4_readItem_118 : decode cX4_readItem 118 = .ok (.iconst 4, 1) := by decide +kernel
theorem dX4_readItem_119 : decode cX4_readItem 119 = .ok (.iconst 3, 1) := by decide +kernel
theorem dX4_readItem_120 : decode cX4_readItem 120 = .ok (.invokevirtual 41, 3) := by decide +kernel
theorem dX4_readItem_123 : decode cX4_readItem 123 = .ok (.aload_n 0, 1) := by decide +kernel
theorem dX4_readItem_124 : decode cX4_readItem 124 = .ok (.aload_n 1, 1) := by decide +kernel
theorem dX4_readItem_125 : decode cX4_readItem 125 = .ok (.iconst 5, 1) := by decide +kernel
theorem dX4_readItem_126 : decode cX4_readItem 126 = .ok (.iconst 3, 1) := by decide +kernel
theorem dX4_readItem_127 : decode cX4_readItem 127 = .ok (.invokevirtual 41, 3) := by decide +kernel
theorem dX4_readItem_130 : decode cX4_readItem 130 = .ok (.goto 16, 3) := by decide +kernel
theorem dX4_readItem_133 : decode cX4_readItem 133 = .ok (.aload_n 0, 1) := by decide +kernel
theorem dX4_readItem_134 : decode cX4_readItem 134 = .ok (.aload_n 1, 1) := by decide +kernel
theorem dX4_readItem_135 : decode cX4_readItem 135 = .ok (.invokevirtual 45, 3) := by decide +kernel
theorem dX4_readItem_138 : decode cX4_readItem 138 = .ok (.goto 8, 3) := by decide +kernel
theorem dX4_readItem_141 : decode cX4_readItem 141 = .ok (.aload_n 0, 1) := by decide +kernel
theorem dX4_readItem_142 : decode cX4_readItem 142 = .ok (.iconst 3, 1) := by decide +kernel
theorem dX4_readItem_143 : decode cX4_readItem 143 = .ok (.putfield 27, 3) := by decide +kernel
theorem dX4_readItem_146 : decode cX4_readItem 146 = .ok (.aload_n 0, 1) := by decide +kernel
theorem dX4_readItem_147 : decode cX4_readItem 147 = .ok (.invokevirtual 48, 3) := by decide +kernel
theorem dX4_readItem_150 : decode cX4_readItem 150 = .ok (.return_, 1) := by decide +kernel
theorem dX4_peek_0 : decode cX4_peek 0 = .ok (.aload_n 0, 1) := by decide +kernel
theorem dX4_peek_1 : decode cX4_peek 1 = .ok (.getfield 24, 3) := by decide +kernel
theorem dX4_peek_4 : decode cX4_peek 4 = .ok (.ifCond .lt 36, 3) := by decide +kernel
theorem dX4_peek_7 : decode cX4_peek 7 = .ok (.aload_n 0, 1) := by decide +kernel
theorem dX4_peek_8 : decode cX4_peek 8 = .ok (.getfield 24, 3) := by decide +kernel
theorem dX4_peek_11 : decode cX4_peek 11 = .ok (.aload_n 0, 1) := by decide +kernel
theorem dX4_peek_12 : decode cX4_peek 12 = .ok (.getfield 15, 3) := by decide +kernel
theorem dX4_peek_15 : decode cX4_peek 15 = .ok (.if_icmp .ge 25, 3) := by decide +kernel
theorem dX4_peek_18 : decode cX4_peek 18 = .ok (.aload_n 0, 1) := by decide +kernel
theorem dX4_peek_19 : decode cX4_peek 19 = .ok (.getfield 24, 3) := by decide +kernel
theorem dX4_peek_22 : decode cX4_peek 22 = .ok (.sipush 200, 3) := by decide +kernel
theorem dX4_peek_25 : decode cX4_peek 25 = .ok (.if_icmp .ge 15, 3) := by decide +kernel
theorem dX4_peek_28 : decode cX4_peek 28 = .ok (.aload_n 0, 1) := by decide +kernel
theorem dX4_peek_29 : decode cX4_peek 29 = .ok (.getfield 9, 3) := by decide +kernel
theorem dX4_peek_32 : decode cX4_peek 32 = .ok (.aload_n 0, 1) := by decide +kernel
theorem dX4_peek_33 : decode cX4_peek 33 = .ok (.getfield 24, 3) := by decide +kernel
theorem dX4_peek_36 : decode cX4_peek 36 = .ok (.iaload, 1) := by decide +kernel
theorem dX4_peek_37 : decode cX4_peek 37 = .ok (.goto 4, 3) := by decide +kernel
theorem dX4_peek_40 : decode cX4_peek 40 = .ok (.iconst 0, 1) := by decide +kernel
theorem dX4_peek_41 : decode cX4_peek 41 = .ok (.ireturn, 1) := by decide +kernel
theorem dX4_readRule_0 : decode cX4_readRule 0 = .ok (.aload_n 0, 1) := by decide +kernel
theorem dX4_readRule_1 : decode cX4_readRule 1 = .ok (.iload_n 3, 1) := by decide +kernel
theorem dX4_readRule_2 : decode cX4_readRule 2 = .ok (.invokevirtual 51, 3) := by decide +kernel
theorem dX4_readRule_5 : decode cX4_readRule 5 = .ok (.istore 4, 2) := by decide +kernel
theorem dX4_readRule_7 : decode cX4_readRule 7 = .ok (.aload_n 0, 1) := by decide +kernel
theorem dX4_readRule_8 : decode cX4_readRule 8 = .ok (.getfield 27, 3) := by decide +kernel
theorem dX4_readRule_11 : decode cX4_readRule 11 = .ok (.ifCond .eq 4, 3) := by decide +kernel
theorem dX4_readRule_14 : decode cX4_readRule 14 = .ok (.return_, 1) := by decide +kernel
theorem dX4_readRule_15 : decode cX4_readRule 15 = .ok (.aload_n 1, 1) := by decide +kernel
theorem dX4_readRule_16 : decode cX4_readRule 16 = .ok (.iload_n 2, 1) := by decide +kernel
theorem dX4_readRule_17 : decode cX4_readRule 17 = .ok (.iload 4, 2) := by decide +kernel
theorem dX4_readRule_19 : decode cX4_readRule 19 = .ok (.invokevirtual 55, 3) := by decide +kernel
theorem dX4_readRule_22 : decode cX4_readRule 22 = .ok (.ifCond .eq 13, 3) := by decide +kernel
theorem dX4_readRule_25 : decode cX4_readRule 25 = .ok (.aload_n 1, 1) := by decide +kernel
theorem dX4_readRule_26 : decode cX4_readRule 26 = .ok (.iload_n 2, 1) := by decide +kernel
theorem dX4_readRule_27 : decode cX4_readRule 27 = .ok (.iload 4, 2) := by decide +kernel
theorem dX4_readRule_29 : decode cX4_readRule 29 = .ok (.invokevirtual 59, 3) := by decide +kernel
theorem dX4_readRule_32 : decode cX4_readRule 32 = .ok (.goto 8, 3) := by decide +kernel
theorem dX4_readRule_35 : decode cX4_readRule 35 = .ok (.aload_n 0, 1) := by decide +kernel
theorem dX4_readRule_36 : decode cX4_readRule 36 = .ok (.iconst 2, 1) := by decide +kernel
theorem dX4_readRule_37 : decode cX4_readRule 37 = .ok (.putfield 27, 3) := by decide +kernel
theorem dX4_readRule_40 : decode cX4_readRule 40 = .ok (.return_, 1) := by decide +kernel
theorem dX4_readCode_0 : decode cX4_readCode 0 = .ok (.aload_n 1, 1) := by decide +kernel
theorem dX4_readCode_1 : decode cX4_readCode 1 = .ok (.getfield 63, 3) := by decide +kernel
theorem dX4_readCode_4 : decode cX4_readCode 4 = .ok (.bipush 6, 2) := by decide +kernel
theorem dX4_readCode_6 : decode cX4_readCode 6 = .ok (.if_icmp .lt 9, 3) := by decide +kernel
theorem dX4_readCode_9 : decode cX4_readCode 9 = .ok (.aload_n 0, 1) := by decide +kernel
theorem dX4_readCode_10 : decode cX4_readCode 10 = .ok (.iconst 3, 1) := by decide +kernel
theorem dX4_readCode_11 : decode cX4_readCode 11 = .ok (.putfield 27, 3) := by decide +kernel
theorem dX4_readCode_14 : decode cX4_readCode 14 = .ok (.return_, 1) := by decide +kernel
theorem dX4_readCode_15 : decode cX4_readCode 15 = .ok (.aload_n 0, 1) := by decide +kernel
theorem dX4_readCode_16 : decode cX4_readCode 16 = .ok (.iconst 1, 1) := by decide +kernel
theorem dX4_readCode_17 : decode cX4_readCode 17 = .ok (.invokevirtual 51, 3) := by decide +kernel
theorem dX4_readCode_20 : decode cX4_readCode 20 = .ok (.istore_n 2, 1) := by decide +kernel
theorem dX4_readCode_21 : decode cX4_readCode 21 = .ok (.aload_n 0, 1) := by decide +kernel
theorem dX4_readCode_22 : decode cX4_readCode 22 = .ok (.getfield 27, 3) := by decide +kernel
theorem dX4_readCode_25 : decode cX4_readCode 25 = .ok (.ifCond .ne 12, 3) := by decide +kernel
theorem dX4_readCode_28 : decode cX4_readCode 28 = .ok (.iload_n 2, 1) := by decide +kernel
theorem dX4_readCode_29 : decode cX4_readCode 29 = .ok (.ifCond .ne 8, 3) := by decide +kernel
theorem dX4_readCode_32 : decode cX4_readCode 32 = .ok (.aload_n 0, 1) := by decide +kernel
theorem dX4_readCode_33 : decode cX4_readCode 33 = .ok (.iconst 2, 1) := by decide +kernel
theorem dX4_readCode_34 : decode cX4_readCode 34 = .ok (.putfield 27, 3) := by decide +kernel
theorem dX4_readCode_37 : decode cX4_readCode 37 = .ok (.aload_n 0, 1) := by decide +kernel
theorem dX4_readCode_38 : decode cX4_readCode 38 = .ok (.iconst 2, 1) := by decide +kernel
theorem dX4_readCode_39 : decode cX4_readCode 39 = .ok (.invokevirtual 51, 3) := by decide +kernel
theorem dX4_readCode_42 : decode cX4_readCode 42 = .ok (.istore_n 3, 1) := by decide +kernel
theorem dX4_readCode_43 : decode cX4_readCode 43 = .ok (.aload_n 0, 1) := by decide +kernel
theorem dX4_readCode_44 : decode cX4_readCode 44 = .ok (.getfield 27, 3) := by decide +kernel
theorem dX4_readCode_47 : decode cX4_readCode 47 = .ok (.ifCond .ne 9, 3) := by decide +kernel
theorem dX4_readCode_50 : decode cX4_readCode 50 = .ok (.aload_n 1, 1) := by decide +kernel
theorem dX4_readCode_51 : decode cX4_readCode 51 = .ok (.iload_n 2, 1) := by decide +kernel
theorem dX4_readCode_52 : decode cX4_readCode 52 = .ok (.iload_n 3, 1) := by decide +kernel
theorem dX4_readCode_53 : decode cX4_readCode 53 = .ok (.invokevirtual 66, 3) := by decide +kernel
theorem dX4_readCode_56 : decode cX4_readCode 56 = .ok (.return_, 1) := by decide +kernel
theorem dX4_readNumber_0 : decode cX4_readNumber 0 = .ok (.iconst 0, 1) := by decide +kernel
theorem dX4_readNumber_1 : decode cX4_readNumber 1 = .ok (.istore_n 2, 1) := by decide +kernel
theorem dX4_readNumber_2 : decode cX4_readNumber 2 = .ok (.iconst 0, 1) := by decide +kernel
theorem dX4_readNumber_3 : decode cX4_readNumber 3 = .ok (.istore_n 3, 1) := by decide +kernel
theorem dX4_readNumber_4 : decode cX4_readNumber 4 = .ok (.iload_n 3, 1) := by decide +kernel
theorem dX4_readNumber_5 : decode cX4_readNumber 5 = .ok (.iload_n 1, 1) := by decide +kernel
theorem dX4_readNumber_6 : decode cX4_readNumber 6 = .ok (.if_icmp .ge 65, 3) := by decide +kernel
theorem dX4_readNumber_9 : decode cX4_readNumber 9 = .ok (.aload_n 0, 1) := by decide +kernel
theorem dX4_readNumber_10 : decode cX4_readNumber 10 = .ok (.getfield 27, 3) := by decide +kernel
theorem dX4_readNumber_13 : decode cX4_readNumber 13 = .ok (.ifCond .ne 58, 3) := by decide +kernel
theorem dX4_readNumber_16 : decode cX4_readNumber 16 = .ok (.aload_n 0, 1) := by decide +kernel
theorem dX4_readNumber_17 : decode cX4_readNumber 17 = .ok (.invokevirtual 37, 3) := by decide +kernel
theorem dX4_readNumber_20 : decode cX4_readNumber 20 = .ok (.istore 4, 2) := by decide +kernel
theorem dX4_readNumber_22 : decode cX4_readNumber 22 = .ok (.iload 4, 2) := by decide +kernel
theorem dX4_readNumber_24 : decode cX4_readNumber 24 = .ok (.bipush 48, 2) := by decide +kernel
theorem dX4_readNumber_26 : decode cX4_readNumber 26 = .ok (.if_icmp .lt 10, 3) := by decide +kernel
theorem dX4_readNumber_29 : decode cX4_readNumber 29 = .ok (.iload 4, 2) := by decide +kernel
theorem dX4_readNumber_31 : decode cX4_readNumber 31 = .ok (.bipush 57, 2) := by decide +kernel
theorem dX4_readNumber_33 : decode cX4_readNumber 33 = .ok (.if_icmp .le 11, 3) := by decide +kernel
theorem dX4_readNumber_36 : decode cX4_readNumber 36 = .ok (.aload_n 0, 1) := by decide +kernel
theorem dX4_readNumber_37 : decode cX4_readNumber 37 = .ok (.iconst 1, 1) := by decide +kernel
theorem dX4_readNumber_38 : decode cX4_readNumber 38 = .ok (.putfield 27, 3) := by decide +kernel
theorem dX4_readNumber_41 : decode cX4_readNumber 41 = .ok (.goto 24, 3) := by decide +kernel
theorem dX4_readNumber_44 : decode cX4_readNumber 44 = .ok (.iload_n 2, 1) := by decide +kernel
theorem dX4_readNumber_45 : decode cX4_readNumber 45 = .ok (.bipush 10, 2) := by decide +kernel
theorem dX4_readNumber_47 : decode cX4_readNumber 47 = .ok (.imul, 1) := by decide +kernel
theorem dX4_readNumber_48 : decode cX4_readNumber 48 = .ok (.iload 4, 2) := by decide +kernel
theorem dX4_readNumber_50 : decode cX4_readNumber 50 = .ok (.iadd, 1) := by decide +kernel
theorem dX4_readNumber_51 : decode cX4_readNumber 51 = .ok (.bipush 48, 2) := by decide +kernel
theorem dX4_readNumber_53 : decode cX4_readNumber 53 = .ok (.isub, 1) := by decide +kernel
theorem dX4_readNumber_54 : decode cX4_readNumber 54 = .ok (.istore_n 2, 1) := by decide +kernel
theorem dX4_readNumber_55 : decode cX4_readNumber 55 = .ok (.aload_n 0, 1) := by decide +kernel
theorem dX4_readNumber_56 : decode cX4_readNumber 56 = .ok (.dup, 1) := by decide +kernel
theorem dX4_readNumber_57 : decode cX4_readNumber 57 = .ok (.getfield 24, 3) := by decide +kernel
theorem dX4_readNumber_60 : decode cX4_readNumber 60 = .ok (.iconst 1, 1) := by decide +kernel
theorem dX4_readNumber_61 : decode cX4_readNumber 61 = .ok (.iadd, 1) := by decide +kernel
theorem dX4_readNumber_62 : decode cX4_readNumber 62 = .ok (.putfield 24, 3) := by decide +kernel
theorem dX4_readNumber_65 : decode cX4_readNumber 65 = .ok (.iinc 3 1, 3) := by decide +kernel
theorem dX4_readNumber_68 : decode cX4_readNumber 68 = .ok (.goto (-64), 3) := by decide +kernel
theorem dX4_readNumber_71 : decode cX4_readNumber 71 = .ok (.iload_n 2, 1) := by decide +kernel
theorem dX4_readNumber_72 : decode cX4_readNumber 72 = .ok (.ireturn, 1) := by decide +kernel
theorem dX4_readEnd_0 : decode cX4_readEnd 0 = .ok (.aload_n 0, 1) := by decide +kernel
theorem dX4_readEnd_1 : decode cX4_readEnd 1 = .ok (.getfield 27, 3) := by decide +kernel
theorem dX4_readEnd_4 : decode cX4_readEnd 4 = .ok (.ifCond .eq 4, 3) := by decide +kernel
theorem dX4_readEnd_7 : decode cX4_readEnd 7 = .ok (.return_, 1) := by decide +kernel
theorem dX4_readEnd_8 : decode cX4_readEnd 8 = .ok (.aload_n 0, 1) := by decide +kernel
theorem dX4_readEnd_9 : decode cX4_readEnd 9 = .ok (.invokevirtual 37, 3) := by decide +kernel
theorem dX4_readEnd_12 : decode cX4_readEnd 12 = .ok (.bipush 59, 2) := by decide +kernel
theorem dX4_readEnd_14 : decode cX4_readEnd 14 = .ok (.if_icmp .ne 16, 3) := by decide +kernel
theorem dX4_readEnd_17 : decode cX4_readEnd 17 = .ok (.aload_n 0, 1) := by decide +kernel
theorem dX4_readEnd_18 : decode cX4_readEnd 18 = .ok (.dup, 1) := by decide +kernel
theorem dX4_readEnd_19 : decode cX4_readEnd 19 = .ok (.getfield 24, 3) := by decide +kernel
theorem dX4_readEnd_22 : decode cX4_readEnd 22 = .ok (.iconst 1, 1) := by decide +kernel
theorem dX4_readEnd_23 : decode cX4_readEnd 23 = .ok (.iadd, 1) := by decide +kernel
theorem dX4_readEnd_24 : decode cX4_readEnd 24 = .ok (.putfield 24, 3) := by decide +kernel
theorem dX4_readEnd_27 : decode cX4_readEnd 27 = .ok (.goto 8, 3) := by decide +kernel
theorem dX4_readEnd_30 : decode cX4_readEnd 30 = .ok (.aload_n 0, 1) := by decide +kernel
theorem dX4_readEnd_31 : decode cX4_readEnd 31 = .ok (.iconst 1, 1) := by decide +kernel
theorem dX4_readEnd_32 : decode cX4_readEnd 32 = .ok (.putfield 27, 3) := by decide +kernel
theorem dX4_readEnd_35 : decode cX4_readEnd 35 = .ok (.return_, 1) := by decide +kernel
theorem dX5_reset_0 : decode cX5_reset 0 = .ok (.iconst 0, 1) := by decide +kernel
theorem dX5_reset_1 : decode cX5_reset 1 = .ok (.istore_n 1, 1) := by decide +kernel
theorem dX5_reset_2 : decode cX5_reset 2 = .ok (.iload_n 1, 1) := by decide +kernel
theorem dX5_reset_3 : decode cX5_reset 3 = .ok (.bipush 6, 2) := by decide +kernel
theorem dX5_reset_5 : decode cX5_reset 5 = .ok (.if_icmp .ge 20, 3) := by decide +kernel
theorem dX5_reset_8 : decode cX5_reset 8 = .ok (.aload_n 0, 1) := by decide +kernel
theorem dX5_reset_9 : decode cX5_reset 9 = .ok (.getfield 9, 3) := by decide +kernel
theorem dX5_reset_12 : decode cX5_reset 12 = .ok (.iload_n 1, 1) := by decide +kernel
theorem dX5_reset_13 : decode cX5_reset 13 = .ok (.getstatic 21, 3) := by decide +kernel
theorem dX5_reset_16 : decode cX5_reset 16 = .ok (.iload_n 1, 1) := by decide +kernel
theorem dX5_reset_17 : decode cX5_reset 17 = .ok (.iaload, 1) := by decide +kernel
theorem dX5_reset_18 : decode cX5_reset 18 = .ok (.iastore, 1) := by decide +kernel
theorem dX5_reset_19 : decode cX5_reset 19 = .ok (.iinc 1 1, 3) := by decide +kernel
theorem dX5_reset_22 : decode cX5_reset 22 = .ok (.goto (-20), 3) := by decide +kernel
theorem dX5_reset_25 : decode cX5_reset 25 = .ok (.aload_n 0, 1) := by decide +kernel
theorem dX5_reset_26 : decode cX5_reset 26 = .ok (.iconst 0, 1) := by decide +kernel
theorem dX5_reset_27 : decode cX5_reset 27 = .ok (.putfield 24, 3) := by decide +kernel
theorem dX5_reset_30 : decode cX5_reset 30 = .ok (.return_, 1) := by decide +kernel
theorem dX5_copy_0 : decode cX5_copy 0 = .ok (.iconst 0, 1) := by decide +kernel
theorem dX5_copy_1 : decode cX5_copy 1 = .ok (.istore_n 2, 1) := by decide +kernel
theorem dX5_copy_2 : decode cX5_copy 2 = .ok (.iload_n 2, 1) := by decide +kernel
theorem dX5_copy_3 : decode cX5_copy 3 = .ok (.bipush 6, 2) := by decide +kernel
theorem dX5_copy_5 : decode cX5_copy 5 = .ok (.if_icmp .ge 21, 3) := by decide +kernel
theorem dX5_copy_8 : decode cX5_copy 8 = .ok (.aload_n 0, 1) := by decide +kernel
theorem dX5_copy_9 : decode cX5_copy 9 = .ok (.getfield 9, 3) := by decide +kernel
theorem dX5_copy_12 : decode cX5_copy 12 = .ok (.iload_n 2, 1) := by decide +kernel
theorem dX5_copy_13 : decode cX5_copy 13 = .ok (.aload_n 1, 1) := by decide +kernel
theorem dX5_copy_14 : decode cX5_copy 14 = .ok (.getfield 9, 3) := by decide +kernel
theorem dX5_copy_17 : decode cX5_copy 17 = .ok (.iload_n 2, 1) := by decide +kernel
theorem dX5_copy_18 : decode cX5_copy 18 = .ok (.iaload, 1) := by decide +kernel
theorem dX5_copy_19 : decode cX5_copy 19 = .ok (.iastore, 1) := by decide +kernel
theorem dX5_copy_20 : decode cX5_copy 20 = .ok (.iinc 2 1, 3) := by decide +kernel
theorem dX5_copy_23 : decode cX5_copy 23 = .ok (.goto (-21), 3) := by decide +kernel
theorem dX5_copy_26 : decode cX5_copy 26 = .ok (.iconst 0, 1) := by decide +kernel
theorem dX5_copy_27 : decode cX5_copy 27 = .ok (.istore_n 2, 1) := by decide +kernel
theorem dX5_copy_28 : decode cX5_copy 28 = .ok (.iload_n 2, 1) := by decide +kernel
theorem dX5_copy_29 : decode cX5_copy 29 = .ok (.bipush 6, 2) := by decide +kernel
theorem dX5_copy_31 : decode cX5_copy 31 = .ok (.if_icmp .ge 33, 3) := by decide +kernel
theorem dX5_copy_34 : decode cX5_copy 34 = .ok (.aload_n 0, 1) := by decide +kernel
theorem dX5_copy_35 : decode cX5_copy 35 = .ok (.getfield 15, 3) := by decide +kernel
theorem dX5_copy_38 : decode cX5_copy 38 = .ok (.iload_n 2, 1) := by decide +kernel
theorem dX5_copy_39 : decode cX5_copy 39 = .ok (.aload_n 1, 1) := by decide +kernel
theorem dX5_copy_40 : decode cX5_copy 40 = .ok (.getfield 15, 3) := by decide +kernel
theorem dX5_copy_43 : decode cX5_copy 43 = .ok (.iload_n 2, 1) := by decide +kernel
theorem dX5_copy_44 : decode cX5_copy 44 = .ok (.iaload, 1) := by decide +kernel
theorem dX5_copy_45 : decode cX5_copy 45 = .ok (.iastore, 1) := by decide +kernel
theorem dX5_copy_46 : decode cX5_copy 46 = .ok (.aload_n 0, 1) := by decide +kernel
theorem dX5_copy_47 : decode cX5_copy 47 = .ok (.getfield 18, 3) := by decide +kernel
theorem dX5_copy_50 : decode cX5_copy 50 = .ok (.iload_n 2, 1) := by decide +kernel
theorem dX5_copy_51 : decode cX5_copy 51 = .ok (.aload_n 1, 1) := by decide +kernel
theorem dX5_copy_52 : decode cX5_copy 52 = .ok (.getfield 18, 3) := by decide +kernel
theorem dX5_copy_55 : decode cX5_copy 55 = .ok (.iload_n 2, 1) := by decide +kernel
theorem dX5_copy_56 : decode cX5_copy 56 = .ok (.iaload, 1) := by decide +kernel
theorem dX5_copy_57 : decode cX5_copy 57 = .ok (.iastore, 1) := by decide +kernel
theorem dX5_copy_58 : decode cX5_copy 58 = .ok (.iinc 2 1, 3) := by decide +kernel
theorem dX5_copy_61 : decode cX5_copy 61 = .ok (.goto (-33), 3) := by decide +kernel
theorem dX5_copy_64 : decode cX5_copy 64 = .ok (.aload_n 0, 1) := by decide +kernel
theorem dX5_copy_65 : decode cX5_copy 65 = .ok (.aload_n 1, 1) := by decide +kernel
theorem dX5_copy_66 : decode cX5_copy 66 = .ok (.getfield 24, 3) := by decide +kernel
theorem dX5_copy_69 : decode cX5_copy 69 = .ok (.putfield 24, 3) := by decide +kernel
theorem dX5_copy_72 : decode cX5_copy 72 = .ok (.return_, 1) := by decide +kernel
theorem dX5_isRule_0 : decode cX5_isRule 0 = .ok (.iload_n 0, 1) := by decide +kernel
theorem dX5_isRule_1 : decode cX5_isRule 1 = .ok (.ifCond .lt 13, 3) := by decide +kernel
theorem dX5_isRule_4 : decode cX5_isRule 4 = .ok (.iload_n 0, 1) := by decide +kernel
theorem dX5_isRule_5 : decode cX5_isRule 5 = .ok (.bipush 6, 2) := by decide +kernel
theorem dX5_isRule_7 : decode cX5_isRule 7 = .ok (.if_icmp .ge 7, 3) := by decide +kernel
theorem dX5_isRule_10 : decode cX5_isRule 10 = .ok (.iconst 1, 1) := by decide +kernel
theorem dX5_isRule_11 : decode cX5_isRule 11 = .ok (.goto 4, 3) := by decide +kernel
theorem dX5_isRule_14 : decode cX5_isRule 14 = .ok (.iconst 0, 1) := by decide +kernel
theorem dX5_isRule_15 : decode cX5_isRule 15 = .ok (.ireturn, 1) := by decide +kernel
theorem dX5_allows_0 : decode cX5_allows 0 = .ok (.iload_n 1, 1) := by decide +kernel
theorem dX5_allows_1 : decode cX5_allows 1 = .ok (.invokestatic 28, 3) := by decide +kernel
theorem dX5_allows_4 : decode cX5_allows 4 = .ok (.ifCond .eq 25, 3) := by decide +kernel
theorem dX5_allows_7 : decode cX5_allows 7 = .ok (.iload_n 2, 1) := by decide +kernel
theorem dX5_allows_8 : decode cX5_allows 8 = .ok (.getstatic 32, 3) := by decide +kernel
theorem dX5_allows_11 : decode cX5_allows 11 = .ok (.iload_n 1, 1) := by decide +kernel
theorem dX5_allows_12 : decode cX5_allows 12 = .ok (.iaload, 1) := by decide +kernel
theorem dX5_allows_13 : decode cX5_allows 13 = .ok (.if_icmp .lt 16, 3) := by decide +kernel
theorem dX5_allows_16 : decode cX5_allows 16 = .ok (.iload_n 2, 1) := by decide +kernel
theorem dX5_allows_17 : decode cX5_allows 17 = .ok (.getstatic 35, 3) := by decide +kernel
theorem dX5_allows_20 : decode cX5_allows 20 = .ok (.iload_n 1, 1) := by decide +kernel
theorem dX5_allows_21 : decode cX5_allows 21 = .ok (.iaload, 1) := by decide +kernel
theorem dX5_allows_22 : decode cX5_allows 22 = .ok (.if_icmp .gt 7, 3) := by decide +kernel
theorem dX5_allows_25 : decode cX5_allows 25 = .ok (.iconst 1, 1) := by decide +kernel
theorem dX5_allows_26 : decode cX5_allows 26 = .ok (.goto 4, 3) := by decide +kernel
theorem dX5_allows_29 : decode cX5_allows 29 = .ok (.iconst 0, 1) := by decide +kernel
theorem dX5_allows_30 : decode cX5_allows 30 = .ok (.ireturn, 1) := by decide +kernel
theorem dX5_get_0 : decode cX5_get 0 = .ok (.iload_n 1, 1) := by decide +kernel
theorem dX5_get_1 : decode cX5_get 1 = .ok (.invokestatic 28, 3) := by decide +kernel
theorem dX5_get_4 : decode cX5_get 4 = .ok (.ifCond .eq 12, 3) := by decide +kernel
theorem dX5_get_7 : decode cX5_get 7 = .ok (.aload_n 0, 1) := by decide +kernel
theorem dX5_get_8 : decode cX5_get 8 = .ok (.getfield 9, 3) := by decide +kernel
theorem dX5_get_11 : decode cX5_get 11 = .ok (.iload_n 1, 1) := by decide +kernel
theorem dX5_get_12 : decode cX5_get 12 = .ok (.iaload, 1) := by decide +kernel
theorem dX5_get_13 : decode cX5_get 13 = .ok (.goto 4, 3) := by decide +kernel
theorem dX5_get_16 : decode cX5_get 16 = .ok (.iconst 0, 1) := by decide +kernel
theorem dX5_get_17 : decode cX5_get 17 = .ok (.ireturn, 1) := by decide +kernel
theorem dX5_put_0 : decode cX5_put 0 = .ok (.iload_n 1, 1) := by decide +kernel
theorem dX5_put_1 : decode cX5_put 1 = .ok (.invokestatic 28, 3) := by decide +kernel
theorem dX5_put_4 : decode cX5_put 4 = .ok (.ifCond .eq 10, 3) := by decide +kernel
theorem dX5_put_7 : decode cX5_put 7 = .ok (.aload_n 0, 1) := by decide +kernel
theorem dX5_put_8 : decode cX5_put 8 = .ok (.getfield 9, 3) := by decide +kernel
theorem dX5_put_11 : decode cX5_put 11 = .ok (.iload_n 1, 1) := by decide +kernel
theorem dX5_put_12 : decode cX5_put 12 = .ok (.iload_n 2, 1) := by decide +kernel
theorem dX5_put_13 : decode cX5_put 13 = .ok (.iastore, 1) := by decide +kernel
theorem dX5_put_14 : decode cX5_put 14 = .ok (.return_, 1) := by decide +kernel
theorem dX5_hasCode_0 : decode cX5_hasCode 0 = .ok (.iload_n 1, 1) := by decide +kernel
theorem dX5_hasCode_1 : decode cX5_hasCode 1 = .ok (.ifCond .lt 21, 3) := by decide +kernel
theorem dX5_hasCode_4 : decode cX5_hasCode 4 = .ok (.iload_n 1, 1) := by decide +kernel
theorem dX5_hasCode_5 : decode cX5_hasCode 5 = .ok (.aload_n 0, 1) := by decide +kernel
theorem dX5_hasCode_6 : decode cX5_hasCode 6 = .ok (.getfield 24, 3) := by decide +kernel
theorem dX5_hasCode_9 : decode cX5_hasCode 9 = .ok (.if_icmp .ge 13, 3) := by decide +kernel
theorem dX5_hasCode_12 : decode cX5_hasCode 12 = .ok (.iload_n 1, 1) := by decide +kernel
theorem dX5_hasCode_13 : decode cX5_hasCode 13 = .ok (.bipush 6, 2) := by decide +kernel
theorem dX5_hasCode_15 : decode cX5_hasCode 15 = .ok (.if_icmp .ge 7, 3) := by decide +kernel
theorem dX5_hasCode_18 : decode cX5_hasCode 18 = .ok (.iconst 1, 1) := by decide +kernel
theorem dX5_hasCode_19 : decode cX5_hasCode 19 = .ok (.goto 4, 3) := by decide +kernel
theorem dX5_hasCode_22 : decode cX5_hasCode 22 = .ok (.iconst 0, 1) := by decide +kernel
theorem dX5_hasCode_23 : decode cX5_hasCode 23 = .ok (.ireturn, 1) := by decide +kernel
theorem dX5_pointsOf_0 : decode cX5_pointsOf 0 = .ok (.aload_n 0, 1) := by decide +kernel
theorem dX5_pointsOf_1 : decode cX5_pointsOf 1 = .ok (.iload_n 1, 1) := by decide +kernel
theorem dX5_pointsOf_2 : decode cX5_pointsOf 2 = .ok (.invokevirtual 38, 3) := by decide +kernel
theorem dX5_pointsOf_5 : decode cX5_pointsOf 5 = .ok (.ifCond .eq 12, 3) := by decide +kernel
theorem dX5_pointsOf_8 : decode cX5_pointsOf 8 = .ok (.aload_n 0, 1) := by decide +kernel
theorem dX5_pointsOf_9 : decode cX5_pointsOf 9 = .ok (.getfield 15, 3) := by decide +kernel
theorem dX5_pointsOf_12 : decode cX5_pointsOf 12 = .ok (.iload_n 1, 1) := by decide +kernel
theorem dX5_pointsOf_13 : decode cX5_pointsOf 13 = .ok (.iaload, 1) := by decide +kernel
theorem dX5_pointsOf_14 : decode cX5_pointsOf 14 = .ok (.goto 4, 3) := by decide +kernel
theorem dX5_pointsOf_17 : decode cX5_pointsOf 17 = .ok (.iconst 0, 1) := by decide +kernel
theorem dX5_pointsOf_18 : decode cX5_pointsOf 18 = .ok (.ireturn, 1) := by decide +kernel
theorem dX5_ownBanOf_0 : decode cX5_ownBanOf 0 = .ok (.aload_n 0, 1) := by decide +kernel
theorem dX5_ownBanOf_1 : decode cX5_ownBanOf 1 = .ok (.iload_n 1, 1) := by decide +kernel
theorem dX5_ownBanOf_2 : decode cX5_ownBanOf 2 = .ok (.invokevirtual 38, 3) := by decide +kernel
theorem dX5_ownBanOf_5 : decode cX5_ownBanOf 5 = .ok (.ifCond .eq 12, 3) := by decide +kernel
theorem dX5_ownBanOf_8 : decode cX5_ownBanOf 8 = .ok (.aload_n 0, 1) := by decide +kernel
theorem dX5_ownBanOf_9 : decode cX5_ownBanOf 9 = .ok (.getfield 18, 3) := by decide +kernel
theorem dX5_ownBanOf_12 : decode cX5_ownBanOf 12 = .ok (.iload_n 1, 1) := by decide +kernel
theorem dX5_ownBanOf_13 : decode cX5_ownBanOf 13 = .ok (.iaload, 1) := by decide +kernel
theorem dX5_ownBanOf_14 : decode cX5_ownBanOf 14 = .ok (.goto 4, 3) := by decide +kernel
theorem dX5_ownBanOf_17 : decode cX5_ownBanOf 17 = .ok (.iconst 0, 1) := by decide +kernel
theorem dX5_ownBanOf_18 : decode cX5_ownBanOf 18 = .ok (.ireturn, 1) := by decide +kernel
theorem dX5_addCode_0 : decode cX5_addCode 0 = .ok (.aload_n 0, 1) := by decide +kernel
theorem dX5_addCode_1 : decode cX5_addCode 1 = .ok (.getfield 24, 3) := by decide +kernel
theorem dX5_addCode_4 : decode cX5_addCode 4 = .ok (.ifCond .lt 42, 3) := by decide +kernel
theorem dX5_addCode_7 : decode cX5_addCode 7 = .ok (.aload_n 0, 1) := by decide +kernel
theorem dX5_addCode_8 : decode cX5_addCode 8 = .ok (.getfield 24, 3) := by decide +kernel
theorem dX5_addCode_11 : decode cX5_addCode 11 = .ok (.bipush 6, 2) := by decide +kernel
theorem dX5_addCode_13 : decode cX5_addCode 13 = .ok (.if_icmp .ge 33, 3) := by decide +kernel
theorem dX5_addCode_16 : decode cX5_addCode 16 = .ok (.aload_n 0, 1) := by decide +kernel
theorem dX5_addCode_17 : decode cX5_addCode 17 = .ok (.getfield 15, 3) := by decide +kernel
theorem dX5_addCode_20 : decode cX5_addCode 20 = .ok (.aload_n 0, 1) := by decide +kernel
theorem dX5_addCode_21 : decode cX5_addCode 21 = .ok (.getfield 24, 3) := by decide +kernel
theorem dX5_addCode_24 : decode cX5_addCode 24 = .ok (.iload_n 1, 1) := by decide +kernel
theorem dX5_addCode_25 : decode cX5_addCode 25 = .ok (.iastore, 1) := by decide +kernel
theorem dX5_addCode_26 : decode cX5_addCode 26 = .ok (.aload_n 0, 1) := by decide +kernel
theorem dX5_addCode_27 : decode cX5_addCode 27 = .ok (.getfield 18, 3) := by decide +kernel
theorem dX5_addCode_30 : decode cX5_addCode 30 = .ok (.aload_n 0, 1) := by decide +kernel
theorem dX5_addCode_31 : decode cX5_addCode 31 = .ok (.getfield 24, 3) := by decide +kernel
theorem dX5_addCode_34 : decode cX5_addCode 34 = .ok (.iload_n 2, 1) := by decide +kernel
theorem dX5_addCode_35 : decode cX5_addCode 35 = .ok (.iastore, 1) := by decide +kernel
theorem dX5_addCode_36 : decode cX5_addCode 36 = .ok (.aload_n 0, 1) := by decide +kernel
theorem dX5_addCode_37 : decode cX5_addCode 37 = .ok (.dup, 1) := by decide +kernel
theorem dX5_addCode_38 : decode cX5_addCode 38 = .ok (.getfield 24, 3) := by decide +kernel
theorem dX5_addCode_41 : decode cX5_addCode 41 = .ok (.iconst 1, 1) := by decide +kernel
theorem dX5_addCode_42 : decode cX5_addCode 42 = .ok (.iadd, 1) := by decide +kernel
theorem dX5_addCode_43 : decode cX5_addCode 43 = .ok (.putfield 24, 3) := by decide +kernel
theorem dX5_addCode_46 : decode cX5_addCode 46 = .ok (.return_, 1) := by decide +kernel
theorem dX6_write_0 : decode cX6_write 0 = .ok (.iload_n 1, 1) := by decide +kernel
theorem dX6_write_1 : decode cX6_write 1 = .ok (.bipush 32, 2) := by decide +kernel
theorem dX6_write_3 : decode cX6_write 3 = .ok (.if_icmp .lt 9, 3) := by decide +kernel
theorem dX6_write_6 : decode cX6_write 6 = .ok (.iload_n 1, 1) := by decide +kernel
theorem dX6_write_7 : decode cX6_write 7 = .ok (.bipush 126, 2) := by decide +kernel
theorem dX6_write_9 : decode cX6_write 9 = .ok (.if_icmp .le 5, 3) := by decide +kernel
theorem dX6_write_12 : decode cX6_write 12 = .ok (.iconst (-1), 1) := by decide +kernel
theorem dX6_write_13 : decode cX6_write 13 = .ok (.ireturn, 1) := by decide +kernel
theorem dX6_write_14 : decode cX6_write 14 = .ok (.aload_n 0, 1) := by decide +kernel
theorem dX6_write_15 : decode cX6_write 15 = .ok (.getfield 10, 3) := by decide +kernel
theorem dX6_write_18 : decode cX6_write 18 = .ok (.iload_n 1, 1) := by decide +kernel
theorem dX6_write_19 : decode cX6_write 19 = .ok (.invokevirtual 68, 3) := by decide +kernel
theorem dX6_write_22 : decode cX6_write 22 = .ok (.ifCond .eq 13, 3) := by decide +kernel
theorem dX6_write_25 : decode cX6_write 25 = .ok (.aload_n 0, 1) := by decide +kernel
theorem dX6_write_26 : decode cX6_write 26 = .ok (.getfield 10, 3) := by decide +kernel
theorem dX6_write_29 : decode cX6_write 29 = .ok (.getfield 79, 3) := by decide +kernel
theorem dX6_write_32 : decode cX6_write 32 = .ok (.goto 5, 3) := by decide +kernel
theorem dX6_write_35 : decode cX6_write 35 = .ok (.bipush (-3), 2) := by decide +kernel
theorem dX6_write_37 : decode cX6_write 37 = .ok (.ireturn, 1) := by decide +kernel
theorem dX6_wipe_0 : decode cX6_wipe 0 = .ok (.aload_n 0, 1) := by decide +kernel
theorem dX6_wipe_1 : decode cX6_wipe 1 = .ok (.getfield 10, 3) := by decide +kernel
theorem dX6_wipe_4 : decode cX6_wipe 4 = .ok (.getfield 79, 3) := by decide +kernel
theorem dX6_wipe_7 : decode cX6_wipe 7 = .ok (.istore_n 1, 1) := by decide +kernel
theorem dX6_wipe_8 : decode cX6_wipe 8 = .ok (.aload_n 0, 1) := by decide +kernel
theorem dX6_wipe_9 : decode cX6_wipe 9 = .ok (.getfield 10, 3) := by decide +kernel
theorem dX6_wipe_12 : decode cX6_wipe 12 = .ok (.invokevirtual 76, 3) := by decide +kernel
theorem dX6_wipe_15 : decode cX6_wipe 15 = .ok (.iload_n 1, 1) := by decide +kernel
theorem dX6_wipe_16 : decode cX6_wipe 16 = .ok (.ireturn, 1) := by decide +kernel
theorem dX6_fault_0 : decode cX6_fault 0 = .ok (.aload_n 0, 1) := by decide +kernel
theorem dX6_fault_1 : decode cX6_fault 1 = .ok (.getfield 10, 3) := by decide +kernel
theorem dX6_fault_4 : decode cX6_fault 4 = .ok (.aload_n 0, 1) := by decide +kernel
theorem dX6_fault_5 : decode cX6_fault 5 = .ok (.getfield 23, 3) := by decide +kernel
theorem dX6_fault_8 : decode cX6_fault 8 = .ok (.invokevirtual 72, 3) := by decide +kernel
theorem dX6_fault_11 : decode cX6_fault 11 = .ok (.aload_n 0, 1) := by decide +kernel
theorem dX6_fault_12 : decode cX6_fault 12 = .ok (.getfield 10, 3) := by decide +kernel
theorem dX6_fault_15 : decode cX6_fault 15 = .ok (.getfield 82, 3) := by decide +kernel
theorem dX6_fault_18 : decode cX6_fault 18 = .ok (.ifCond .ne 8, 3) := by decide +kernel
theorem dX6_fault_21 : decode cX6_fault 21 = .ok (.bipush (-4), 2) := by decide +kernel
theorem dX6_fault_23 : decode cX6_fault 23 = .ok (.goto 10, 3) := by decide +kernel
theorem dX6_fault_26 : decode cX6_fault 26 = .ok (.aload_n 0, 1) := by decide +kernel
theorem dX6_fault_27 : decode cX6_fault 27 = .ok (.getfield 10, 3) := by decide +kernel
theorem dX6_fault_30 : decode cX6_fault 30 = .ok (.getfield 85, 3) := by decide +kernel
theorem dX6_fault_33 : decode cX6_fault 33 = .ok (.ireturn, 1) := by decide +kernel
theorem dX6_reason_0 : decode cX6_reason 0 = .ok (.aload_n 0, 1) := by decide +kernel
theorem dX6_reason_1 : decode cX6_reason 1 = .ok (.getfield 10, 3) := by decide +kernel
theorem dX6_reason_4 : decode cX6_reason 4 = .ok (.aload_n 0, 1) := by decide +kernel
theorem dX6_reason_5 : decode cX6_reason 5 = .ok (.getfield 23, 3) := by decide +kernel
theorem dX6_reason_8 : decode cX6_reason 8 = .ok (.invokevirtual 72, 3) := by decide +kernel
theorem dX6_reason_11 : decode cX6_reason 11 = .ok (.aload_n 0, 1) := by decide +kernel
theorem dX6_reason_12 : decode cX6_reason 12 = .ok (.getfield 10, 3) := by decide +kernel
theorem dX6_reason_15 : decode cX6_reason 15 = .ok (.getfield 82, 3) := by decide +kernel
theorem dX6_reason_18 : decode cX6_reason 18 = .ok (.ifCond .ne 8, 3) := by decide +kernel
theorem dX6_reason_21 : decode cX6_reason 21 = .ok (.bipush (-4), 2) := by decide +kernel
theorem dX6_reason_23 : decode cX6_reason 23 = .ok (.goto 10, 3) := by decide +kernel
theorem dX6_reason_26 : decode cX6_reason 26 = .ok (.aload_n 0, 1) := by decide +kernel
theorem dX6_reason_27 : decode cX6_reason 27 = .ok (.getfield 10, 3) := by decide +kernel
theorem dX6_reason_30 : decode cX6_reason 30 = .ok (.getfield 82, 3) := by decide +kernel
theorem dX6_reason_33 : decode cX6_reason 33 = .ok (.ireturn, 1) := by decide +kernel
theorem dX6_lay_0 : decode cX6_lay 0 = .ok (.aload_n 0, 1) := by decide +kernel
theorem dX6_lay_1 : decode cX6_lay 1 = .ok (.getfield 10, 3) := by decide +kernel
theorem dX6_lay_4 : decode cX6_lay 4 = .ok (.aload_n 0, 1) := by decide +kernel
theorem dX6_lay_5 : decode cX6_lay 5 = .ok (.getfield 23, 3) := by decide +kernel
theorem dX6_lay_8 : decode cX6_lay 8 = .ok (.invokevirtual 72, 3) := by decide +kernel
theorem dX6_lay_11 : decode cX6_lay 11 = .ok (.aload_n 0, 1) := by decide +kernel
theorem dX6_lay_12 : decode cX6_lay 12 = .ok (.getfield 10, 3) := by decide +kernel
theorem dX6_lay_15 : decode cX6_lay 15 = .ok (.getfield 82, 3) := by decide +kernel
theorem dX6_lay_18 : decode cX6_lay 18 = .ok (.ifCond .ne 13, 3) := by decide +kernel
theorem dX6_lay_21 : decode cX6_lay 21 = .ok (.aload_n 0, 1) := by decide +kernel
theorem dX6_lay_22 : decode cX6_lay 22 = .ok (.getfield 23, 3) := by decide +kernel
theorem dX6_lay_25 : decode cX6_lay 25 = .ok (.getfield 88, 3) := by decide +kernel
theorem dX6_lay_28 : decode cX6_lay 28 = .ok (.ifCond .ne 6, 3) := by decide +kernel
theorem dX6_lay_31 : decode cX6_lay 31 = .ok (.bipush (-2), 2) := by decide +kernel
theorem dX6_lay_33 : decode cX6_lay 33 = .ok (.ireturn, 1) := by decide +kernel
theorem dX6_lay_34 : decode cX6_lay 34 = .ok (.aload_n 0, 1) := by decide +kernel
theorem dX6_lay_35 : decode cX6_lay 35 = .ok (.getfield 19, 3) := by decide +kernel
theorem dX6_lay_38 : decode cX6_lay 38 = .ok (.aload_n 0, 1) := by decide +kernel
theorem dX6_lay_39 : decode cX6_lay 39 = .ok (.getfield 23, 3) := by decide +kernel
theorem dX6_lay_42 : decode cX6_lay 42 = .ok (.invokevirtual 91, 3) := by decide +kernel
theorem dX6_lay_45 : decode cX6_lay 45 = .ok (.aload_n 0, 1) := by decide +kernel
theorem dX6_lay_46 : decode cX6_lay 46 = .ok (.getfield 29, 3) := by decide +kernel
theorem dX6_lay_49 : decode cX6_lay 49 = .ok (.iconst 0, 1) := by decide +kernel
theorem dX6_lay_50 : decode cX6_lay 50 = .ok (.putfield 94, 3) := by decide +kernel
theorem dX6_lay_53 : decode cX6_lay 53 = .ok (.aload_n 0, 1) := by decide +kernel
theorem dX6_lay_54 : decode cX6_lay 54 = .ok (.getfield 52, 3) := by decide +kernel
theorem dX6_lay_57 : decode cX6_lay 57 = .ok (.iconst 0, 1) := by decide +kernel
theorem dX6_lay_58 : decode cX6_lay 58 = .ok (.putfield 97, 3) := by decide +kernel
theorem dX6_lay_61 : decode cX6_lay 61 = .ok (.aload_n 0, 1) := by decide +kernel
theorem dX6_lay_62 : decode cX6_lay 62 = .ok (.iconst 0, 1) := by decide +kernel
theorem dX6_lay_63 : decode cX6_lay 63 = .ok (.putfield 98, 3) := by decide +kernel
theorem dX6_lay_66 : decode cX6_lay 66 = .ok (.aload_n 0, 1) := by decide +kernel
theorem dX6_lay_67 : decode cX6_lay 67 = .ok (.getfield 45, 3) := by decide +kernel
theorem dX6_lay_70 : decode cX6_lay 70 = .ok (.invokevirtual 101, 3) := by decide +kernel
theorem dX6_lay_73 : decode cX6_lay 73 = .ok (.aload_n 0, 1) := by decide +kernel
theorem dX6_lay_74 : decode cX6_lay 74 = .ok (.getfield 19, 3) := by decide +kernel
theorem dX6_lay_77 : decode cX6_lay 77 = .ok (.getfield 88, 3) := by decide +kernel
theorem dX6_lay_80 : decode cX6_lay 80 = .ok (.ireturn, 1) := by decide +kernel
theorem dX6_rule_0 : decode cX6_rule 0 = .ok (.aload_n 0, 1) := by decide +kernel
theorem dX6_rule_1 : decode cX6_rule 1 = .ok (.getfield 19, 3) := by decide +kernel
theorem dX6_rule_4 : decode cX6_rule 4 = .ok (.iload_n 1, 1) := by decide +kernel
theorem dX6_rule_5 : decode cX6_rule 5 = .ok (.iload_n 2, 1) := by decide +kernel
theorem dX6_rule_6 : decode cX6_rule 6 = .ok (.invokevirtual 104, 3) := by decide +kernel
theorem dX6_rule_9 : decode cX6_rule 9 = .ok (.ifCond .ne 5, 3) := by decide +kernel
theorem dX6_rule_12 : decode cX6_rule 12 = .ok (.iconst (-1), 1) := by decide +kernel
theorem dX6_rule_13 : decode cX6_rule 13 = .ok (.ireturn, 1) := by decide +kernel
theorem dX6_rule_14 : decode cX6_rule 14 = .ok (.aload_n 0, 1) := by decide +kernel
theorem dX6_rule_15 : decode cX6_rule 15 = .ok (.getfield 19, 3) := by decide +kernel
theorem dX6_rule_18 : decode cX6_rule 18 = .ok (.iload_n 1, 1) := by decide +kernel
theorem dX6_rule_19 : decode cX6_rule 19 = .ok (.invokevirtual 108, 3) := by decide +kernel
theorem dX6_rule_22 : decode cX6_rule 22 = .ok (.istore_n 3, 1) := by decide +kernel
theorem dX6_rule_23 : decode cX6_rule 23 = .ok (.iload_n 3, 1) := by decide +kernel
theorem dX6_rule_24 : decode cX6_rule 24 = .ok (.iload_n 2, 1) := by decide +kernel
theorem dX6_rule_25 : decode cX6_rule 25 = .ok (.if_icmp .ne 6, 3) := by decide +kernel
theorem dX6_rule_28 : decode cX6_rule 28 = .ok (.bipush (-2), 2) := by decide +kernel
theorem dX6_rule_30 : decode cX6_rule 30 = .ok (.ireturn, 1) := by decide +kernel
theorem dX6_rule_31 : decode cX6_rule 31 = .ok (.aload_n 0, 1) := by decide +kernel
theorem dX6_rule_32 : decode cX6_rule 32 = .ok (.getfield 19, 3) := by decide +kernel
theorem dX6_rule_35 : decode cX6_rule 35 = .ok (.iload_n 1, 1) := by decide +kernel
theorem dX6_rule_36 : decode cX6_rule 36 = .ok (.iload_n 2, 1) := by decide +kernel
theorem dX6_rule_37 : decode cX6_rule 37 = .ok (.invokevirtual 112, 3) := by decide +kernel
theorem dX6_rule_40 : decode cX6_rule 40 = .ok (.aload_n 0, 1) := by decide +kernel
theorem dX6_rule_41 : decode cX6_rule 41 = .ok (.getfield 52, 3) := by decide +kernel
theorem dX6_rule_44 : decode cX6_rule 44 = .ok (.iconst 5, 1) := by decide +kernel
theorem dX6_rule_45 : decode cX6_rule 45 = .ok (.iload_n 1, 1) := by decide +kernel
theorem dX6_rule_46 : decode cX6_rule 46 = .ok (.iload_n 3, 1) := by decide +kernel
theorem dX6_rule_47 : decode cX6_rule 47 = .ok (.invokevirtual 116, 3) := by decide +kernel
theorem dX6_rule_50 : decode cX6_rule 50 = .ok (.aload_n 0, 1) := by decide +kernel
theorem dX6_rule_51 : decode cX6_rule 51 = .ok (.getfield 45, 3) := by decide +kernel
theorem dX6_rule_54 : decode cX6_rule 54 = .ok (.invokevirtual 101, 3) := by decide +kernel
theorem dX6_rule_57 : decode cX6_rule 57 = .ok (.iload_n 3, 1) := by decide +kernel
theorem dX6_rule_58 : decode cX6_rule 58 = .ok (.ireturn, 1) := by decide +kernel
theorem dX6_code_0 : decode cX6_code 0 = .ok (.aload_n 0, 1) := by decide +kernel
theorem dX6_code_1 : decode cX6_code 1 = .ok (.getfield 19, 3) := by decide +kernel
theorem dX6_code_4 : decode cX6_code 4 = .ok (.iload_n 1, 1) := by decide +kernel
theorem dX6_code_5 : decode cX6_code 5 = .ok (.invokevirtual 120, 3) := by decide +kernel
theorem dX6_code_8 : decode cX6_code 8 = .ok (.ifCond .eq 12, 3) := by decide +kernel
theorem dX6_code_11 : decode cX6_code 11 = .ok (.iload_n 2, 1) := by decide +kernel
theorem dX6_code_12 : decode cX6_code 12 = .ok (.ifCond .lt 8, 3) := by decide +kernel
theorem dX6_code_15 : decode cX6_code 15 = .ok (.iload_n 2, 1) := by decide +kernel
theorem dX6_code_16 : decode cX6_code 16 = .ok (.iconst 1, 1) := by decide +kernel
theorem dX6_code_17 : decode cX6_code 17 = .ok (.if_icmp .le 5, 3) := by decide +kernel
theorem dX6_code_20 : decode cX6_code 20 = .ok (.iconst (-1), 1) := by decide +kernel
theorem dX6_code_21 : decode cX6_code 21 = .ok (.ireturn, 1) := by decide +kernel
theorem dX6_code_22 : decode cX6_code 22 = .ok (.iload_n 2, 1) := by decide +kernel
theorem dX6_code_23 : decode cX6_code 23 = .ok (.ifCond .ne 14, 3) := by decide +kernel
theorem dX6_code_26 : decode cX6_code 26 = .ok (.aload_n 0, 1) := by decide +kernel
theorem dX6_code_27 : decode cX6_code 27 = .ok (.getfield 19, 3) := by decide +kernel
theorem dX6_code_30 : decode cX6_code 30 = .ok (.iload_n 1, 1) := by decide +kernel
theorem dX6_code_31 : decode cX6_code 31 = .ok (.invokevirtual 123, 3) := by decide +kernel
theorem dX6_code_34 : decode cX6_code 34 = .ok (.goto 11, 3) := by decide +kernel
theorem dX6_code_37 : decode cX6_code 37 = .ok (.aload_n 0, 1) := by decide +kernel
theorem dX6_code_38 : decode cX6_code 38 = .ok (.getfield 19, 3) := by decide +kernel
theorem dX6_code_41 : decode cX6_code 41 = .ok (.iload_n 1, 1) := by decide +kernel
theorem dX6_code_42 : decode cX6_code 42 = .ok (.invokevirtual 126, 3) := by decide +kernel
theorem dX6_code_45 : decode cX6_code 45 = .ok (.ireturn, 1) := by decide +kernel
theorem dX6_pass_0 : decode cX6_pass 0 = .ok (.iload_n 1, 1) := by decide +kernel
theorem dX6_pass_1 : decode cX6_pass 1 = .ok (.ifCond .lt 10, 3) := by decide +kernel
theorem dX6_pass_4 : decode cX6_pass 4 = .ok (.iload_n 1, 1) := by decide +kernel
theorem dX6_pass_5 : decode cX6_pass 5 = .ok (.sipush 9999, 3) := by decide +kernel
theorem dX6_pass_8 : decode cX6_pass 8 = .ok (.if_icmp .le 5, 3) := by decide +kernel
theorem dX6_pass_11 : decode cX6_pass 11 = .ok (.iconst (-1), 1) := by decide +kernel
theorem dX6_pass_12 : decode cX6_pass 12 = .ok (.ireturn, 1) := by decide +kernel
theorem dX6_pass_13 : decode cX6_pass 13 = .ok (.aload_n 0, 1) := by decide +kernel
theorem dX6_pass_14 : decode cX6_pass 14 = .ok (.getfield 98, 3) := by decide +kernel
theorem dX6_pass_17 : decode cX6_pass 17 = .ok (.iload_n 1, 1) := by decide +kernel
theorem dX6_pass_18 : decode cX6_pass 18 = .ok (.iadd, 1) := by decide +kernel
theorem dX6_pass_19 : decode cX6_pass 19 = .ok (.sipush 9999, 3) := by decide +kernel
theorem dX6_pass_22 : decode cX6_pass 22 = .ok (.if_icmp .le 6, 3) := by decide +kernel
theorem dX6_pass_25 : decode cX6_pass 25 = .ok (.bipush (-3), 2) := by decide +kernel
theorem dX6_pass_27 : decode cX6_pass 27 = .ok (.ireturn, 1) := by decide +kernel
theorem dX6_pass_28 : decode cX6_pass 28 = .ok (.aload_n 0, 1) := by decide +kernel
theorem dX6_pass_29 : decode cX6_pass 29 = .ok (.dup, 1) := by decide +kernel
theorem dX6_pass_30 : decode cX6_pass 30 = .ok (.getfield 98, 3) := by decide +kernel
theorem dX6_pass_33 : decode cX6_pass 33 = .ok (.iload_n 1, 1) := by decide +kernel
theorem dX6_pass_34 : decode cX6_pass 34 = .ok (.iadd, 1) := by decide +kernel
theorem dX6_pass_35 : decode cX6_pass 35 = .ok (.putfield 98, 3) := by decide +kernel
theorem dX6_pass_38 : decode cX6_pass 38 = .ok (.aload_n 0, 1) := by decide +kernel
theorem dX6_pass_39 : decode cX6_pass 39 = .ok (.getfield 98, 3) := by decide +kernel
theorem dX6_pass_42 : decode cX6_pass 42 = .ok (.ireturn, 1) := by decide +kernel
theorem dX6_convict_0 : decode cX6_convict 0 = .ok (.aload_n 0, 1) := by decide +kernel
theorem dX6_convict_1 : decode cX6_convict 1 = .ok (.iload_n 1, 1) := by decide +kernel
theorem dX6_convict_2 : decode cX6_convict 2 = .ok (.iload_n 2, 1) := by decide +kernel
theorem dX6_convict_3 : decode cX6_convict 3 = .ok (.iload_n 3, 1) := by decide +kernel
theorem dX6_convict_4 : decode cX6_convict 4 = .ok (.invokevirtual 129, 3) := by decide +kernel
theorem dX6_convict_7 : decode cX6_convict 7 = .ok (.ifCond .eq 14, 3) := by decide +kernel
theorem dX6_convict_10 : decode cX6_convict 10 = .ok (.iload 4, 2) := by decide +kernel
theorem dX6_convict_12 : decode cX6_convict 12 = .ok (.ifCond .lt 9, 3) := by decide +kernel
theorem dX6_convict_15 : decode cX6_convict 15 = .ok (.iload 4, 2) := by decide +kernel
theorem dX6_convict_17 : decode cX6_convict 17 = .ok (.iconst 1, 1) := by decide +kernel
theorem dX6_convict_18 : decode cX6_convict 18 = .ok (.if_icmp .le 5, 3) := by decide +kernel
theorem dX6_convict_21 : decode cX6_convict 21 = .ok (.iconst (-1), 1) := by decide +kernel
theorem dX6_convict_22 : decode cX6_convict 22 = .ok (.ireturn, 1) := by decide +kernel
theorem dX6_convict_23 : decode cX6_convict 23 = .ok (.aload_n 0, 1) := by decide +kernel
theorem dX6_convict_24 : decode cX6_convict 24 = .ok (.getfield 29, 3) := by decide +kernel
theorem dX6_convict_27 : decode cX6_convict 27 = .ok (.getfield 94, 3) := by decide +kernel
theorem dX6_convict_30 : decode cX6_convict 30 = .ok (.bipush 40, 2) := by decide +kernel
theorem dX6_convict_32 : decode cX6_convict 32 = .ok (.if_icmp .lt 6, 3) := by decide +kernel
theorem dX6_convict_35 : decode cX6_convict 35 = .ok (.bipush (-3), 2) := by decide +kernel
theorem dX6_convict_37 : decode cX6_convict 37 = .ok (.ireturn, 1) := by decide +kernel
theorem dX6_convict_38 : decode cX6_convict 38 = .ok (.aload_n 0, 1) := by decide +kernel
theorem dX6_convict_39 : decode cX6_convict 39 = .ok (.getfield 29, 3) := by decide +kernel
theorem dX6_convict_42 : decode cX6_convict 42 = .ok (.iload_n 1, 1) := by decide +kernel
theorem dX6_convict_43 : decode cX6_convict 43 = .ok (.aload_n 0, 1) := by decide +kernel
theorem dX6_convict_44 : decode cX6_convict 44 = .ok (.getfield 98, 3) := by decide +kernel
theorem dX6_convict_47 : decode cX6_convict 47 = .ok (.iload_n 2, 1) := by decide +kernel
theorem dX6_convict_48 : decode cX6_convict 48 = .ok (.iload_n 3, 1) := by decide +kernel
theorem dX6_convict_49 : decode cX6_convict 49 = .ok (.aload_n 0, 1) := by decide +kernel
theorem dX6_convict_50 : decode cX6_convict 50 = .ok (.getfield 19, 3) := by decide +kernel
theorem dX6_convict_53 : decode cX6_convict 53 = .ok (.iload_n 3, 1) := by decide +kernel
theorem dX6_convict_54 : decode cX6_convict 54 = .ok (.invokevirtual 123, 3) := by decide +kernel
theorem dX6_convict_57 : decode cX6_convict 57 = .ok (.iload 4, 2) := by decide +kernel
theorem dX6_convict_59 : decode cX6_convict 59 = .ok (.invokevirtual 133, 3) := by decide +kernel
theorem dX6_convict_62 : decode cX6_convict 62 = .ok (.aload_n 0, 1) := by decide +kernel
theorem dX6_convict_63 : decode cX6_convict 63 = .ok (.invokevirtual 137, 3) := by decide +kernel
theorem dX6_convict_66 : decode cX6_convict 66 = .ok (.ireturn, 1) := by decide +kernel
theorem dX6_course_0 : decode cX6_course 0 = .ok (.iload_n 1, 1) := by decide +kernel
theorem dX6_course_1 : decode cX6_course 1 = .ok (.invokestatic 140, 3) := by decide +kernel
theorem dX6_course_4 : decode cX6_course 4 = .ok (.ifCond .eq 12, 3) := by decide +kernel
theorem dX6_course_7 : decode cX6_course 7 = .ok (.iload_n 2, 1) := by decide +kernel
theorem dX6_course_8 : decode cX6_course 8 = .ok (.ifCond .lt 8, 3) := by decide +kernel
theorem dX6_course_11 : decode cX6_course 11 = .ok (.iload_n 2, 1) := by decide +kernel
theorem dX6_course_12 : decode cX6_course 12 = .ok (.iconst 1, 1) := by decide +kernel
theorem dX6_course_13 : decode cX6_course 13 = .ok (.if_icmp .le 5, 3) := by decide +kernel
theorem dX6_course_16 : decode cX6_course 16 = .ok (.iconst (-1), 1) := by decide +kernel
theorem dX6_course_17 : decode cX6_course 17 = .ok (.ireturn, 1) := by decide +kernel
theorem dX6_course_18 : decode cX6_course 18 = .ok (.aload_n 0, 1) := by decide +kernel
theorem dX6_course_19 : decode cX6_course 19 = .ok (.getfield 29, 3) := by decide +kernel
theorem dX6_course_22 : decode cX6_course 22 = .ok (.getfield 94, 3) := by decide +kernel
theorem dX6_course_25 : decode cX6_course 25 = .ok (.bipush 40, 2) := by decide +kernel
theorem dX6_course_27 : decode cX6_course 27 = .ok (.if_icmp .lt 6, 3) := by decide +kernel
theorem dX6_course_30 : decode cX6_course 30 = .ok (.bipush (-3), 2) := by decide +kernel
theorem dX6_course_32 : decode cX6_course 32 = .ok (.ireturn, 1) := by decide +kernel
theorem dX6_course_33 : decode cX6_course 33 = .ok (.iload_n 2, 1) := by decide +kernel
theorem dX6_course_34 : decode cX6_course 34 = .ok (.ifCond .ne 27, 3) := by decide +kernel
theorem dX6_course_37 : decode cX6_course 37 = .ok (.aload_n 0, 1) := by decide +kernel
theorem dX6_course_38 : decode cX6_course 38 = .ok (.getfield 29, 3) := by decide +kernel
theorem dX6_course_41 : decode cX6_course 41 = .ok (.iload_n 1, 1) := by decide +kernel
theorem dX6_course_42 : decode cX6_course 42 = .ok (.aload_n 0, 1) := by decide +kernel
theorem dX6_course_43 : decode cX6_course 43 = .ok (.getfield 98, 3) := by decide +kernel
theorem dX6_course_46 : decode cX6_course 46 = .ok (.aload_n 0, 1) := by decide +kernel
theorem dX6_course_47 : decode cX6_course 47 = .ok (.getfield 19, 3) := by decide +kernel
theorem dX6_course_50 : decode cX6_course 50 = .ok (.iconst 0, 1) := by decide +kernel
theorem dX6_course_51 : decode cX6_course 51 = .ok (.invokevirtual 108, 3) := by decide +kernel
theorem dX6_course_54 : decode cX6_course 54 = .ok (.isub, 1) := by decide +kernel
theorem dX6_course_55 : decode cX6_course 55 = .ok (.invokevirtual 143, 3) := by decide +kernel
theorem dX6_course_58 : decode cX6_course 58 = .ok (.goto 23, 3) := by decide +kernel
theorem dX6_course_61 : decode cX6_course 61 = .ok (.aload_n 0, 1) := by decide +kernel
theorem dX6_course_62 : decode cX6_course 62 = .ok (.getfield 36, 3) := by decide +kernel
theorem dX6_course_65 : decode cX6_course 65 = .ok (.iload_n 1, 1) := by decide +kernel
theorem dX6_course_66 : decode cX6_course 66 = .ok (.aload_n 0, 1) := by decide +kernel
theorem dX6_course_67 : decode cX6_course 67 = .ok (.getfield 98, 3) := by decide +kernel
theorem dX6_course_70 : decode cX6_course 70 = .ok (.invokevirtual 146, 3) := by decide +kernel
theorem dX6_course_73 : decode cX6_course 73 = .ok (.ifCond .ge 7, 3) := by decide +kernel
theorem dX6_course_76 : decode cX6_course 76 = .ok (.iconst 1, 1) := by decide +kernel
theorem dX6_course_77 : decode cX6_course 77 = .ok (.goto 4, 3) := by decide +kernel
theorem dX6_course_80 : decode cX6_course 80 = .ok (.iconst 0, 1) := by decide +kernel
theorem dX6_course_81 : decode cX6_course 81 = .ok (.istore_n 3, 1) := by decide +kernel
theorem dX6_course_82 : decode cX6_course 82 = .ok (.iload_n 3, 1) := by decide +kernel
theorem dX6_course_83 : decode cX6_course 83 = .ok (.ifCond .eq 6, 3) := by decide +kernel
theorem dX6_course_86 : decode cX6_course 86 = .ok (.bipush (-2), 2) := by decide +kernel
theorem dX6_course_88 : decode cX6_course 88 = .ok (.ireturn, 1) := by decide +kernel
theorem dX6_course_89 : decode cX6_course 89 = .ok (.aload_n 0, 1) := by decide +kernel
theorem dX6_course_90 : decode cX6_course 90 = .ok (.getfield 29, 3) := by decide +kernel
theorem dX6_course_93 : decode cX6_course 93 = .ok (.iload_n 1, 1) := by decide +kernel
theorem dX6_course_94 : decode cX6_course 94 = .ok (.aload_n 0, 1) := by decide +kernel
theorem dX6_course_95 : decode cX6_course 95 = .ok (.getfield 98, 3) := by decide +kernel
theorem dX6_course_98 : decode cX6_course 98 = .ok (.iload_n 2, 1) := by decide +kernel
theorem dX6_course_99 : decode cX6_course 99 = .ok (.ifCond .ne 7, 3) := by decide +kernel
theorem dX6_course_102 : decode cX6_course 102 = .ok (.iconst 1, 1) := by decide +kernel
theorem dX6_course_103 : decode cX6_course 103 = .ok (.goto 4, 3) := by decide +kernel
theorem dX6_course_106 : decode cX6_course 106 = .ok (.iconst 2, 1) := by decide +kernel
theorem dX6_course_107 : decode cX6_course 107 = .ok (.invokevirtual 150, 3) := by decide +kernel
theorem dX6_course_110 : decode cX6_course 110 = .ok (.aload_n 0, 1) := by decide +kernel
theorem dX6_course_111 : decode cX6_course 111 = .ok (.invokevirtual 137, 3) := by decide +kernel
theorem dX6_course_114 : decode cX6_course 114 = .ok (.ireturn, 1) := by decide +kernel
theorem dX6_strike_0 : decode cX6_strike 0 = .ok (.aload_n 0, 1) := by decide +kernel
theorem dX6_strike_1 : decode cX6_strike 1 = .ok (.getfield 29, 3) := by decide +kernel
theorem dX6_strike_4 : decode cX6_strike 4 = .ok (.iload_n 1, 1) := by decide +kernel
theorem dX6_strike_5 : decode cX6_strike 5 = .ok (.invokevirtual 153, 3) := by decide +kernel
theorem dX6_strike_8 : decode cX6_strike 8 = .ok (.ifCond .ne 5, 3) := by decide +kernel
theorem dX6_strike_11 : decode cX6_strike 11 = .ok (.iconst (-1), 1) := by decide +kernel
theorem dX6_strike_12 : decode cX6_strike 12 = .ok (.ireturn, 1) := by decide +kernel
theorem dX6_strike_13 : decode cX6_strike 13 = .ok (.aload_n 0, 1) := by decide +kernel
theorem dX6_strike_14 : decode cX6_strike 14 = .ok (.getfield 29, 3) := by decide +kernel
theorem dX6_strike_17 : decode cX6_strike 17 = .ok (.getfield 156, 3) := by decide +kernel
theorem dX6_strike_20 : decode cX6_strike 20 = .ok (.iload_n 1, 1) := by decide +kernel
theorem dX6_strike_21 : decode cX6_strike 21 = .ok (.iaload, 1) := by decide +kernel
theorem dX6_strike_22 : decode cX6_strike 22 = .ok (.iconst 1, 1) := by decide +kernel
theorem dX6_strike_23 : decode cX6_strike 23 = .ok (.if_icmp .ne 6, 3) := by decide +kernel
theorem dX6_strike_26 : decode cX6_strike 26 = .ok (.bipush (-2), 2) := by decide +kernel
theorem dX6_strike_28 : decode cX6_strike 28 = .ok (.ireturn, 1) := by decide +kernel
theorem dX6_strike_29 : decode cX6_strike 29 = .ok (.aload_n 0, 1) := by decide +kernel
theorem dX6_strike_30 : decode cX6_strike 30 = .ok (.iconst 1, 1) := by decide +kernel
theorem dX6_strike_31 : decode cX6_strike 31 = .ok (.iload_n 1, 1) := by decide +kernel
theorem dX6_strike_32 : decode cX6_strike 32 = .ok (.iconst 1, 1) := by decide +kernel
theorem dX6_strike_33 : decode cX6_strike 33 = .ok (.invokevirtual 160, 3) := by decide +kernel
theorem dX6_strike_36 : decode cX6_strike 36 = .ok (.ireturn, 1) := by decide +kernel
theorem dX6_lower_0 : decode cX6_lower 0 = .ok (.aload_n 0, 1) := by decide +kernel
theorem dX6_lower_1 : decode cX6_lower 1 = .ok (.getfield 29, 3) := by decide +kernel
theorem dX6_lower_4 : decode cX6_lower 4 = .ok (.iload_n 1, 1) := by decide +kernel
theorem dX6_lower_5 : decode cX6_lower 5 = .ok (.invokevirtual 153, 3) := by decide +kernel
theorem dX6_lower_8 : decode cX6_lower 8 = .ok (.ifCond .eq 13, 3) := by decide +kernel
theorem dX6_lower_11 : decode cX6_lower 11 = .ok (.iload_n 2, 1) := by decide +kernel
theorem dX6_lower_12 : decode cX6_lower 12 = .ok (.ifCond .lt 9, 3) := by decide +kernel
theorem dX6_lower_15 : decode cX6_lower 15 = .ok (.iload_n 2, 1) := by decide +kernel
theorem dX6_lower_16 : decode cX6_lower 16 = .ok (.bipush 8, 2) := by decide +kernel
theorem dX6_lower_18 : decode cX6_lower 18 = .ok (.if_icmp .le 5, 3) := by decide +kernel
theorem dX6_lower_21 : decode cX6_lower 21 = .ok (.iconst (-1), 1) := by decide +kernel
theorem dX6_lower_22 : decode cX6_lower 22 = .ok (.ireturn, 1) := by decide +kernel
theorem dX6_lower_23 : decode cX6_lower 23 = .ok (.aload_n 0, 1) := by decide +kernel
theorem dX6_lower_24 : decode cX6_lower 24 = .ok (.getfield 29, 3) := by decide +kernel
theorem dX6_lower_27 : decode cX6_lower 27 = .ok (.getfield 156, 3) := by decide +kernel
theorem dX6_lower_30 : decode cX6_lower 30 = .ok (.iload_n 1, 1) := by decide +kernel
theorem dX6_lower_31 : decode cX6_lower 31 = .ok (.iaload, 1) := by decide +kernel
theorem dX6_lower_32 : decode cX6_lower 32 = .ok (.iconst 1, 1) := by decide +kernel
theorem dX6_lower_33 : decode cX6_lower 33 = .ok (.if_icmp .eq 16, 3) := by decide +kernel
theorem dX6_lower_36 : decode cX6_lower 36 = .ok (.aload_n 0, 1) := by decide +kernel
theorem dX6_lower_37 : decode cX6_lower 37 = .ok (.getfield 29, 3) := by decide +kernel
theorem dX6_lower_40 : decode cX6_lower 40 = .ok (.getfield 164, 3) := by decide +kernel
theorem dX6_lower_43 : decode cX6_lower 43 = .ok (.iload_n 1, 1) := by decide +kernel
theorem dX6_lower_44 : decode cX6_lower 44 = .ok (.iaload, 1) := by decide +kernel
theorem dX6_lower_45 : decode cX6_lower 45 = .ok (.iload_n 2, 1) := by decide +kernel
theorem dX6_lower_46 : decode cX6_lower 46 = .ok (.if_icmp .gt 6, 3) := by decide +kernel
theorem dX6_lower_49 : decode cX6_lower 49 = .ok (.bipush (-2), 2) := by decide +kernel
theorem dX6_lower_51 : decode cX6_lower 51 = .ok (.ireturn, 1) := by decide +kernel
theorem dX6_lower_52 : decode cX6_lower 52 = .ok (.aload_n 0, 1) := by decide +kernel
theorem dX6_lower_53 : decode cX6_lower 53 = .ok (.iconst 2, 1) := by decide +kernel
theorem dX6_lower_54 : decode cX6_lower 54 = .ok (.iload_n 1, 1) := by decide +kernel
theorem dX6_lower_55 : decode cX6_lower 55 = .ok (.iload_n 2, 1) := by decide +kernel
theorem dX6_lower_56 : decode cX6_lower 56 = .ok (.invokevirtual 160, 3) := by decide +kernel
theorem dX6_lower_59 : decode cX6_lower 59 = .ok (.ireturn, 1) := by decide +kernel
theorem dX6_redate_0 : decode cX6_redate 0 = .ok (.aload_n 0, 1) := by decide +kernel
theorem dX6_redate_1 : decode cX6_redate 1 = .ok (.getfield 29, 3) := by decide +kernel
theorem dX6_redate_4 : decode cX6_redate 4 = .ok (.iload_n 1, 1) := by decide +kernel
theorem dX6_redate_5 : decode cX6_redate 5 = .ok (.invokevirtual 153, 3) := by decide +kernel
theorem dX6_redate_8 : decode cX6_redate 8 = .ok (.ifCond .eq 20, 3) := by decide +kernel
theorem dX6_redate_11 : decode cX6_redate 11 = .ok (.iload_n 2, 1) := by decide +kernel
theorem dX6_redate_12 : decode cX6_redate 12 = .ok (.ifCond .lt 16, 3) := by decide +kernel
theorem dX6_redate_15 : decode cX6_redate 15 = .ok (.iload_n 2, 1) := by decide +kernel
theorem dX6_redate_16 : decode cX6_redate 16 = .ok (.aload_n 0, 1) := by decide +kernel
theorem dX6_redate_17 : decode cX6_redate 17 = .ok (.getfield 29, 3) := by decide +kernel
theorem dX6_redate_20 : decode cX6_redate 20 = .ok (.getfield 167, 3) := by decide +kernel
theorem dX6_redate_23 : decode cX6_redate 23 = .ok (.iload_n 1, 1) := by decide +kernel
theorem dX6_redate_24 : decode cX6_redate 24 = .ok (.iaload, 1) := by decide +kernel
theorem dX6_redate_25 : decode cX6_redate 25 = .ok (.if_icmp .le 5, 3) := by decide +kernel
theorem dX6_redate_28 : decode cX6_redate 28 = .ok (.iconst (-1), 1) := by decide +kernel
theorem dX6_redate_29 : decode cX6_redate 29 = .ok (.ireturn, 1) := by decide +kernel
theorem dX6_redate_30 : decode cX6_redate 30 = .ok (.aload_n 0, 1) := by decide +kernel
theorem dX6_redate_31 : decode cX6_redate 31 = .ok (.getfield 29, 3) := by decide +kernel
theorem dX6_redate_34 : decode cX6_redate 34 = .ok (.getfield 156, 3) := by decide +kernel
theorem dX6_redate_37 : decode cX6_redate 37 = .ok (.iload_n 1, 1) := by decide +kernel
theorem dX6_redate_38 : decode cX6_redate 38 = .ok (.iaload, 1) := by decide +kernel
theorem dX6_redate_39 : decode cX6_redate 39 = .ok (.iconst 1, 1) := by decide +kernel
theorem dX6_redate_40 : decode cX6_redate 40 = .ok (.if_icmp .eq 16, 3) := by decide +kernel
theorem dX6_redate_43 : decode cX6_redate 43 = .ok (.aload_n 0, 1) := by decide +kernel
theorem dX6_redate_44 : decode cX6_redate 44 = .ok (.getfield 29, 3) := by decide +kernel
theorem dX6_redate_47 : decode cX6_redate 47 = .ok (.getfield 170, 3) := by decide +kernel
theorem dX6_redate_50 : decode cX6_redate 50 = .ok (.iload_n 1, 1) := by decide +kernel
theorem dX6_redate_51 : decode cX6_redate 51 = .ok (.iaload, 1) := by decide +kernel
theorem dX6_redate_52 : decode cX6_redate 52 = .ok (.iload_n 2, 1) := by decide +kernel
theorem dX6_redate_53 : decode cX6_redate 53 = .ok (.if_icmp .ne 6, 3) := by decide +kernel
theorem dX6_redate_56 : decode cX6_redate 56 = .ok (.bipush (-2), 2) := by decide +kernel
theorem dX6_redate_58 : decode cX6_redate 58 = .ok (.ireturn, 1) := by decide +kernel
theorem dX6_redate_59 : decode cX6_redate 59 = .ok (.aload_n 0, 1) := by decide +kernel
theorem dX6_redate_60 : decode cX6_redate 60 = .ok (.iconst 3, 1) := by decide +kernel
theorem dX6_redate_61 : decode cX6_redate 61 = .ok (.iload_n 1, 1) := by decide +kernel
theorem dX6_redate_62 : decode cX6_redate 62 = .ok (.iload_n 2, 1) := by decide +kernel
theorem dX6_redate_63 : decode cX6_redate 63 = .ok (.invokevirtual 160, 3) := by decide +kernel
theorem dX6_redate_66 : decode cX6_redate 66 = .ok (.ireturn, 1) := by decide +kernel
theorem dX6_excuse_0 : decode cX6_excuse 0 = .ok (.aload_n 0, 1) := by decide +kernel
theorem dX6_excuse_1 : decode cX6_excuse 1 = .ok (.getfield 29, 3) := by decide +kernel
theorem dX6_excuse_4 : decode cX6_excuse 4 = .ok (.iload_n 1, 1) := by decide +kernel
theorem dX6_excuse_5 : decode cX6_excuse 5 = .ok (.invokevirtual 153, 3) := by decide +kernel
theorem dX6_excuse_8 : decode cX6_excuse 8 = .ok (.ifCond .ne 5, 3) := by decide +kernel
theorem dX6_excuse_11 : decode cX6_excuse 11 = .ok (.iconst (-1), 1) := by decide +kernel
theorem dX6_excuse_12 : decode cX6_excuse 12 = .ok (.ireturn, 1) := by decide +kernel
theorem dX6_excuse_13 : decode cX6_excuse 13 = .ok (.aload_n 0, 1) := by decide +kernel
theorem dX6_excuse_14 : decode cX6_excuse 14 = .ok (.getfield 29, 3) := by decide +kernel
theorem dX6_excuse_17 : decode cX6_excuse 17 = .ok (.getfield 156, 3) := by decide +kernel
theorem dX6_excuse_20 : decode cX6_excuse 20 = .ok (.iload_n 1, 1) := by decide +kernel
theorem dX6_excuse_21 : decode cX6_excuse 21 = .ok (.iaload, 1) := by decide +kernel
theorem dX6_excuse_22 : decode cX6_excuse 22 = .ok (.iconst 1, 1) := by decide +kernel
theorem dX6_excuse_23 : decode cX6_excuse 23 = .ok (.if_icmp .ne 6, 3) := by decide +kernel
theorem dX6_excuse_26 : decode cX6_excuse 26 = .ok (.bipush (-2), 2) := by decide +kernel
theorem dX6_excuse_28 : decode cX6_excuse 28 = .ok (.ireturn, 1) := by decide +kernel
theorem dX6_excuse_29 : decode cX6_excuse 29 = .ok (.aload_n 0, 1) := by decide +kernel
theorem dX6_excuse_30 : decode cX6_excuse 30 = .ok (.iconst 4, 1) := by decide +kernel
theorem dX6_excuse_31 : decode cX6_excuse 31 = .ok (.iload_n 1, 1) := by decide +kernel
theorem dX6_excuse_32 : decode cX6_excuse 32 = .ok (.iconst 1, 1) := by decide +kernel
theorem dX6_excuse_33 : decode cX6_excuse 33 = .ok (.aload_n 0, 1) := by decide +kernel
theorem dX6_excuse_34 : decode cX6_excuse 34 = .ok (.getfield 29, 3) := by decide +kernel
theorem dX6_excuse_37 : decode cX6_excuse 37 = .ok (.getfield 173, 3) := by decide +kernel
theorem dX6_excuse_40 : decode cX6_excuse 40 = .ok (.iload_n 1, 1) := by decide +kernel
theorem dX6_excuse_41 : decode cX6_excuse 41 = .ok (.iaload, 1) := by decide +kernel
theorem dX6_excuse_42 : decode cX6_excuse 42 = .ok (.isub, 1) := by decide +kernel
theorem dX6_excuse_43 : decode cX6_excuse 43 = .ok (.invokevirtual 160, 3) := by decide +kernel
theorem dX6_excuse_46 : decode cX6_excuse 46 = .ok (.ireturn, 1) := by decide +kernel
theorem dX6_undo_0 : decode cX6_undo 0 = .ok (.aload_n 0, 1) := by decide +kernel
theorem dX6_undo_1 : decode cX6_undo 1 = .ok (.getfield 52, 3) := by decide +kernel
theorem dX6_undo_4 : decode cX6_undo 4 = .ok (.invokevirtual 176, 3) := by decide +kernel
theorem dX6_undo_7 : decode cX6_undo 7 = .ok (.ifCond .ne 6, 3) := by decide +kernel
theorem dX6_undo_10 : decode cX6_undo 10 = .ok (.bipush (-2), 2) := by decide +kernel
theorem dX6_undo_12 : decode cX6_undo 12 = .ok (.ireturn, 1) := by decide +kernel
theorem dX6_undo_13 : decode cX6_undo 13 = .ok (.aload_n 0, 1) := by decide +kernel
theorem dX6_undo_14 : decode cX6_undo 14 = .ok (.getfield 52, 3) := by decide +kernel
theorem dX6_undo_17 : decode cX6_undo 17 = .ok (.getfield 180, 3) := by decide +kernel
theorem dX6_undo_20 : decode cX6_undo 20 = .ok (.istore_n 1, 1) := by decide +kernel
theorem dX6_undo_21 : decode cX6_undo 21 = .ok (.iload_n 1, 1) := by decide +kernel
theorem dX6_undo_22 : decode cX6_undo 22 = .ok (.ifCond .ne 13, 3) := by decide +kernel
theorem dX6_undo_25 : decode cX6_undo 25 = .ok (.aload_n 0, 1) := by decide +kernel
theorem dX6_undo_26 : decode cX6_undo 26 = .ok (.getfield 29, 3) := by decide +kernel
theorem dX6_undo_29 : decode cX6_undo 29 = .ok (.invokevirtual 183, 3) := by decide +kernel
theorem dX6_undo_32 : decode cX6_undo 32 = .ok (.goto 55, 3) := by decide +kernel
theorem dX6_undo_35 : decode cX6_undo 35 = .ok (.iload_n 1, 1) := by decide +kernel
theorem dX6_undo_36 : decode cX6_undo 36 = .ok (.iconst 5, 1) := by decide +kernel
theorem dX6_undo_37 : decode cX6_undo 37 = .ok (.if_icmp .ne 27, 3) := by decide +kernel
theorem dX6_undo_40 : decode cX6_undo 40 = .ok (.aload_n 0, 1) := by decide +kernel
theorem dX6_undo_41 : decode cX6_undo 41 = .ok (.getfield 19, 3) := by decide +kernel
theorem dX6_undo_44 : decode cX6_undo 44 = .ok (.aload_n 0, 1) := by decide +kernel
theorem dX6_undo_45 : decode cX6_undo 45 = .ok (.getfield 52, 3) := by decide +kernel
theorem dX6_undo_48 : decode cX6_undo 48 = .ok (.getfield 185, 3) := by decide +kernel
theorem dX6_undo_51 : decode cX6_undo 51 = .ok (.aload_n 0, 1) := by decide +kernel
theorem dX6_undo_52 : decode cX6_undo 52 = .ok (.getfield 52, 3) := by decide +kernel
theorem dX6_undo_55 : decode cX6_undo 55 = .ok (.getfield 188, 3) := by decide +kernel
theorem dX6_undo_58 : decode cX6_undo 58 = .ok (.invokevirtual 112, 3) := by decide +kernel
theorem dX6_undo_61 : decode cX6_undo 61 = .ok (.goto 26, 3) := by decide +kernel
theorem dX6_undo_64 : decode cX6_undo 64 = .ok (.aload_n 0, 1) := by decide +kernel
theorem dX6_undo_65 : decode cX6_undo 65 = .ok (.getfield 29, 3) := by decide +kernel
theorem dX6_undo_68 : decode cX6_undo 68 = .ok (.iload_n 1, 1) := by decide +kernel
theorem dX6_undo_69 : decode cX6_undo 69 = .ok (.aload_n 0, 1) := by decide +kernel
theorem dX6_undo_70 : decode cX6_undo 70 = .ok (.getfield 52, 3) := by decide +kernel
theorem dX6_undo_73 : decode cX6_undo 73 = .ok (.getfield 185, 3) := by decide +kernel
theorem dX6_undo_76 : decode cX6_undo 76 = .ok (.aload_n 0, 1) := by decide +kernel
theorem dX6_undo_77 : decode cX6_undo 77 = .ok (.getfield 52, 3) := by decide +kernel
theorem dX6_undo_80 : decode cX6_undo 80 = .ok (.getfield 188, 3) := by decide +kernel
theorem dX6_undo_83 : decode cX6_undo 83 = .ok (.invokevirtual 191, 3) := by decide +kernel
theorem dX6_undo_86 : decode cX6_undo 86 = .ok (.pop, 1) := by decide +kernel
theorem dX6_undo_87 : decode cX6_undo 87 = .ok (.aload_n 0, 1) := by decide +kernel
theorem dX6_undo_88 : decode cX6_undo 88 = .ok (.getfield 45, 3) := by decide +kernel
theorem dX6_undo_91 : decode cX6_undo 91 = .ok (.invokevirtual 101, 3) := by decide +kernel
theorem dX6_undo_94 : decode cX6_undo 94 = .ok (.aload_n 0, 1) := by decide +kernel
theorem dX6_undo_95 : decode cX6_undo 95 = .ok (.getfield 52, 3) := by decide +kernel
theorem dX6_undo_98 : decode cX6_undo 98 = .ok (.getfield 97, 3) := by decide +kernel
theorem dX6_undo_101 : decode cX6_undo 101 = .ok (.ireturn, 1) := by decide +kernel
theorem dX6_year_0 : decode cX6_year 0 = .ok (.iload_n 1, 1) := by decide +kernel
theorem dX6_year_1 : decode cX6_year 1 = .ok (.ifCond .lt 21, 3) := by decide +kernel
theorem dX6_year_4 : decode cX6_year 4 = .ok (.iload_n 1, 1) := by decide +kernel
theorem dX6_year_5 : decode cX6_year 5 = .ok (.sipush 9999, 3) := by decide +kernel
theorem dX6_year_8 : decode cX6_year 8 = .ok (.if_icmp .gt 14, 3) := by decide +kernel
theorem dX6_year_11 : decode cX6_year 11 = .ok (.iload_n 2, 1) := by decide +kernel
theorem dX6_year_12 : decode cX6_year 12 = .ok (.iconst 1, 1) := by decide +kernel
theorem dX6_year_13 : decode cX6_year 13 = .ok (.if_icmp .lt 9, 3) := by decide +kernel
theorem dX6_year_16 : decode cX6_year 16 = .ok (.iload_n 2, 1) := by decide +kernel
theorem dX6_year_17 : decode cX6_year 17 = .ok (.bipush 20, 2) := by decide +kernel
theorem dX6_year_19 : decode cX6_year 19 = .ok (.if_icmp .le 5, 3) := by decide +kernel
theorem dX6_year_22 : decode cX6_year 22 = .ok (.iconst (-1), 1) := by decide +kernel
theorem dX6_year_23 : decode cX6_year 23 = .ok (.ireturn, 1) := by decide +kernel
theorem dX6_year_24 : decode cX6_year 24 = .ok (.aload_n 0, 1) := by decide +kernel
theorem dX6_year_25 : decode cX6_year 25 = .ok (.getfield 29, 3) := by decide +kernel
theorem dX6_year_28 : decode cX6_year 28 = .ok (.getfield 94, 3) := by decide +kernel
theorem dX6_year_31 : decode cX6_year 31 = .ok (.istore_n 3, 1) := by decide +kernel
theorem dX6_year_32 : decode cX6_year 32 = .ok (.iconst 0, 1) := by decide +kernel
theorem dX6_year_33 : decode cX6_year 33 = .ok (.istore 4, 2) := by decide +kernel
theorem dX6_year_35 : decode cX6_year 35 = .ok (.iload 4, 2) := by decide +kernel
theorem dX6_year_37 : decode cX6_year 37 = .ok (.iload_n 2, 1) := by decide +kernel
theorem dX6_year_38 : decode cX6_year 38 = .ok (.if_icmp .ge 41, 3) := by decide +kernel
theorem dX6_year_41 : decode cX6_year 41 = .ok (.ldc2_w 194, 3) := by decide +kernel
theorem dX6_year_44 : decode cX6_year 44 = .ok (.iload_n 1, 1) := by decide +kernel
theorem dX6_year_45 : decode cX6_year 45 = .ok (.i2l, 1) := by decide +kernel
theorem dX6_year_46 : decode cX6_year 46 = .ok (.lmul, 1) := by decide +kernel
theorem dX6_year_47 : decode cX6_year 47 = .ok (.ldc2_w 196, 3) := by decide +kernel
theorem dX6_year_50 : decode cX6_year 50 = .ok (.iload 4, 2) := by decide +kernel
theorem dX6_year_52 : decode cX6_year 52 = .ok (.i2l, 1) := by decide +kernel
theorem dX6_year_53 : decode cX6_year 53 = .ok (.lmul, 1) := by decide +kernel
theorem dX6_year_54 : decode cX6_year 54 = .ok (.ladd, 1) := by decide +kernel
theorem dX6_year_55 : decode cX6_year 55 = .ok (.lconst 1, 1) := by decide +kernel
theorem dX6_year_56 : decode cX6_year 56 = .ok (.ladd, 1) := by decide +kernel
theorem dX6_year_57 : decode cX6_year 57 = .ok (.lstore 5, 2) := by decide +kernel
theorem dX6_year_59 : decode cX6_year 59 = .ok (.aload_n 0, 1) := by decide +kernel
theorem dX6_year_60 : decode cX6_year 60 = .ok (.lload 5, 2) := by decide +kernel
theorem dX6_year_62 : decode cX6_year 62 = .ok (.lload 5, 2) := by decide +kernel
theorem dX6_year_64 : decode cX6_year 64 = .ok (.lmul, 1) := by decide +kernel
theorem dX6_year_65 : decode cX6_year 65 = .ok (.ldc2_w 198, 3) := by decide +kernel
theorem dX6_year_68 : decode cX6_year 68 = .ok (.lrem, 1) := by decide +kernel
theorem dX6_year_69 : decode cX6_year 69 = .ok (.l2i, 1) := by decide +kernel
theorem dX6_year_70 : decode cX6_year 70 = .ok (.invokevirtual 200, 3) := by decide +kernel
theorem dX6_year_73 : decode cX6_year 73 = .ok (.iinc 4 1, 3) := by decide +kernel
theorem dX6_year_76 : decode cX6_year 76 = .ok (.goto (-41), 3) := by decide +kernel
theorem dX6_year_79 : decode cX6_year 79 = .ok (.aload_n 0, 1) := by decide +kernel
theorem dX6_year_80 : decode cX6_year 80 = .ok (.getfield 29, 3) := by decide +kernel
theorem dX6_year_83 : decode cX6_year 83 = .ok (.getfield 94, 3) := by decide +kernel
theorem dX6_year_86 : decode cX6_year 86 = .ok (.iload_n 3, 1) := by decide +kernel
theorem dX6_year_87 : decode cX6_year 87 = .ok (.isub, 1) := by decide +kernel
theorem dX6_year_88 : decode cX6_year 88 = .ok (.ireturn, 1) := by decide +kernel
theorem dX6_event_0 : decode cX6_event 0 = .ok (.aload_n 0, 1) := by decide +kernel
theorem dX6_event_1 : decode cX6_event 1 = .ok (.getfield 29, 3) := by decide +kernel
theorem dX6_event_4 : decode cX6_event 4 = .ok (.iload_n 1, 1) := by decide +kernel
theorem dX6_event_5 : decode cX6_event 5 = .ok (.invokevirtual 204, 3) := by decide +kernel
theorem dX6_event_8 : decode cX6_event 8 = .ok (.ifCond .eq 13, 3) := by decide +kernel
theorem dX6_event_11 : decode cX6_event 11 = .ok (.iload_n 2, 1) := by decide +kernel
theorem dX6_event_12 : decode cX6_event 12 = .ok (.ifCond .lt 9, 3) := by decide +kernel
theorem dX6_event_15 : decode cX6_event 15 = .ok (.iload_n 2, 1) := by decide +kernel
theorem dX6_event_16 : decode cX6_event 16 = .ok (.bipush 10, 2) := by decide +kernel
theorem dX6_event_18 : decode cX6_event 18 = .ok (.if_icmp .le 5, 3) := by decide +kernel
theorem dX6_event_21 : decode cX6_event 21 = .ok (.iconst (-1), 1) := by decide +kernel
theorem dX6_event_22 : decode cX6_event 22 = .ok (.ireturn, 1) := by decide +kernel
theorem dX6_event_23 : decode cX6_event 23 = .ok (.aload_n 0, 1) := by decide +kernel
theorem dX6_event_24 : decode cX6_event 24 = .ok (.getfield 29, 3) := by decide +kernel
theorem dX6_event_27 : decode cX6_event 27 = .ok (.iload_n 1, 1) := by decide +kernel
theorem dX6_event_28 : decode cX6_event 28 = .ok (.iload_n 2, 1) := by decide +kernel
theorem dX6_event_29 : decode cX6_event 29 = .ok (.invokevirtual 207, 3) := by decide +kernel
theorem dX6_event_32 : decode cX6_event 32 = .ok (.ireturn, 1) := by decide +kernel
theorem dX6_sum_0 : decode cX6_sum 0 = .ok (.iload_n 1, 1) := by decide +kernel
theorem dX6_sum_1 : decode cX6_sum 1 = .ok (.invokestatic 140, 3) := by decide +kernel
theorem dX6_sum_4 : decode cX6_sum 4 = .ok (.ifCond .eq 14, 3) := by decide +kernel
theorem dX6_sum_7 : decode cX6_sum 7 = .ok (.iload_n 2, 1) := by decide +kernel
theorem dX6_sum_8 : decode cX6_sum 8 = .ok (.ifCond .lt 10, 3) := by decide +kernel
theorem dX6_sum_11 : decode cX6_sum 11 = .ok (.iload_n 2, 1) := by decide +kernel
theorem dX6_sum_12 : decode cX6_sum 12 = .ok (.sipush 9999, 3) := by decide +kernel
theorem dX6_sum_15 : decode cX6_sum 15 = .ok (.if_icmp .le 5, 3) := by decide +kernel
theorem dX6_sum_18 : decode cX6_sum 18 = .ok (.iconst (-1), 1) := by decide +kernel
theorem dX6_sum_19 : decode cX6_sum 19 = .ok (.ireturn, 1) := by decide +kernel
theorem dX6_sum_20 : decode cX6_sum 20 = .ok (.iconst 0, 1) := by decide +kernel
theorem dX6_sum_21 : decode cX6_sum 21 = .ok (.aload_n 0, 1) := by decide +kernel
theorem dX6_sum_22 : decode cX6_sum 22 = .ok (.getfield 45, 3) := by decide +kernel
theorem dX6_sum_25 : decode cX6_sum 25 = .ok (.iload_n 1, 1) := by decide +kernel
theorem dX6_sum_26 : decode cX6_sum 26 = .ok (.iload_n 2, 1) := by decide +kernel
theorem dX6_sum_27 : decode cX6_sum 27 = .ok (.invokevirtual 210, 3) := by decide +kernel
theorem dX6_sum_30 : decode cX6_sum 30 = .ok (.invokestatic 213, 3) := by decide +kernel
theorem dX6_sum_33 : decode cX6_sum 33 = .ok (.ireturn, 1) := by decide +kernel
theorem dX6_need_0 : decode cX6_need 0 = .ok (.iload_n 1, 1) := by decide +kernel
theorem dX6_need_1 : decode cX6_need 1 = .ok (.invokestatic 140, 3) := by decide +kernel
theorem dX6_need_4 : decode cX6_need 4 = .ok (.ifCond .ne 5, 3) := by decide +kernel
theorem dX6_need_7 : decode cX6_need 7 = .ok (.iconst (-1), 1) := by decide +kernel
theorem dX6_need_8 : decode cX6_need 8 = .ok (.ireturn, 1) := by decide +kernel
theorem dX6_need_9 : decode cX6_need 9 = .ok (.aload_n 0, 1) := by decide +kernel
theorem dX6_need_10 : decode cX6_need 10 = .ok (.getfield 36, 3) := by decide +kernel
theorem dX6_need_13 : decode cX6_need 13 = .ok (.iload_n 1, 1) := by decide +kernel
theorem dX6_need_14 : decode cX6_need 14 = .ok (.aload_n 0, 1) := by decide +kernel
theorem dX6_need_15 : decode cX6_need 15 = .ok (.getfield 98, 3) := by decide +kernel
theorem dX6_need_18 : decode cX6_need 18 = .ok (.invokevirtual 218, 3) := by decide +kernel
theorem dX6_need_21 : decode cX6_need 21 = .ok (.ifCond .eq 7, 3) := by decide +kernel
theorem dX6_need_24 : decode cX6_need 24 = .ok (.iconst 2, 1) := by decide +kernel
theorem dX6_need_25 : decode cX6_need 25 = .ok (.goto 4, 3) := by decide +kernel
theorem dX6_need_28 : decode cX6_need 28 = .ok (.iconst 1, 1) := by decide +kernel
theorem dX6_need_29 : decode cX6_need 29 = .ok (.istore_n 2, 1) := by decide +kernel
theorem dX6_need_30 : decode cX6_need 30 = .ok (.aload_n 0, 1) := by decide +kernel
theorem dX6_need_31 : decode cX6_need 31 = .ok (.getfield 19, 3) := by decide +kernel
theorem dX6_need_34 : decode cX6_need 34 = .ok (.iconst 1, 1) := by decide +kernel
theorem dX6_need_35 : decode cX6_need 35 = .ok (.invokevirtual 108, 3) := by decide +kernel
theorem dX6_need_38 : decode cX6_need 38 = .ok (.aload_n 0, 1) := by decide +kernel
theorem dX6_need_39 : decode cX6_need 39 = .ok (.getfield 45, 3) := by decide +kernel
theorem dX6_need_42 : decode cX6_need 42 = .ok (.iload_n 1, 1) := by decide +kernel
theorem dX6_need_43 : decode cX6_need 43 = .ok (.aload_n 0, 1) := by decide +kernel
theorem dX6_need_44 : decode cX6_need 44 = .ok (.getfield 98, 3) := by decide +kernel
theorem dX6_need_47 : decode cX6_need 47 = .ok (.invokevirtual 210, 3) := by decide +kernel
theorem dX6_need_50 : decode cX6_need 50 = .ok (.isub, 1) := by decide +kernel
theorem dX6_need_51 : decode cX6_need 51 = .ok (.istore_n 3, 1) := by decide +kernel
theorem dX6_need_52 : decode cX6_need 52 = .ok (.iconst 1, 1) := by decide +kernel
theorem dX6_need_53 : decode cX6_need 53 = .ok (.istore 4, 2) := by decide +kernel
theorem dX6_need_55 : decode cX6_need 55 = .ok (.iload 4, 2) := by decide +kernel
theorem dX6_need_57 : decode cX6_need 57 = .ok (.bipush 99, 2) := by decide +kernel
theorem dX6_need_59 : decode cX6_need 59 = .ok (.if_icmp .gt 20, 3) := by decide +kernel
theorem dX6_need_62 : decode cX6_need 62 = .ok (.iload 4, 2) := by decide +kernel
theorem dX6_need_64 : decode cX6_need 64 = .ok (.iload_n 2, 1) := by decide +kernel
theorem dX6_need_65 : decode cX6_need 65 = .ok (.imul, 1) := by decide +kernel
theorem dX6_need_66 : decode cX6_need 66 = .ok (.iload_n 3, 1) := by decide +kernel
theorem dX6_need_67 : decode cX6_need 67 = .ok (.if_icmp .lt 6, 3) := by decide +kernel
theorem dX6_need_70 : decode cX6_need 70 = .ok (.iload 4, 2) := by decide +kernel
theorem dX6_need_72 : decode cX6_need 72 = .ok (.ireturn, 1) := by decide +kernel
theorem dX6_need_73 : decode cX6_need 73 = .ok (.iinc 4 1, 3) := by decide +kernel
theorem dX6_need_76 : decode cX6_need 76 = .ok (.goto (-21), 3) := by decide +kernel
theorem dX6_need_79 : decode cX6_need 79 = .ok (.bipush (-4), 2) := by decide +kernel
theorem dX6_need_81 : decode cX6_need 81 = .ok (.ireturn, 1) := by decide +kernel
theorem dX6_would_0 : decode cX6_would 0 = .ok (.aload_n 0, 1) := by decide +kernel
theorem dX6_would_1 : decode cX6_would 1 = .ok (.iload_n 1, 1) := by decide +kernel
theorem dX6_would_2 : decode cX6_would 2 = .ok (.iload_n 2, 1) := by decide +kernel
theorem dX6_would_3 : decode cX6_would 3 = .ok (.iload_n 3, 1) := by decide +kernel
theorem dX6_would_4 : decode cX6_would 4 = .ok (.invokevirtual 129, 3) := by decide +kernel
theorem dX6_would_7 : decode cX6_would 7 = .ok (.ifCond .ne 5, 3) := by decide +kernel
theorem dX6_would_10 : decode cX6_would 10 = .ok (.iconst (-1), 1) := by decide +kernel
theorem dX6_would_11 : decode cX6_would 11 = .ok (.ireturn, 1) := by decide +kernel
theorem dX6_would_12 : decode cX6_would 12 = .ok (.aload_n 0, 1) := by decide +kernel
theorem dX6_would_13 : decode cX6_would 13 = .ok (.iload_n 1, 1) := by decide +kernel
theorem dX6_would_14 : decode cX6_would 14 = .ok (.invokevirtual 221, 3) := by decide +kernel
theorem dX6_would_17 : decode cX6_would 17 = .ok (.istore 4, 2) := by decide +kernel
theorem dX6_would_19 : decode cX6_would 19 = .ok (.aload_n 0, 1) := by decide +kernel
theorem dX6_would_20 : decode cX6_would 20 = .ok (.getfield 29, 3) := by decide +kernel
theorem dX6_would_23 : decode cX6_would 23 = .ok (.iload_n 1, 1) := by decide +kernel
theorem dX6_would_24 : decode cX6_would 24 = .ok (.aload_n 0, 1) := by decide +kernel
theorem dX6_would_25 : decode cX6_would 25 = .ok (.getfield 98, 3) := by decide +kernel
theorem dX6_would_28 : decode cX6_would 28 = .ok (.iload_n 2, 1) := by decide +kernel
theorem dX6_would_29 : decode cX6_would 29 = .ok (.iload_n 3, 1) := by decide +kernel
theorem dX6_would_30 : decode cX6_would 30 = .ok (.aload_n 0, 1) := by decide +kernel
theorem dX6_would_31 : decode cX6_would 31 = .ok (.getfield 19, 3) := by decide +kernel
theorem dX6_would_34 : decode cX6_would 34 = .ok (.iload_n 3, 1) := by decide +kernel
theorem dX6_would_35 : decode cX6_would 35 = .ok (.invokevirtual 123, 3) := by decide +kernel
theorem dX6_would_38 : decode cX6_would 38 = .ok (.iconst 0, 1) := by decide +kernel
theorem dX6_would_39 : decode cX6_would 39 = .ok (.invokevirtual 133, 3) := by decide +kernel
theorem dX6_would_42 : decode cX6_would 42 = .ok (.aload_n 0, 1) := by decide +kernel
theorem dX6_would_43 : decode cX6_would 43 = .ok (.getfield 45, 3) := by decide +kernel
theorem dX6_would_46 : decode cX6_would 46 = .ok (.invokevirtual 224, 3) := by decide +kernel
theorem dX6_would_49 : decode cX6_would 49 = .ok (.aload_n 0, 1) := by decide +kernel
theorem dX6_would_50 : decode cX6_would 50 = .ok (.iload_n 1, 1) := by decide +kernel
theorem dX6_would_51 : decode cX6_would 51 = .ok (.invokevirtual 221, 3) := by decide +kernel
theorem dX6_would_54 : decode cX6_would 54 = .ok (.istore 5, 2) := by decide +kernel
theorem dX6_would_56 : decode cX6_would 56 = .ok (.aload_n 0, 1) := by decide +kernel
theorem dX6_would_57 : decode cX6_would 57 = .ok (.getfield 29, 3) := by decide +kernel
theorem dX6_would_60 : decode cX6_would 60 = .ok (.invokevirtual 183, 3) := by decide +kernel
theorem dX6_would_63 : decode cX6_would 63 = .ok (.aload_n 0, 1) := by decide +kernel
theorem dX6_would_64 : decode cX6_would 64 = .ok (.getfield 45, 3) := by decide +kernel
theorem dX6_would_67 : decode cX6_would 67 = .ok (.invokevirtual 101, 3) := by decide +kernel
theorem dX6_would_70 : decode cX6_would 70 = .ok (.iload 5, 2) := by decide +kernel
theorem dX6_would_72 : decode cX6_would 72 = .ok (.iload 4, 2) := by decide +kernel
theorem dX6_would_74 : decode cX6_would 74 = .ok (.isub, 1) := by decide +kernel
theorem dX6_would_75 : decode cX6_would 75 = .ok (.ireturn, 1) := by decide +kernel
theorem dX6_banned_0 : decode cX6_banned 0 = .ok (.iload_n 1, 1) := by decide +kernel
theorem dX6_banned_1 : decode cX6_banned 1 = .ok (.invokestatic 140, 3) := by decide +kernel
theorem dX6_banned_4 : decode cX6_banned 4 = .ok (.ifCond .eq 13, 3) := by decide +kernel
theorem dX6_banned_7 : decode cX6_banned 7 = .ok (.iload_n 2, 1) := by decide +kernel
theorem dX6_banned_8 : decode cX6_banned 8 = .ok (.ifCond .lt 9, 3) := by decide +kernel
theorem dX6_banned_11 : decode cX6_banned 11 = .ok (.iload_n 2, 1) := by decide +kernel
theorem dX6_banned_12 : decode cX6_banned 12 = .ok (.ldc 227, 2) := by decide +kernel
theorem dX6_banned_14 : decode cX6_banned 14 = .ok (.if_icmp .le 5, 3) := by decide +kernel
theorem dX6_banned_17 : decode cX6_banned 17 = .ok (.iconst (-1), 1) := by decide +kernel
theorem dX6_banned_18 : decode cX6_banned 18 = .ok (.ireturn, 1) := by decide +kernel
theorem dX6_banned_19 : decode cX6_banned 19 = .ok (.aload_n 0, 1) := by decide +kernel
theorem dX6_banned_20 : decode cX6_banned 20 = .ok (.getfield 36, 3) := by decide +kernel
theorem dX6_banned_23 : decode cX6_banned 23 = .ok (.iload_n 1, 1) := by decide +kernel
theorem dX6_banned_24 : decode cX6_banned 24 = .ok (.iload_n 2, 1) := by decide +kernel
theorem dX6_banned_25 : decode cX6_banned 25 = .ok (.invokevirtual 218, 3) := by decide +kernel
theorem dX6_banned_28 : decode cX6_banned 28 = .ok (.ifCond .eq 7, 3) := by decide +kernel
theorem dX6_banned_31 : decode cX6_banned 31 = .ok (.iconst 1, 1) := by decide +kernel
theorem dX6_banned_32 : decode cX6_banned 32 = .ok (.goto 4, 3) := by decide +kernel
theorem dX6_banned_35 : decode cX6_banned 35 = .ok (.iconst 0, 1) := by decide +kernel
theorem dX6_banned_36 : decode cX6_banned 36 = .ok (.ireturn, 1) := by decide +kernel
theorem dX6_days_0 : decode cX6_days 0 = .ok (.iload_n 1, 1) := by decide +kernel
theorem dX6_days_1 : decode cX6_days 1 = .ok (.invokestatic 140, 3) := by decide +kernel
theorem dX6_days_4 : decode cX6_days 4 = .ok (.ifCond .eq 18, 3) := by decide +kernel
theorem dX6_days_7 : decode cX6_days 7 = .ok (.iload_n 2, 1) := by decide +kernel
theorem dX6_days_8 : decode cX6_days 8 = .ok (.ifCond .lt 14, 3) := by decide +kernel
theorem dX6_days_11 : decode cX6_days 11 = .ok (.iload_n 3, 1) := by decide +kernel
theorem dX6_days_12 : decode cX6_days 12 = .ok (.ldc 227, 2) := by decide +kernel
theorem dX6_days_14 : decode cX6_days 14 = .ok (.if_icmp .gt 8, 3) := by decide +kernel
theorem dX6_days_17 : decode cX6_days 17 = .ok (.iload_n 2, 1) := by decide +kernel
theorem dX6_days_18 : decode cX6_days 18 = .ok (.iload_n 3, 1) := by decide +kernel
theorem dX6_days_19 : decode cX6_days 19 = .ok (.if_icmp .le 5, 3) := by decide +kernel
theorem dX6_days_22 : decode cX6_days 22 = .ok (.iconst (-1), 1) := by decide +kernel
theorem dX6_days_23 : decode cX6_days 23 = .ok (.ireturn, 1) := by decide +kernel
theorem dX6_days_24 : decode cX6_days 24 = .ok (.aload_n 0, 1) := by decide +kernel
theorem dX6_days_25 : decode cX6_days 25 = .ok (.getfield 36, 3) := by decide +kernel
theorem dX6_days_28 : decode cX6_days 28 = .ok (.iload_n 1, 1) := by decide +kernel
theorem dX6_days_29 : decode cX6_days 29 = .ok (.iload_n 2, 1) := by decide +kernel
theorem dX6_days_30 : decode cX6_days 30 = .ok (.iload_n 3, 1) := by decide +kernel
theorem dX6_days_31 : decode cX6_days 31 = .ok (.invokevirtual 228, 3) := by decide +kernel
theorem dX6_days_34 : decode cX6_days 34 = .ok (.ireturn, 1) := by decide +kernel
theorem dX6_free_0 : decode cX6_free 0 = .ok (.iload_n 1, 1) := by decide +kernel
theorem dX6_free_1 : decode cX6_free 1 = .ok (.invokestatic 140, 3) := by decide +kernel
theorem dX6_free_4 : decode cX6_free 4 = .ok (.ifCond .eq 18, 3) := by decide +kernel
theorem dX6_free_7 : decode cX6_free 7 = .ok (.aload_n 0, 1) := by decide +kernel
theorem dX6_free_8 : decode cX6_free 8 = .ok (.getfield 36, 3) := by decide +kernel
theorem dX6_free_11 : decode cX6_free 11 = .ok (.iload_n 1, 1) := by decide +kernel
theorem dX6_free_12 : decode cX6_free 12 = .ok (.aload_n 0, 1) := by decide +kernel
theorem dX6_free_13 : decode cX6_free 13 = .ok (.getfield 98, 3) := by decide +kernel
theorem dX6_free_16 : decode cX6_free 16 = .ok (.invokevirtual 231, 3) := by decide +kernel
theorem dX6_free_19 : decode cX6_free 19 = .ok (.goto 4, 3) := by decide +kernel
theorem dX6_free_22 : decode cX6_free 22 = .ok (.iconst (-1), 1) := by decide +kernel
theorem dX6_free_23 : decode cX6_free 23 = .ok (.ireturn, 1) := by decide +kernel
theorem dX6_ban_0 : decode cX6_ban 0 = .ok (.iload_n 1, 1) := by decide +kernel
theorem dX6_ban_1 : decode cX6_ban 1 = .ok (.invokestatic 140, 3) := by decide +kernel
theorem dX6_ban_4 : decode cX6_ban 4 = .ok (.ifCond .eq 17, 3) := by decide +kernel
theorem dX6_ban_7 : decode cX6_ban 7 = .ok (.iload_n 2, 1) := by decide +kernel
theorem dX6_ban_8 : decode cX6_ban 8 = .ok (.iconst (-1), 1) := by decide +kernel
theorem dX6_ban_9 : decode cX6_ban 9 = .ok (.if_icmp .lt 12, 3) := by decide +kernel
theorem dX6_ban_12 : decode cX6_ban 12 = .ok (.iload_n 3, 1) := by decide +kernel
theorem dX6_ban_13 : decode cX6_ban 13 = .ok (.ifCond .lt 8, 3) := by decide +kernel
theorem dX6_ban_16 : decode cX6_ban 16 = .ok (.iload_n 3, 1) := by decide +kernel
theorem dX6_ban_17 : decode cX6_ban 17 = .ok (.iconst 4, 1) := by decide +kernel
theorem dX6_ban_18 : decode cX6_ban 18 = .ok (.if_icmp .le 5, 3) := by decide +kernel
theorem dX6_ban_21 : decode cX6_ban 21 = .ok (.iconst (-1), 1) := by decide +kernel
theorem dX6_ban_22 : decode cX6_ban 22 = .ok (.ireturn, 1) := by decide +kernel
theorem dX6_ban_23 : decode cX6_ban 23 = .ok (.iload_n 2, 1) := by decide +kernel
theorem dX6_ban_24 : decode cX6_ban 24 = .ok (.iconst (-1), 1) := by decide +kernel
theorem dX6_ban_25 : decode cX6_ban 25 = .ok (.if_icmp .ne 12, 3) := by decide +kernel
theorem dX6_ban_28 : decode cX6_ban 28 = .ok (.aload_n 0, 1) := by decide +kernel
theorem dX6_ban_29 : decode cX6_ban 29 = .ok (.getfield 36, 3) := by decide +kernel
theorem dX6_ban_32 : decode cX6_ban 32 = .ok (.iload_n 1, 1) := by decide +kernel
theorem dX6_ban_33 : decode cX6_ban 33 = .ok (.invokevirtual 234, 3) := by decide +kernel
theorem dX6_ban_36 : decode cX6_ban 36 = .ok (.ireturn, 1) := by decide +kernel
theorem dX6_ban_37 : decode cX6_ban 37 = .ok (.aload_n 0, 1) := by decide +kernel
theorem dX6_ban_38 : decode cX6_ban 38 = .ok (.getfield 36, 3) := by decide +kernel
theorem dX6_ban_41 : decode cX6_ban 41 = .ok (.iload_n 1, 1) := by decide +kernel
theorem dX6_ban_42 : decode cX6_ban 42 = .ok (.iload_n 2, 1) := by decide +kernel
theorem dX6_ban_43 : decode cX6_ban 43 = .ok (.invokevirtual 237, 3) := by decide +kernel
theorem dX6_ban_46 : decode cX6_ban 46 = .ok (.istore 4, 2) := by decide +kernel
theorem dX6_ban_48 : decode cX6_ban 48 = .ok (.iload 4, 2) := by decide +kernel
theorem dX6_ban_50 : decode cX6_ban 50 = .ok (.ifCond .ge 8, 3) := by decide +kernel
theorem dX6_ban_53 : decode cX6_ban 53 = .ok (.bipush (-4), 2) := by decide +kernel
theorem dX6_ban_55 : decode cX6_ban 55 = .ok (.goto 13, 3) := by decide +kernel
theorem dX6_ban_58 : decode cX6_ban 58 = .ok (.aload_n 0, 1) := by decide +kernel
theorem dX6_ban_59 : decode cX6_ban 59 = .ok (.getfield 36, 3) := by decide +kernel
theorem dX6_ban_62 : decode cX6_ban 62 = .ok (.iload 4, 2) := by decide +kernel
theorem dX6_ban_64 : decode cX6_ban 64 = .ok (.iload_n 3, 1) := by decide +kernel
theorem dX6_ban_65 : decode cX6_ban 65 = .ok (.invokevirtual 240, 3) := by decide +kernel
theorem dX6_ban_68 : decode cX6_ban 68 = .ok (.ireturn, 1) := by decide +kernel
theorem dX6_seen_0 : decode cX6_seen 0 = .ok (.iload_n 1, 1) := by decide +kernel
theorem dX6_seen_1 : decode cX6_seen 1 = .ok (.ifCond .lt 24, 3) := by decide +kernel
theorem dX6_seen_4 : decode cX6_seen 4 = .ok (.iload_n 1, 1) := by decide +kernel
theorem dX6_seen_5 : decode cX6_seen 5 = .ok (.iconst 3, 1) := by decide +kernel
theorem dX6_seen_6 : decode cX6_seen 6 = .ok (.if_icmp .gt 19, 3) := by decide +kernel
theorem dX6_seen_9 : decode cX6_seen 9 = .ok (.iload_n 2, 1) := by decide +kernel
theorem dX6_seen_10 : decode cX6_seen 10 = .ok (.invokestatic 140, 3) := by decide +kernel
theorem dX6_seen_13 : decode cX6_seen 13 = .ok (.ifCond .eq 12, 3) := by decide +kernel
theorem dX6_seen_16 : decode cX6_seen 16 = .ok (.iload_n 3, 1) := by decide +kernel
theorem dX6_seen_17 : decode cX6_seen 17 = .ok (.ifCond .lt 8, 3) := by decide +kernel
theorem dX6_seen_20 : decode cX6_seen 20 = .ok (.iload_n 3, 1) := by decide +kernel
theorem dX6_seen_21 : decode cX6_seen 21 = .ok (.iconst 2, 1) := by decide +kernel
theorem dX6_seen_22 : decode cX6_seen 22 = .ok (.if_icmp .le 5, 3) := by decide +kernel
theorem dX6_seen_25 : decode cX6_seen 25 = .ok (.iconst (-1), 1) := by decide +kernel
theorem dX6_seen_26 : decode cX6_seen 26 = .ok (.ireturn, 1) := by decide +kernel
theorem dX6_seen_27 : decode cX6_seen 27 = .ok (.iconst 0, 1) := by decide +kernel
theorem dX6_seen_28 : decode cX6_seen 28 = .ok (.istore 4, 2) := by decide +kernel
theorem dX6_seen_30 : decode cX6_seen 30 = .ok (.iconst 0, 1) := by decide +kernel
theorem dX6_seen_31 : decode cX6_seen 31 = .ok (.istore 5, 2) := by decide +kernel
theorem dX6_seen_33 : decode cX6_seen 33 = .ok (.bipush (-4), 2) := by decide +kernel
theorem dX6_seen_35 : decode cX6_seen 35 = .ok (.istore 6, 2) := by decide +kernel
theorem dX6_seen_37 : decode cX6_seen 37 = .ok (.iconst 0, 1) := by decide +kernel
theorem dX6_seen_38 : decode cX6_seen 38 = .ok (.istore 7, 2) := by decide +kernel
theorem dX6_seen_40 : decode cX6_seen 40 = .ok (.iload 7, 2) := by decide +kernel
theorem dX6_seen_42 : decode cX6_seen 42 = .ok (.aload_n 0, 1) := by decide +kernel
theorem dX6_seen_43 : decode cX6_seen 43 = .ok (.getfield 29, 3) := by decide +kernel
theorem dX6_seen_46 : decode cX6_seen 46 = .ok (.getfield 94, 3) := by decide +kernel
theorem dX6_seen_49 : decode cX6_seen 49 = .ok (.if_icmp .ge 67, 3) := by decide +kernel
theorem dX6_seen_52 : decode cX6_seen 52 = .ok (.aload_n 0, 1) := by decide +kernel
theorem dX6_seen_53 : decode cX6_seen 53 = .ok (.getfield 29, 3) := by decide +kernel
theorem dX6_seen_56 : decode cX6_seen 56 = .ok (.iload 7, 2) := by decide +kernel
theorem dX6_seen_58 : decode cX6_seen 58 = .ok (.invokevirtual 153, 3) := by decide +kernel
theorem dX6_seen_61 : decode cX6_seen 61 = .ok (.ifCond .eq 49, 3) := by decide +kernel
theorem dX6_seen_64 : decode cX6_seen 64 = .ok (.aload_n 0, 1) := by decide +kernel
theorem dX6_seen_65 : decode cX6_seen 65 = .ok (.getfield 29, 3) := by decide +kernel
theorem dX6_seen_68 : decode cX6_seen 68 = .ok (.getfield 241, 3) := by decide +kernel
theorem dX6_seen_71 : decode cX6_seen 71 = .ok (.iload 7, 2) := by decide +kernel
theorem dX6_seen_73 : decode cX6_seen 73 = .ok (.iaload, 1) := by decide +kernel
theorem dX6_seen_74 : decode cX6_seen 74 = .ok (.iload_n 2, 1) := by decide +kernel
theorem dX6_seen_75 : decode cX6_seen 75 = .ok (.if_icmp .ne 35, 3) := by decide +kernel
theorem dX6_seen_78 : decode cX6_seen 78 = .ok (.aload_n 0, 1) := by decide +kernel
theorem dX6_seen_79 : decode cX6_seen 79 = .ok (.iload_n 1, 1) := by decide +kernel
theorem dX6_seen_80 : decode cX6_seen 80 = .ok (.iload 7, 2) := by decide +kernel
theorem dX6_seen_82 : decode cX6_seen 82 = .ok (.invokevirtual 244, 3) := by decide +kernel
theorem dX6_seen_85 : decode cX6_seen 85 = .ok (.ifCond .eq 25, 3) := by decide +kernel
theorem dX6_seen_88 : decode cX6_seen 88 = .ok (.iinc 4 1, 3) := by decide +kernel
theorem dX6_seen_91 : decode cX6_seen 91 = .ok (.iload 5, 2) := by decide +kernel
theorem dX6_seen_93 : decode cX6_seen 93 = .ok (.aload_n 0, 1) := by decide +kernel
theorem dX6_seen_94 : decode cX6_seen 94 = .ok (.getfield 29, 3) := by decide +kernel
theorem dX6_seen_97 : decode cX6_seen 97 = .ok (.getfield 164, 3) := by decide +kernel
theorem dX6_seen_100 : decode cX6_seen 100 = .ok (.iload 7, 2) := by decide +kernel
theorem dX6_seen_102 : decode cX6_seen 102 = .ok (.iaload, 1) := by decide +kernel
theorem dX6_seen_103 : decode cX6_seen 103 = .ok (.iadd, 1) := by decide +kernel
theorem dX6_seen_104 : decode cX6_seen 104 = .ok (.istore 5, 2) := by decide +kernel
theorem dX6_seen_106 : decode cX6_seen 106 = .ok (.iload 7, 2) := by decide +kernel
theorem dX6_seen_108 : decode cX6_seen 108 = .ok (.istore 6, 2) := by decide +kernel
theorem dX6_seen_110 : decode cX6_seen 110 = .ok (.iinc 7 1, 3) := by decide +kernel
theorem dX6_seen_113 : decode cX6_seen 113 = .ok (.goto (-73), 3) := by decide +kernel
theorem dX6_seen_116 : decode cX6_seen 116 = .ok (.iload_n 3, 1) := by decide +kernel
theorem dX6_seen_117 : decode cX6_seen 117 = .ok (.ifCond .ne 6, 3) := by decide +kernel
theorem dX6_seen_120 : decode cX6_seen 120 = .ok (.iload 4, 2) := by decide +kernel
theorem dX6_seen_122 : decode cX6_seen 122 = .ok (.ireturn, 1) := by decide +kernel
theorem dX6_seen_123 : decode cX6_seen 123 = .ok (.iload_n 3, 1) := by decide +kernel
theorem dX6_seen_124 : decode cX6_seen 124 = .ok (.iconst 1, 1) := by decide +kernel
theorem dX6_seen_125 : decode cX6_seen 125 = .ok (.if_icmp .ne 8, 3) := by decide +kernel
theorem dX6_seen_128 : decode cX6_seen 128 = .ok (.iload 5, 2) := by decide +kernel
theorem dX6_seen_130 : decode cX6_seen 130 = .ok (.goto 5, 3) := by decide +kernel
theorem dX6_seen_133 : decode cX6_seen 133 = .ok (.iload 6, 2) := by decide +kernel
theorem dX6_seen_135 : decode cX6_seen 135 = .ok (.ireturn, 1) := by decide +kernel
theorem dX6_count_0 : decode cX6_count 0 = .ok (.iload_n 1, 1) := by decide +kernel
theorem dX6_count_1 : decode cX6_count 1 = .ok (.tableswitch 162 0 11 #[63, 71, 79, 84, 92, 100, 109, 118, 127, 136, 145, 154], 63) := by decide +kernel
theorem dX6_count_64 : decode cX6_count 64 = .ok (.aload_n 0, 1) := by decide +kernel
theorem dX6_count_65 : decode cX6_count 65 = .ok (.getfield 19, 3) := by decide +kernel
theorem dX6_count_68 : decode cX6_count 68 = .ok (.getfield 88, 3) := by decide +kernel
theorem dX6_count_71 : decode cX6_count 71 = .ok (.ireturn, 1) := by decide +kernel
theorem dX6_count_72 : decode cX6_count 72 = .ok (.aload_n 0, 1) := by decide +kernel
theorem dX6_count_73 : decode cX6_count 73 = .ok (.getfield 29, 3) := by decide +kernel
theorem dX6_count_76 : decode cX6_count 76 = .ok (.getfield 94, 3) := by decide +kernel
theorem dX6_count_79 : decode cX6_count 79 = .ok (.ireturn, 1) := by decide +kernel
theorem dX6_count_80 : decode cX6_count 80 = .ok (.aload_n 0, 1) := by decide +kernel
theorem dX6_count_81 : decode cX6_count 81 = .ok (.getfield 98, 3) := by decide +kernel
theorem dX6_count_84 : decode cX6_count 84 = .ok (.ireturn, 1) := by decide +kernel
theorem dX6_count_85 : decode cX6_count 85 = .ok (.aload_n 0, 1) := by decide +kernel
theorem dX6_count_86 : decode cX6_count 86 = .ok (.getfield 52, 3) := by decide +kernel
theorem dX6_count_89 : decode cX6_count 89 = .ok (.getfield 97, 3) := by decide +kernel
theorem dX6_count_92 : decode cX6_count 92 = .ok (.ireturn, 1) := by decide +kernel
theorem dX6_count_93 : decode cX6_count 93 = .ok (.aload_n 0, 1) := by decide +kernel
theorem dX6_count_94 : decode cX6_count 94 = .ok (.getfield 10, 3) := by decide +kernel
theorem dX6_count_97 : decode cX6_count 97 = .ok (.getfield 79, 3) := by decide +kernel
theorem dX6_count_100 : decode cX6_count 100 = .ok (.ireturn, 1) := by decide +kernel
theorem dX6_count_101 : decode cX6_count 101 = .ok (.aload_n 0, 1) := by decide +kernel
theorem dX6_count_102 : decode cX6_count 102 = .ok (.getfield 19, 3) := by decide +kernel
theorem dX6_count_105 : decode cX6_count 105 = .ok (.iconst 0, 1) := by decide +kernel
theorem dX6_count_106 : decode cX6_count 106 = .ok (.invokevirtual 108, 3) := by decide +kernel
theorem dX6_count_109 : decode cX6_count 109 = .ok (.ireturn, 1) := by decide +kernel
theorem dX6_count_110 : decode cX6_count 110 = .ok (.aload_n 0, 1) := by decide +kernel
theorem dX6_count_111 : decode cX6_count 111 = .ok (.getfield 19, 3) := by decide +kernel
theorem dX6_count_114 : decode cX6_count 114 = .ok (.iconst 1, 1) := by decide +kernel
end
section
theorem dX6_count_115 : decode cX6_count 115 = .ok (.invokevirtual 108, 3) := by decide +kernel
theorem dX6_count_118 : decode cX6_count 118 = .ok (.ireturn, 1) := by decide +kernel
theorem dX6_count_119 : decode cX6_count 119 = .ok (.aload_n 0, 1) := by decide +kernel
theorem dX6_count_120 : decode cX6_count 120 = .ok (.getfield 19, 3) := by decide +kernel
theorem dX6_count_123 : decode cX6_count 123 = .ok (.iconst 2, 1) := by decide +kernel
theorem dX6_count_124 : decode cX6_count 124 = .ok (.invokevirtual 108, 3) := by decide +kernel
theorem dX6_count_127 : decode cX6_count 127 = .ok (.ireturn, 1) := by decide +kernel
theorem dX6_count_128 : decode cX6_count 128 = .ok (.aload_n 0, 1) := by decide +kernel
theorem dX6_count_129 : decode cX6_count 129 = .ok (.getfield 19, 3) := by decide +kernel
theorem dX6_count_132 : decode cX6_count 132 = .ok (.iconst 3, 1) := by decide +kernel
theorem dX6_count_133 : decode cX6_count 133 = .ok (.invokevirtual 108, 3) := by decide +kernel
theorem dX6_count_136 : decode cX6_count 136 = .ok (.ireturn, 1) := by decide +kernel
theorem dX6_count_137 : decode cX6_count 137 = .ok (.aload_n 0, 1) := by decide +kernel
theorem dX6_count_138 : decode cX6_count 138 = .ok (.getfield 19, 3) := by decide +kernel
theorem dX6_count_141 : decode cX6_count 141 = .ok (.iconst 4, 1) := by decide +kernel
theorem dX6_count_142 : decode cX6_count 142 = .ok (.invokevirtual 108, 3) := by decide +kernel
theorem dX6_count_145 : decode cX6_count 145 = .ok (.ireturn, 1) := by decide +kernel
theorem dX6_count_146 : decode cX6_count 146 = .ok (.aload_n 0, 1) := by decide +kernel
theorem dX6_count_147 : decode cX6_count 147 = .ok (.getfield 19, 3) := by decide +kernel
theorem dX6_count_150 : decode cX6_count 150 = .ok (.iconst 5, 1) := by decide +kernel
theorem dX6_count_151 : decode cX6_count 151 = .ok (.invokevirtual 108, 3) := by decide +kernel
theorem dX6_count_154 : decode cX6_count 154 = .ok (.ireturn, 1) := by decide +kernel
theorem dX6_count_155 : decode cX6_count 155 = .ok (.aload_n 0, 1) := by decide +kernel
theorem dX6_count_156 : decode cX6_count 156 = .ok (.getfield 36, 3) := by decide +kernel
theorem dX6_count_159 : decode cX6_count 159 = .ok (.getfield 247, 3) := by decide +kernel
theorem dX6_count_162 : decode cX6_count 162 = .ok (.ireturn, 1) := by decide +kernel
theorem dX6_count_163 : decode cX6_count 163 = .ok (.iconst (-1), 1) := by decide +kernel
theorem dX6_count_164 : decode cX6_count 164 = .ok (.ireturn, 1) := by decide +kernel
theorem dX6_isDriver_0 : decode cX6_isDriver 0 = .ok (.iload_n 0, 1) := by decide +kernel
theorem dX6_isDriver_1 : decode cX6_isDriver 1 = .ok (.ifCond .lt 12, 3) := by decide +kernel
theorem dX6_isDriver_4 : decode cX6_isDriver 4 = .ok (.iload_n 0, 1) := by decide +kernel
theorem dX6_isDriver_5 : decode cX6_isDriver 5 = .ok (.iconst 4, 1) := by decide +kernel
theorem dX6_isDriver_6 : decode cX6_isDriver 6 = .ok (.if_icmp .ge 7, 3) := by decide +kernel
theorem dX6_isDriver_9 : decode cX6_isDriver 9 = .ok (.iconst 1, 1) := by decide +kernel
theorem dX6_isDriver_10 : decode cX6_isDriver 10 = .ok (.goto 4, 3) := by decide +kernel
theorem dX6_isDriver_13 : decode cX6_isDriver 13 = .ok (.iconst 0, 1) := by decide +kernel
theorem dX6_isDriver_14 : decode cX6_isDriver 14 = .ok (.ireturn, 1) := by decide +kernel
theorem dX6_canBeOffence_0 : decode cX6_canBeOffence 0 = .ok (.iload_n 1, 1) := by decide +kernel
theorem dX6_canBeOffence_1 : decode cX6_canBeOffence 1 = .ok (.invokestatic 140, 3) := by decide +kernel
theorem dX6_canBeOffence_4 : decode cX6_canBeOffence 4 = .ok (.ifCond .eq 30, 3) := by decide +kernel
theorem dX6_canBeOffence_7 : decode cX6_canBeOffence 7 = .ok (.iload_n 2, 1) := by decide +kernel
theorem dX6_canBeOffence_8 : decode cX6_canBeOffence 8 = .ok (.ifCond .lt 26, 3) := by decide +kernel
theorem dX6_canBeOffence_11 : decode cX6_canBeOffence 11 = .ok (.iload_n 2, 1) := by decide +kernel
theorem dX6_canBeOffence_12 : decode cX6_canBeOffence 12 = .ok (.aload_n 0, 1) := by decide +kernel
theorem dX6_canBeOffence_13 : decode cX6_canBeOffence 13 = .ok (.getfield 98, 3) := by decide +kernel
theorem dX6_canBeOffence_16 : decode cX6_canBeOffence 16 = .ok (.if_icmp .gt 18, 3) := by decide +kernel
theorem dX6_canBeOffence_19 : decode cX6_canBeOffence 19 = .ok (.aload_n 0, 1) := by decide +kernel
theorem dX6_canBeOffence_20 : decode cX6_canBeOffence 20 = .ok (.getfield 19, 3) := by decide +kernel
theorem dX6_canBeOffence_23 : decode cX6_canBeOffence 23 = .ok (.iload_n 3, 1) := by decide +kernel
theorem dX6_canBeOffence_24 : decode cX6_canBeOffence 24 = .ok (.invokevirtual 120, 3) := by decide +kernel
theorem dX6_canBeOffence_27 : decode cX6_canBeOffence 27 = .ok (.ifCond .eq 7, 3) := by decide +kernel
theorem dX6_canBeOffence_30 : decode cX6_canBeOffence 30 = .ok (.iconst 1, 1) := by decide +kernel
theorem dX6_canBeOffence_31 : decode cX6_canBeOffence 31 = .ok (.goto 4, 3) := by decide +kernel
theorem dX6_canBeOffence_34 : decode cX6_canBeOffence 34 = .ok (.iconst 0, 1) := by decide +kernel
theorem dX6_canBeOffence_35 : decode cX6_canBeOffence 35 = .ok (.ireturn, 1) := by decide +kernel
theorem dX6_daysInAll_0 : decode cX6_daysInAll 0 = .ok (.aload_n 0, 1) := by decide +kernel
theorem dX6_daysInAll_1 : decode cX6_daysInAll 1 = .ok (.getfield 36, 3) := by decide +kernel
theorem dX6_daysInAll_4 : decode cX6_daysInAll 4 = .ok (.iload_n 1, 1) := by decide +kernel
theorem dX6_daysInAll_5 : decode cX6_daysInAll 5 = .ok (.iconst 0, 1) := by decide +kernel
theorem dX6_daysInAll_6 : decode cX6_daysInAll 6 = .ok (.ldc 227, 2) := by decide +kernel
theorem dX6_daysInAll_8 : decode cX6_daysInAll 8 = .ok (.invokevirtual 228, 3) := by decide +kernel
theorem dX6_daysInAll_11 : decode cX6_daysInAll 11 = .ok (.ireturn, 1) := by decide +kernel
theorem dX6_noteNewEvent_0 : decode cX6_noteNewEvent 0 = .ok (.aload_n 0, 1) := by decide +kernel
theorem dX6_noteNewEvent_1 : decode cX6_noteNewEvent 1 = .ok (.getfield 29, 3) := by decide +kernel
theorem dX6_noteNewEvent_4 : decode cX6_noteNewEvent 4 = .ok (.getfield 94, 3) := by decide +kernel
theorem dX6_noteNewEvent_7 : decode cX6_noteNewEvent 7 = .ok (.iconst 1, 1) := by decide +kernel
theorem dX6_noteNewEvent_8 : decode cX6_noteNewEvent 8 = .ok (.isub, 1) := by decide +kernel
theorem dX6_noteNewEvent_9 : decode cX6_noteNewEvent 9 = .ok (.istore_n 1, 1) := by decide +kernel
theorem dX6_noteNewEvent_10 : decode cX6_noteNewEvent 10 = .ok (.aload_n 0, 1) := by decide +kernel
theorem dX6_noteNewEvent_11 : decode cX6_noteNewEvent 11 = .ok (.getfield 52, 3) := by decide +kernel
theorem dX6_noteNewEvent_14 : decode cX6_noteNewEvent 14 = .ok (.iconst 0, 1) := by decide +kernel
theorem dX6_noteNewEvent_15 : decode cX6_noteNewEvent 15 = .ok (.iload_n 1, 1) := by decide +kernel
theorem dX6_noteNewEvent_16 : decode cX6_noteNewEvent 16 = .ok (.iconst 0, 1) := by decide +kernel
theorem dX6_noteNewEvent_17 : decode cX6_noteNewEvent 17 = .ok (.invokevirtual 116, 3) := by decide +kernel
theorem dX6_noteNewEvent_20 : decode cX6_noteNewEvent 20 = .ok (.aload_n 0, 1) := by decide +kernel
theorem dX6_noteNewEvent_21 : decode cX6_noteNewEvent 21 = .ok (.getfield 45, 3) := by decide +kernel
theorem dX6_noteNewEvent_24 : decode cX6_noteNewEvent 24 = .ok (.invokevirtual 224, 3) := by decide +kernel
theorem dX6_noteNewEvent_27 : decode cX6_noteNewEvent 27 = .ok (.iload_n 1, 1) := by decide +kernel
theorem dX6_noteNewEvent_28 : decode cX6_noteNewEvent 28 = .ok (.ireturn, 1) := by decide +kernel
theorem dX6_retell_0 : decode cX6_retell 0 = .ok (.aload_n 0, 1) := by decide +kernel
theorem dX6_retell_1 : decode cX6_retell 1 = .ok (.getfield 29, 3) := by decide +kernel
theorem dX6_retell_4 : decode cX6_retell 4 = .ok (.getfield 241, 3) := by decide +kernel
theorem dX6_retell_7 : decode cX6_retell 7 = .ok (.iload_n 2, 1) := by decide +kernel
theorem dX6_retell_8 : decode cX6_retell 8 = .ok (.iaload, 1) := by decide +kernel
theorem dX6_retell_9 : decode cX6_retell 9 = .ok (.istore 4, 2) := by decide +kernel
theorem dX6_retell_11 : decode cX6_retell 11 = .ok (.aload_n 0, 1) := by decide +kernel
theorem dX6_retell_12 : decode cX6_retell 12 = .ok (.iload 4, 2) := by decide +kernel
theorem dX6_retell_14 : decode cX6_retell 14 = .ok (.invokevirtual 221, 3) := by decide +kernel
theorem dX6_retell_17 : decode cX6_retell 17 = .ok (.istore 5, 2) := by decide +kernel
theorem dX6_retell_19 : decode cX6_retell 19 = .ok (.aload_n 0, 1) := by decide +kernel
theorem dX6_retell_20 : decode cX6_retell 20 = .ok (.getfield 52, 3) := by decide +kernel
theorem dX6_retell_23 : decode cX6_retell 23 = .ok (.iload_n 1, 1) := by decide +kernel
theorem dX6_retell_24 : decode cX6_retell 24 = .ok (.iload_n 2, 1) := by decide +kernel
theorem dX6_retell_25 : decode cX6_retell 25 = .ok (.aload_n 0, 1) := by decide +kernel
theorem dX6_retell_26 : decode cX6_retell 26 = .ok (.getfield 29, 3) := by decide +kernel
theorem dX6_retell_29 : decode cX6_retell 29 = .ok (.iload_n 1, 1) := by decide +kernel
theorem dX6_retell_30 : decode cX6_retell 30 = .ok (.iload_n 2, 1) := by decide +kernel
theorem dX6_retell_31 : decode cX6_retell 31 = .ok (.iload_n 3, 1) := by decide +kernel
theorem dX6_retell_32 : decode cX6_retell 32 = .ok (.invokevirtual 191, 3) := by decide +kernel
theorem dX6_retell_35 : decode cX6_retell 35 = .ok (.invokevirtual 116, 3) := by decide +kernel
theorem dX6_retell_38 : decode cX6_retell 38 = .ok (.aload_n 0, 1) := by decide +kernel
theorem dX6_retell_39 : decode cX6_retell 39 = .ok (.getfield 45, 3) := by decide +kernel
theorem dX6_retell_42 : decode cX6_retell 42 = .ok (.invokevirtual 101, 3) := by decide +kernel
theorem dX6_retell_45 : decode cX6_retell 45 = .ok (.aload_n 0, 1) := by decide +kernel
theorem dX6_retell_46 : decode cX6_retell 46 = .ok (.iload 4, 2) := by decide +kernel
theorem dX6_retell_48 : decode cX6_retell 48 = .ok (.invokevirtual 221, 3) := by decide +kernel
theorem dX6_retell_51 : decode cX6_retell 51 = .ok (.iload 5, 2) := by decide +kernel
theorem dX6_retell_53 : decode cX6_retell 53 = .ok (.isub, 1) := by decide +kernel
theorem dX6_retell_54 : decode cX6_retell 54 = .ok (.ldc 248, 2) := by decide +kernel
theorem dX6_retell_56 : decode cX6_retell 56 = .ok (.iadd, 1) := by decide +kernel
theorem dX6_retell_57 : decode cX6_retell 57 = .ok (.ireturn, 1) := by decide +kernel
theorem dX6_liveThrough_0 : decode cX6_liveThrough 0 = .ok (.aload_n 0, 1) := by decide +kernel
theorem dX6_liveThrough_1 : decode cX6_liveThrough 1 = .ok (.sipush 9999, 3) := by decide +kernel
theorem dX6_liveThrough_4 : decode cX6_liveThrough 4 = .ok (.aload_n 0, 1) := by decide +kernel
theorem dX6_liveThrough_5 : decode cX6_liveThrough 5 = .ok (.getfield 98, 3) := by decide +kernel
theorem dX6_liveThrough_8 : decode cX6_liveThrough 8 = .ok (.iload_n 1, 1) := by decide +kernel
theorem dX6_liveThrough_9 : decode cX6_liveThrough 9 = .ok (.bipush 16, 2) := by decide +kernel
theorem dX6_liveThrough_11 : decode cX6_liveThrough 11 = .ok (.irem, 1) := by decide +kernel
theorem dX6_liveThrough_12 : decode cX6_liveThrough 12 = .ok (.iadd, 1) := by decide +kernel
theorem dX6_liveThrough_13 : decode cX6_liveThrough 13 = .ok (.invokestatic 249, 3) := by decide +kernel
theorem dX6_liveThrough_16 : decode cX6_liveThrough 16 = .ok (.putfield 98, 3) := by decide +kernel
theorem dX6_liveThrough_19 : decode cX6_liveThrough 19 = .ok (.aload_n 0, 1) := by decide +kernel
theorem dX6_liveThrough_20 : decode cX6_liveThrough 20 = .ok (.getfield 29, 3) := by decide +kernel
theorem dX6_liveThrough_23 : decode cX6_liveThrough 23 = .ok (.getfield 94, 3) := by decide +kernel
theorem dX6_liveThrough_26 : decode cX6_liveThrough 26 = .ok (.bipush 40, 2) := by decide +kernel
theorem dX6_liveThrough_28 : decode cX6_liveThrough 28 = .ok (.if_icmp .ge 14, 3) := by decide +kernel
theorem dX6_liveThrough_31 : decode cX6_liveThrough 31 = .ok (.aload_n 0, 1) := by decide +kernel
theorem dX6_liveThrough_32 : decode cX6_liveThrough 32 = .ok (.getfield 19, 3) := by decide +kernel
theorem dX6_liveThrough_35 : decode cX6_liveThrough 35 = .ok (.getfield 88, 3) := by decide +kernel
theorem dX6_liveThrough_38 : decode cX6_liveThrough 38 = .ok (.iconst 1, 1) := by decide +kernel
theorem dX6_liveThrough_39 : decode cX6_liveThrough 39 = .ok (.if_icmp .ge 4, 3) := by decide +kernel
theorem dX6_liveThrough_42 : decode cX6_liveThrough 42 = .ok (.return_, 1) := by decide +kernel
theorem dX6_liveThrough_43 : decode cX6_liveThrough 43 = .ok (.iload_n 1, 1) := by decide +kernel
theorem dX6_liveThrough_44 : decode cX6_liveThrough 44 = .ok (.bipush 64, 2) := by decide +kernel
theorem dX6_liveThrough_46 : decode cX6_liveThrough 46 = .ok (.idiv, 1) := by decide +kernel
theorem dX6_liveThrough_47 : decode cX6_liveThrough 47 = .ok (.aload_n 0, 1) := by decide +kernel
theorem dX6_liveThrough_48 : decode cX6_liveThrough 48 = .ok (.getfield 19, 3) := by decide +kernel
theorem dX6_liveThrough_51 : decode cX6_liveThrough 51 = .ok (.getfield 88, 3) := by decide +kernel
theorem dX6_liveThrough_54 : decode cX6_liveThrough 54 = .ok (.irem, 1) := by decide +kernel
theorem dX6_liveThrough_55 : decode cX6_liveThrough 55 = .ok (.istore_n 2, 1) := by decide +kernel
theorem dX6_liveThrough_56 : decode cX6_liveThrough 56 = .ok (.iconst 0, 1) := by decide +kernel
theorem dX6_liveThrough_57 : decode cX6_liveThrough 57 = .ok (.aload_n 0, 1) := by decide +kernel
theorem dX6_liveThrough_58 : decode cX6_liveThrough 58 = .ok (.getfield 98, 3) := by decide +kernel
theorem dX6_liveThrough_61 : decode cX6_liveThrough 61 = .ok (.iload_n 1, 1) := by decide +kernel
theorem dX6_liveThrough_62 : decode cX6_liveThrough 62 = .ok (.sipush 256, 3) := by decide +kernel
theorem dX6_liveThrough_65 : decode cX6_liveThrough 65 = .ok (.idiv, 1) := by decide +kernel
theorem dX6_liveThrough_66 : decode cX6_liveThrough 66 = .ok (.bipush 32, 2) := by decide +kernel
theorem dX6_liveThrough_68 : decode cX6_liveThrough 68 = .ok (.irem, 1) := by decide +kernel
theorem dX6_liveThrough_69 : decode cX6_liveThrough 69 = .ok (.isub, 1) := by decide +kernel
theorem dX6_liveThrough_70 : decode cX6_liveThrough 70 = .ok (.invokestatic 213, 3) := by decide +kernel
theorem dX6_liveThrough_73 : decode cX6_liveThrough 73 = .ok (.istore_n 3, 1) := by decide +kernel
theorem dX6_liveThrough_74 : decode cX6_liveThrough 74 = .ok (.aload_n 0, 1) := by decide +kernel
theorem dX6_liveThrough_75 : decode cX6_liveThrough 75 = .ok (.getfield 29, 3) := by decide +kernel
theorem dX6_liveThrough_78 : decode cX6_liveThrough 78 = .ok (.iload_n 1, 1) := by decide +kernel
theorem dX6_liveThrough_79 : decode cX6_liveThrough 79 = .ok (.bipush 16, 2) := by decide +kernel
theorem dX6_liveThrough_81 : decode cX6_liveThrough 81 = .ok (.idiv, 1) := by decide +kernel
theorem dX6_liveThrough_82 : decode cX6_liveThrough 82 = .ok (.iconst 4, 1) := by decide +kernel
theorem dX6_liveThrough_83 : decode cX6_liveThrough 83 = .ok (.irem, 1) := by decide +kernel
theorem dX6_liveThrough_84 : decode cX6_liveThrough 84 = .ok (.aload_n 0, 1) := by decide +kernel
theorem dX6_liveThrough_85 : decode cX6_liveThrough 85 = .ok (.getfield 98, 3) := by decide +kernel
theorem dX6_liveThrough_88 : decode cX6_liveThrough 88 = .ok (.iload_n 3, 1) := by decide +kernel
theorem dX6_liveThrough_89 : decode cX6_liveThrough 89 = .ok (.iload_n 2, 1) := by decide +kernel
theorem dX6_liveThrough_90 : decode cX6_liveThrough 90 = .ok (.aload_n 0, 1) := by decide +kernel
theorem dX6_liveThrough_91 : decode cX6_liveThrough 91 = .ok (.getfield 19, 3) := by decide +kernel
theorem dX6_liveThrough_94 : decode cX6_liveThrough 94 = .ok (.iload_n 2, 1) := by decide +kernel
theorem dX6_liveThrough_95 : decode cX6_liveThrough 95 = .ok (.invokevirtual 123, 3) := by decide +kernel
theorem dX6_liveThrough_98 : decode cX6_liveThrough 98 = .ok (.iconst 0, 1) := by decide +kernel
theorem dX6_liveThrough_99 : decode cX6_liveThrough 99 = .ok (.invokevirtual 133, 3) := by decide +kernel
theorem dX6_liveThrough_102 : decode cX6_liveThrough 102 = .ok (.aload_n 0, 1) := by decide +kernel
theorem dX6_liveThrough_103 : decode cX6_liveThrough 103 = .ok (.invokevirtual 137, 3) := by decide +kernel
theorem dX6_liveThrough_106 : decode cX6_liveThrough 106 = .ok (.pop, 1) := by decide +kernel
theorem dX6_liveThrough_107 : decode cX6_liveThrough 107 = .ok (.return_, 1) := by decide +kernel
theorem dX6_sees_0 : decode cX6_sees 0 = .ok (.iload_n 1, 1) := by decide +kernel
theorem dX6_sees_1 : decode cX6_sees 1 = .ok (.ifCond .ne 5, 3) := by decide +kernel
theorem dX6_sees_4 : decode cX6_sees 4 = .ok (.iconst 1, 1) := by decide +kernel
theorem dX6_sees_5 : decode cX6_sees 5 = .ok (.ireturn, 1) := by decide +kernel
theorem dX6_sees_6 : decode cX6_sees 6 = .ok (.aload_n 0, 1) := by decide +kernel
theorem dX6_sees_7 : decode cX6_sees 7 = .ok (.getfield 29, 3) := by decide +kernel
theorem dX6_sees_10 : decode cX6_sees 10 = .ok (.getfield 156, 3) := by decide +kernel
theorem dX6_sees_13 : decode cX6_sees 13 = .ok (.iload_n 2, 1) := by decide +kernel
theorem dX6_sees_14 : decode cX6_sees 14 = .ok (.iaload, 1) := by decide +kernel
theorem dX6_sees_15 : decode cX6_sees 15 = .ok (.iconst 1, 1) := by decide +kernel
theorem dX6_sees_16 : decode cX6_sees 16 = .ok (.if_icmp .ne 5, 3) := by decide +kernel
theorem dX6_sees_19 : decode cX6_sees 19 = .ok (.iconst 0, 1) := by decide +kernel
theorem dX6_sees_20 : decode cX6_sees 20 = .ok (.ireturn, 1) := by decide +kernel
theorem dX6_sees_21 : decode cX6_sees 21 = .ok (.iload_n 1, 1) := by decide +kernel
theorem dX6_sees_22 : decode cX6_sees 22 = .ok (.iconst 2, 1) := by decide +kernel
theorem dX6_sees_23 : decode cX6_sees 23 = .ok (.if_icmp .ne 34, 3) := by decide +kernel
theorem dX6_sees_26 : decode cX6_sees 26 = .ok (.aload_n 0, 1) := by decide +kernel
theorem dX6_sees_27 : decode cX6_sees 27 = .ok (.getfield 98, 3) := by decide +kernel
theorem dX6_sees_30 : decode cX6_sees 30 = .ok (.aload_n 0, 1) := by decide +kernel
theorem dX6_sees_31 : decode cX6_sees 31 = .ok (.getfield 29, 3) := by decide +kernel
theorem dX6_sees_34 : decode cX6_sees 34 = .ok (.getfield 167, 3) := by decide +kernel
theorem dX6_sees_37 : decode cX6_sees 37 = .ok (.iload_n 2, 1) := by decide +kernel
theorem dX6_sees_38 : decode cX6_sees 38 = .ok (.iaload, 1) := by decide +kernel
theorem dX6_sees_39 : decode cX6_sees 39 = .ok (.isub, 1) := by decide +kernel
theorem dX6_sees_40 : decode cX6_sees 40 = .ok (.aload_n 0, 1) := by decide +kernel
theorem dX6_sees_41 : decode cX6_sees 41 = .ok (.getfield 19, 3) := by decide +kernel
theorem dX6_sees_44 : decode cX6_sees 44 = .ok (.iconst 4, 1) := by decide +kernel
theorem dX6_sees_45 : decode cX6_sees 45 = .ok (.invokevirtual 108, 3) := by decide +kernel
theorem dX6_sees_48 : decode cX6_sees 48 = .ok (.if_icmp .ge 7, 3) := by decide +kernel
theorem dX6_sees_51 : decode cX6_sees 51 = .ok (.iconst 1, 1) := by decide +kernel
theorem dX6_sees_52 : decode cX6_sees 52 = .ok (.goto 4, 3) := by decide +kernel
theorem dX6_sees_55 : decode cX6_sees 55 = .ok (.iconst 0, 1) := by decide +kernel
theorem dX6_sees_56 : decode cX6_sees 56 = .ok (.ireturn, 1) := by decide +kernel
theorem dX6_sees_57 : decode cX6_sees 57 = .ok (.iload_n 1, 1) := by decide +kernel
theorem dX6_sees_58 : decode cX6_sees 58 = .ok (.iconst 3, 1) := by decide +kernel
theorem dX6_sees_59 : decode cX6_sees 59 = .ok (.if_icmp .ne 40, 3) := by decide +kernel
theorem dX6_sees_62 : decode cX6_sees 62 = .ok (.aload_n 0, 1) := by decide +kernel
theorem dX6_sees_63 : decode cX6_sees 63 = .ok (.getfield 29, 3) := by decide +kernel
theorem dX6_sees_66 : decode cX6_sees 66 = .ok (.getfield 252, 3) := by decide +kernel
theorem dX6_sees_69 : decode cX6_sees 69 = .ok (.iload_n 2, 1) := by decide +kernel
theorem dX6_sees_70 : decode cX6_sees 70 = .ok (.iaload, 1) := by decide +kernel
theorem dX6_sees_71 : decode cX6_sees 71 = .ok (.ifCond .ne 32, 3) := by decide +kernel
theorem dX6_sees_74 : decode cX6_sees 74 = .ok (.aload_n 0, 1) := by decide +kernel
theorem dX6_sees_75 : decode cX6_sees 75 = .ok (.getfield 98, 3) := by decide +kernel
theorem dX6_sees_78 : decode cX6_sees 78 = .ok (.aload_n 0, 1) := by decide +kernel
theorem dX6_sees_79 : decode cX6_sees 79 = .ok (.getfield 29, 3) := by decide +kernel
theorem dX6_sees_82 : decode cX6_sees 82 = .ok (.getfield 170, 3) := by decide +kernel
theorem dX6_sees_85 : decode cX6_sees 85 = .ok (.iload_n 2, 1) := by decide +kernel
theorem dX6_sees_86 : decode cX6_sees 86 = .ok (.iaload, 1) := by decide +kernel
theorem dX6_sees_87 : decode cX6_sees 87 = .ok (.isub, 1) := by decide +kernel
theorem dX6_sees_88 : decode cX6_sees 88 = .ok (.aload_n 0, 1) := by decide +kernel
theorem dX6_sees_89 : decode cX6_sees 89 = .ok (.getfield 19, 3) := by decide +kernel
theorem dX6_sees_92 : decode cX6_sees 92 = .ok (.iconst 5, 1) := by decide +kernel
theorem dX6_sees_93 : decode cX6_sees 93 = .ok (.invokevirtual 108, 3) := by decide +kernel
theorem dX6_sees_96 : decode cX6_sees 96 = .ok (.if_icmp .ge 7, 3) := by decide +kernel
theorem dX6_sees_99 : decode cX6_sees 99 = .ok (.iconst 1, 1) := by decide +kernel
theorem dX6_sees_100 : decode cX6_sees 100 = .ok (.goto 4, 3) := by decide +kernel
theorem dX6_sees_103 : decode cX6_sees 103 = .ok (.iconst 0, 1) := by decide +kernel
theorem dX6_sees_104 : decode cX6_sees 104 = .ok (.ireturn, 1) := by decide +kernel
theorem dX7_in_0 : decode cX7_in 0 = .ok (.lload_n 0, 1) := by decide +kernel
theorem dX7_in_1 : decode cX7_in 1 = .ok (.lload_n 2, 1) := by decide +kernel
theorem dX7_in_2 : decode cX7_in 2 = .ok (.lcmp, 1) := by decide +kernel
theorem dX7_in_3 : decode cX7_in 3 = .ok (.ifCond .lt 14, 3) := by decide +kernel
theorem dX7_in_6 : decode cX7_in 6 = .ok (.lload_n 0, 1) := by decide +kernel
theorem dX7_in_7 : decode cX7_in 7 = .ok (.lload 4, 2) := by decide +kernel
theorem dX7_in_9 : decode cX7_in 9 = .ok (.lcmp, 1) := by decide +kernel
theorem dX7_in_10 : decode cX7_in 10 = .ok (.ifCond .gt 7, 3) := by decide +kernel
theorem dX7_in_13 : decode cX7_in 13 = .ok (.iconst 1, 1) := by decide +kernel
theorem dX7_in_14 : decode cX7_in 14 = .ok (.goto 4, 3) := by decide +kernel
theorem dX7_in_17 : decode cX7_in 17 = .ok (.iconst 0, 1) := by decide +kernel
theorem dX7_in_18 : decode cX7_in 18 = .ok (.ireturn, 1) := by decide +kernel
theorem dX7_empty_0 : decode cX7_empty 0 = .ok (.aload_n 0, 1) := by decide +kernel
theorem dX7_empty_1 : decode cX7_empty 1 = .ok (.getfield 25, 3) := by decide +kernel
theorem dX7_empty_4 : decode cX7_empty 4 = .ok (.iconst 0, 1) := by decide +kernel
theorem dX7_empty_5 : decode cX7_empty 5 = .ok (.bipush 100, 2) := by decide +kernel
theorem dX7_empty_7 : decode cX7_empty 7 = .ok (.iastore, 1) := by decide +kernel
theorem dX7_empty_8 : decode cX7_empty 8 = .ok (.aload_n 0, 1) := by decide +kernel
theorem dX7_empty_9 : decode cX7_empty 9 = .ok (.getfield 25, 3) := by decide +kernel
theorem dX7_empty_12 : decode cX7_empty 12 = .ok (.iconst 1, 1) := by decide +kernel
theorem dX7_empty_13 : decode cX7_empty 13 = .ok (.bipush 12, 2) := by decide +kernel
theorem dX7_empty_15 : decode cX7_empty 15 = .ok (.iastore, 1) := by decide +kernel
theorem dX7_empty_16 : decode cX7_empty 16 = .ok (.aload_n 0, 1) := by decide +kernel
theorem dX7_empty_17 : decode cX7_empty 17 = .ok (.getfield 25, 3) := by decide +kernel
theorem dX7_empty_20 : decode cX7_empty 20 = .ok (.iconst 2, 1) := by decide +kernel
theorem dX7_empty_21 : decode cX7_empty 21 = .ok (.bipush 10, 2) := by decide +kernel
theorem dX7_empty_23 : decode cX7_empty 23 = .ok (.iastore, 1) := by decide +kernel
theorem dX7_empty_24 : decode cX7_empty 24 = .ok (.aload_n 0, 1) := by decide +kernel
theorem dX7_empty_25 : decode cX7_empty 25 = .ok (.getfield 25, 3) := by decide +kernel
theorem dX7_empty_28 : decode cX7_empty 28 = .ok (.iconst 3, 1) := by decide +kernel
theorem dX7_empty_29 : decode cX7_empty 29 = .ok (.sipush 200, 3) := by decide +kernel
theorem dX7_empty_32 : decode cX7_empty 32 = .ok (.iastore, 1) := by decide +kernel
theorem dX7_empty_33 : decode cX7_empty 33 = .ok (.aload_n 0, 1) := by decide +kernel
theorem dX7_empty_34 : decode cX7_empty 34 = .ok (.getfield 25, 3) := by decide +kernel
theorem dX7_empty_37 : decode cX7_empty 37 = .ok (.iconst 4, 1) := by decide +kernel
theorem dX7_empty_38 : decode cX7_empty 38 = .ok (.sipush 300, 3) := by decide +kernel
theorem dX7_empty_41 : decode cX7_empty 41 = .ok (.iastore, 1) := by decide +kernel
theorem dX7_empty_42 : decode cX7_empty 42 = .ok (.aload_n 0, 1) := by decide +kernel
theorem dX7_empty_43 : decode cX7_empty 43 = .ok (.getfield 25, 3) := by decide +kernel
theorem dX7_empty_46 : decode cX7_empty 46 = .ok (.iconst 5, 1) := by decide +kernel
theorem dX7_empty_47 : decode cX7_empty 47 = .ok (.sipush 150, 3) := by decide +kernel
theorem dX7_empty_50 : decode cX7_empty 50 = .ok (.iastore, 1) := by decide +kernel
theorem dX7_empty_51 : decode cX7_empty 51 = .ok (.aload_n 0, 1) := by decide +kernel
theorem dX7_empty_52 : decode cX7_empty 52 = .ok (.iconst 0, 1) := by decide +kernel
theorem dX7_empty_53 : decode cX7_empty 53 = .ok (.putfield 71, 3) := by decide +kernel
theorem dX7_empty_56 : decode cX7_empty 56 = .ok (.return_, 1) := by decide +kernel
theorem dX7_codeIs_0 : decode cX7_codeIs 0 = .ok (.aload_n 0, 1) := by decide +kernel
theorem dX7_codeIs_1 : decode cX7_codeIs 1 = .ok (.getfield 28, 3) := by decide +kernel
theorem dX7_codeIs_4 : decode cX7_codeIs 4 = .ok (.aload_n 0, 1) := by decide +kernel
theorem dX7_codeIs_5 : decode cX7_codeIs 5 = .ok (.getfield 71, 3) := by decide +kernel
theorem dX7_codeIs_8 : decode cX7_codeIs 8 = .ok (.iload_n 1, 1) := by decide +kernel
theorem dX7_codeIs_9 : decode cX7_codeIs 9 = .ok (.iastore, 1) := by decide +kernel
theorem dX7_codeIs_10 : decode cX7_codeIs 10 = .ok (.aload_n 0, 1) := by decide +kernel
theorem dX7_codeIs_11 : decode cX7_codeIs 11 = .ok (.getfield 31, 3) := by decide +kernel
theorem dX7_codeIs_14 : decode cX7_codeIs 14 = .ok (.aload_n 0, 1) := by decide +kernel
theorem dX7_codeIs_15 : decode cX7_codeIs 15 = .ok (.getfield 71, 3) := by decide +kernel
theorem dX7_codeIs_18 : decode cX7_codeIs 18 = .ok (.iload_n 2, 1) := by decide +kernel
theorem dX7_codeIs_19 : decode cX7_codeIs 19 = .ok (.iastore, 1) := by decide +kernel
theorem dX7_codeIs_20 : decode cX7_codeIs 20 = .ok (.aload_n 0, 1) := by decide +kernel
theorem dX7_codeIs_21 : decode cX7_codeIs 21 = .ok (.dup, 1) := by decide +kernel
theorem dX7_codeIs_22 : decode cX7_codeIs 22 = .ok (.getfield 71, 3) := by decide +kernel
theorem dX7_codeIs_25 : decode cX7_codeIs 25 = .ok (.iconst 1, 1) := by decide +kernel
theorem dX7_codeIs_26 : decode cX7_codeIs 26 = .ok (.iadd, 1) := by decide +kernel
theorem dX7_codeIs_27 : decode cX7_codeIs 27 = .ok (.putfield 71, 3) := by decide +kernel
theorem dX7_codeIs_30 : decode cX7_codeIs 30 = .ok (.return_, 1) := by decide +kernel
theorem dX7_write_0 : decode cX7_write 0 = .ok (.iload_n 1, 1) := by decide +kernel
theorem dX7_write_1 : decode cX7_write 1 = .ok (.i2l, 1) := by decide +kernel
theorem dX7_write_2 : decode cX7_write 2 = .ok (.ldc2_w 75, 3) := by decide +kernel
theorem dX7_write_5 : decode cX7_write 5 = .ok (.ldc2_w 77, 3) := by decide +kernel
theorem dX7_write_8 : decode cX7_write 8 = .ok (.invokestatic 79, 3) := by decide +kernel
theorem dX7_write_11 : decode cX7_write 11 = .ok (.ifCond .ne 5, 3) := by decide +kernel
theorem dX7_write_14 : decode cX7_write 14 = .ok (.iconst (-1), 1) := by decide +kernel
theorem dX7_write_15 : decode cX7_write 15 = .ok (.ireturn, 1) := by decide +kernel
theorem dX7_write_16 : decode cX7_write 16 = .ok (.aload_n 0, 1) := by decide +kernel
theorem dX7_write_17 : decode cX7_write 17 = .ok (.getfield 83, 3) := by decide +kernel
theorem dX7_write_20 : decode cX7_write 20 = .ok (.sipush 200, 3) := by decide +kernel
theorem dX7_write_23 : decode cX7_write 23 = .ok (.if_icmp .ne 6, 3) := by decide +kernel
theorem dX7_write_26 : decode cX7_write 26 = .ok (.bipush (-3), 2) := by decide +kernel
theorem dX7_write_28 : decode cX7_write 28 = .ok (.ireturn, 1) := by decide +kernel
theorem dX7_write_29 : decode cX7_write 29 = .ok (.aload_n 0, 1) := by decide +kernel
theorem dX7_write_30 : decode cX7_write 30 = .ok (.getfield 7, 3) := by decide +kernel
theorem dX7_write_33 : decode cX7_write 33 = .ok (.aload_n 0, 1) := by decide +kernel
theorem dX7_write_34 : decode cX7_write 34 = .ok (.getfield 83, 3) := by decide +kernel
theorem dX7_write_37 : decode cX7_write 37 = .ok (.iload_n 1, 1) := by decide +kernel
theorem dX7_write_38 : decode cX7_write 38 = .ok (.iastore, 1) := by decide +kernel
theorem dX7_write_39 : decode cX7_write 39 = .ok (.aload_n 0, 1) := by decide +kernel
theorem dX7_write_40 : decode cX7_write 40 = .ok (.dup, 1) := by decide +kernel
theorem dX7_write_41 : decode cX7_write 41 = .ok (.getfield 83, 3) := by decide +kernel
theorem dX7_write_44 : decode cX7_write 44 = .ok (.iconst 1, 1) := by decide +kernel
theorem dX7_write_45 : decode cX7_write 45 = .ok (.iadd, 1) := by decide +kernel
theorem dX7_write_46 : decode cX7_write 46 = .ok (.putfield 83, 3) := by decide +kernel
theorem dX7_write_49 : decode cX7_write 49 = .ok (.aload_n 0, 1) := by decide +kernel
theorem dX7_write_50 : decode cX7_write 50 = .ok (.getfield 83, 3) := by decide +kernel
theorem dX7_write_53 : decode cX7_write 53 = .ok (.ireturn, 1) := by decide +kernel
theorem dX7_wipe_0 : decode cX7_wipe 0 = .ok (.aload_n 0, 1) := by decide +kernel
theorem dX7_wipe_1 : decode cX7_wipe 1 = .ok (.getfield 83, 3) := by decide +kernel
theorem dX7_wipe_4 : decode cX7_wipe 4 = .ok (.istore_n 1, 1) := by decide +kernel
theorem dX7_wipe_5 : decode cX7_wipe 5 = .ok (.aload_n 0, 1) := by decide +kernel
theorem dX7_wipe_6 : decode cX7_wipe 6 = .ok (.iconst 0, 1) := by decide +kernel
theorem dX7_wipe_7 : decode cX7_wipe 7 = .ok (.putfield 83, 3) := by decide +kernel
theorem dX7_wipe_10 : decode cX7_wipe 10 = .ok (.iload_n 1, 1) := by decide +kernel
theorem dX7_wipe_11 : decode cX7_wipe 11 = .ok (.ireturn, 1) := by decide +kernel
theorem dX7_letterAt_0 : decode cX7_letterAt 0 = .ok (.iload_n 1, 1) := by decide +kernel
theorem dX7_letterAt_1 : decode cX7_letterAt 1 = .ok (.aload_n 0, 1) := by decide +kernel
theorem dX7_letterAt_2 : decode cX7_letterAt 2 = .ok (.getfield 83, 3) := by decide +kernel
theorem dX7_letterAt_5 : decode cX7_letterAt 5 = .ok (.if_icmp .ge 12, 3) := by decide +kernel
theorem dX7_letterAt_8 : decode cX7_letterAt 8 = .ok (.aload_n 0, 1) := by decide +kernel
theorem dX7_letterAt_9 : decode cX7_letterAt 9 = .ok (.getfield 7, 3) := by decide +kernel
theorem dX7_letterAt_12 : decode cX7_letterAt 12 = .ok (.iload_n 1, 1) := by decide +kernel
theorem dX7_letterAt_13 : decode cX7_letterAt 13 = .ok (.iaload, 1) := by decide +kernel
theorem dX7_letterAt_14 : decode cX7_letterAt 14 = .ok (.goto 4, 3) := by decide +kernel
theorem dX7_letterAt_17 : decode cX7_letterAt 17 = .ok (.iconst 0, 1) := by decide +kernel
theorem dX7_letterAt_18 : decode cX7_letterAt 18 = .ok (.ireturn, 1) := by decide +kernel
theorem dX7_number_0 : decode cX7_number 0 = .ok (.iconst 0, 1) := by decide +kernel
theorem dX7_number_1 : decode cX7_number 1 = .ok (.istore_n 3, 1) := by decide +kernel
theorem dX7_number_2 : decode cX7_number 2 = .ok (.iconst 0, 1) := by decide +kernel
theorem dX7_number_3 : decode cX7_number 3 = .ok (.istore 4, 2) := by decide +kernel
theorem dX7_number_5 : decode cX7_number 5 = .ok (.iload 4, 2) := by decide +kernel
theorem dX7_number_7 : decode cX7_number 7 = .ok (.iload_n 1, 1) := by decide +kernel
theorem dX7_number_8 : decode cX7_number 8 = .ok (.if_icmp .ge 59, 3) := by decide +kernel
theorem dX7_number_11 : decode cX7_number 11 = .ok (.aload_n 0, 1) := by decide +kernel
theorem dX7_number_12 : decode cX7_number 12 = .ok (.aload_n 0, 1) := by decide +kernel
theorem dX7_number_13 : decode cX7_number 13 = .ok (.getfield 86, 3) := by decide +kernel
theorem dX7_number_16 : decode cX7_number 16 = .ok (.invokevirtual 89, 3) := by decide +kernel
theorem dX7_number_19 : decode cX7_number 19 = .ok (.i2l, 1) := by decide +kernel
theorem dX7_number_20 : decode cX7_number 20 = .ok (.ldc2_w 93, 3) := by decide +kernel
theorem dX7_number_23 : decode cX7_number 23 = .ok (.ldc2_w 95, 3) := by decide +kernel
theorem dX7_number_26 : decode cX7_number 26 = .ok (.invokestatic 79, 3) := by decide +kernel
theorem dX7_number_29 : decode cX7_number 29 = .ok (.ifCond .ne 5, 3) := by decide +kernel
theorem dX7_number_32 : decode cX7_number 32 = .ok (.iconst (-1), 1) := by decide +kernel
theorem dX7_number_33 : decode cX7_number 33 = .ok (.ireturn, 1) := by decide +kernel
theorem dX7_number_34 : decode cX7_number 34 = .ok (.bipush 10, 2) := by decide +kernel
theorem dX7_number_36 : decode cX7_number 36 = .ok (.iload_n 3, 1) := by decide +kernel
theorem dX7_number_37 : decode cX7_number 37 = .ok (.imul, 1) := by decide +kernel
theorem dX7_number_38 : decode cX7_number 38 = .ok (.aload_n 0, 1) := by decide +kernel
theorem dX7_number_39 : decode cX7_number 39 = .ok (.aload_n 0, 1) := by decide +kernel
theorem dX7_number_40 : decode cX7_number 40 = .ok (.getfield 86, 3) := by decide +kernel
theorem dX7_number_43 : decode cX7_number 43 = .ok (.invokevirtual 89, 3) := by decide +kernel
theorem dX7_number_46 : decode cX7_number 46 = .ok (.iadd, 1) := by decide +kernel
theorem dX7_number_47 : decode cX7_number 47 = .ok (.bipush 48, 2) := by decide +kernel
theorem dX7_number_49 : decode cX7_number 49 = .ok (.isub, 1) := by decide +kernel
theorem dX7_number_50 : decode cX7_number 50 = .ok (.istore_n 3, 1) := by decide +kernel
theorem dX7_number_51 : decode cX7_number 51 = .ok (.aload_n 0, 1) := by decide +kernel
theorem dX7_number_52 : decode cX7_number 52 = .ok (.dup, 1) := by decide +kernel
theorem dX7_number_53 : decode cX7_number 53 = .ok (.getfield 86, 3) := by decide +kernel
theorem dX7_number_56 : decode cX7_number 56 = .ok (.iconst 1, 1) := by decide +kernel
theorem dX7_number_57 : decode cX7_number 57 = .ok (.iadd, 1) := by decide +kernel
theorem dX7_number_58 : decode cX7_number 58 = .ok (.putfield 86, 3) := by decide +kernel
theorem dX7_number_61 : decode cX7_number 61 = .ok (.iinc 4 1, 3) := by decide +kernel
theorem dX7_number_64 : decode cX7_number 64 = .ok (.goto (-59), 3) := by decide +kernel
theorem dX7_number_67 : decode cX7_number 67 = .ok (.iload_n 3, 1) := by decide +kernel
theorem dX7_number_68 : decode cX7_number 68 = .ok (.iload_n 2, 1) := by decide +kernel
theorem dX7_number_69 : decode cX7_number 69 = .ok (.if_icmp .ge 8, 3) := by decide +kernel
theorem dX7_number_72 : decode cX7_number 72 = .ok (.bipush (-2), 2) := by decide +kernel
theorem dX7_number_74 : decode cX7_number 74 = .ok (.goto 4, 3) := by decide +kernel
theorem dX7_number_77 : decode cX7_number 77 = .ok (.iload_n 3, 1) := by decide +kernel
theorem dX7_number_78 : decode cX7_number 78 = .ok (.ireturn, 1) := by decide +kernel
theorem dX7_ends_0 : decode cX7_ends 0 = .ok (.aload_n 0, 1) := by decide +kernel
theorem dX7_ends_1 : decode cX7_ends 1 = .ok (.dup, 1) := by decide +kernel
theorem dX7_ends_2 : decode cX7_ends 2 = .ok (.getfield 86, 3) := by decide +kernel
theorem dX7_ends_5 : decode cX7_ends 5 = .ok (.iconst 1, 1) := by decide +kernel
theorem dX7_ends_6 : decode cX7_ends 6 = .ok (.iadd, 1) := by decide +kernel
theorem dX7_ends_7 : decode cX7_ends 7 = .ok (.putfield 86, 3) := by decide +kernel
theorem dX7_ends_10 : decode cX7_ends 10 = .ok (.aload_n 0, 1) := by decide +kernel
theorem dX7_ends_11 : decode cX7_ends 11 = .ok (.aload_n 0, 1) := by decide +kernel
theorem dX7_ends_12 : decode cX7_ends 12 = .ok (.getfield 86, 3) := by decide +kernel
theorem dX7_ends_15 : decode cX7_ends 15 = .ok (.iconst 1, 1) := by decide +kernel
theorem dX7_ends_16 : decode cX7_ends 16 = .ok (.isub, 1) := by decide +kernel
theorem dX7_ends_17 : decode cX7_ends 17 = .ok (.invokevirtual 89, 3) := by decide +kernel
theorem dX7_ends_20 : decode cX7_ends 20 = .ok (.bipush 59, 2) := by decide +kernel
theorem dX7_ends_22 : decode cX7_ends 22 = .ok (.if_icmp .ne 7, 3) := by decide +kernel
theorem dX7_ends_25 : decode cX7_ends 25 = .ok (.iconst 0, 1) := by decide +kernel
theorem dX7_ends_26 : decode cX7_ends 26 = .ok (.goto 4, 3) := by decide +kernel
theorem dX7_ends_29 : decode cX7_ends 29 = .ok (.iconst 1, 1) := by decide +kernel
theorem dX7_ends_30 : decode cX7_ends 30 = .ok (.ireturn, 1) := by decide +kernel
theorem dX7_ruleItem_0 : decode cX7_ruleItem 0 = .ok (.aload_n 0, 1) := by decide +kernel
theorem dX7_ruleItem_1 : decode cX7_ruleItem 1 = .ok (.iload_n 2, 1) := by decide +kernel
theorem dX7_ruleItem_2 : decode cX7_ruleItem 2 = .ok (.iload_n 3, 1) := by decide +kernel
theorem dX7_ruleItem_3 : decode cX7_ruleItem 3 = .ok (.invokevirtual 97, 3) := by decide +kernel
theorem dX7_ruleItem_6 : decode cX7_ruleItem 6 = .ok (.istore 4, 2) := by decide +kernel
theorem dX7_ruleItem_8 : decode cX7_ruleItem 8 = .ok (.iload 4, 2) := by decide +kernel
theorem dX7_ruleItem_10 : decode cX7_ruleItem 10 = .ok (.ifCond .ge 7, 3) := by decide +kernel
theorem dX7_ruleItem_13 : decode cX7_ruleItem 13 = .ok (.iload 4, 2) := by decide +kernel
theorem dX7_ruleItem_15 : decode cX7_ruleItem 15 = .ok (.ineg, 1) := by decide +kernel
theorem dX7_ruleItem_16 : decode cX7_ruleItem 16 = .ok (.ireturn, 1) := by decide +kernel
theorem dX7_ruleItem_17 : decode cX7_ruleItem 17 = .ok (.aload_n 0, 1) := by decide +kernel
theorem dX7_ruleItem_18 : decode cX7_ruleItem 18 = .ok (.getfield 25, 3) := by decide +kernel
theorem dX7_ruleItem_21 : decode cX7_ruleItem 21 = .ok (.iload_n 1, 1) := by decide +kernel
theorem dX7_ruleItem_22 : decode cX7_ruleItem 22 = .ok (.iload 4, 2) := by decide +kernel
theorem dX7_ruleItem_24 : decode cX7_ruleItem 24 = .ok (.iastore, 1) := by decide +kernel
theorem dX7_ruleItem_25 : decode cX7_ruleItem 25 = .ok (.iconst 0, 1) := by decide +kernel
theorem dX7_ruleItem_26 : decode cX7_ruleItem 26 = .ok (.ireturn, 1) := by decide +kernel
theorem dX7_codeItem_0 : decode cX7_codeItem 0 = .ok (.aload_n 0, 1) := by decide +kernel
theorem dX7_codeItem_1 : decode cX7_codeItem 1 = .ok (.getfield 71, 3) := by decide +kernel
theorem dX7_codeItem_4 : decode cX7_codeItem 4 = .ok (.bipush 6, 2) := by decide +kernel
theorem dX7_codeItem_6 : decode cX7_codeItem 6 = .ok (.if_icmp .ne 5, 3) := by decide +kernel
theorem dX7_codeItem_9 : decode cX7_codeItem 9 = .ok (.iconst 3, 1) := by decide +kernel
theorem dX7_codeItem_10 : decode cX7_codeItem 10 = .ok (.ireturn, 1) := by decide +kernel
theorem dX7_codeItem_11 : decode cX7_codeItem 11 = .ok (.aload_n 0, 1) := by decide +kernel
theorem dX7_codeItem_12 : decode cX7_codeItem 12 = .ok (.iconst 1, 1) := by decide +kernel
theorem dX7_codeItem_13 : decode cX7_codeItem 13 = .ok (.iconst 1, 1) := by decide +kernel
theorem dX7_codeItem_14 : decode cX7_codeItem 14 = .ok (.invokevirtual 97, 3) := by decide +kernel
theorem dX7_codeItem_17 : decode cX7_codeItem 17 = .ok (.istore_n 1, 1) := by decide +kernel
theorem dX7_codeItem_18 : decode cX7_codeItem 18 = .ok (.iload_n 1, 1) := by decide +kernel
theorem dX7_codeItem_19 : decode cX7_codeItem 19 = .ok (.ifCond .ge 6, 3) := by decide +kernel
theorem dX7_codeItem_22 : decode cX7_codeItem 22 = .ok (.iload_n 1, 1) := by decide +kernel
theorem dX7_codeItem_23 : decode cX7_codeItem 23 = .ok (.ineg, 1) := by decide +kernel
theorem dX7_codeItem_24 : decode cX7_codeItem 24 = .ok (.ireturn, 1) := by decide +kernel
theorem dX7_codeItem_25 : decode cX7_codeItem 25 = .ok (.aload_n 0, 1) := by decide +kernel
theorem dX7_codeItem_26 : decode cX7_codeItem 26 = .ok (.iconst 2, 1) := by decide +kernel
theorem dX7_codeItem_27 : decode cX7_codeItem 27 = .ok (.iconst 0, 1) := by decide +kernel
theorem dX7_codeItem_28 : decode cX7_codeItem 28 = .ok (.invokevirtual 97, 3) := by decide +kernel
theorem dX7_codeItem_31 : decode cX7_codeItem 31 = .ok (.istore_n 2, 1) := by decide +kernel
theorem dX7_codeItem_32 : decode cX7_codeItem 32 = .ok (.iload_n 2, 1) := by decide +kernel
theorem dX7_codeItem_33 : decode cX7_codeItem 33 = .ok (.ifCond .ge 6, 3) := by decide +kernel
theorem dX7_codeItem_36 : decode cX7_codeItem 36 = .ok (.iload_n 2, 1) := by decide +kernel
theorem dX7_codeItem_37 : decode cX7_codeItem 37 = .ok (.ineg, 1) := by decide +kernel
theorem dX7_codeItem_38 : decode cX7_codeItem 38 = .ok (.ireturn, 1) := by decide +kernel
theorem dX7_codeItem_39 : decode cX7_codeItem 39 = .ok (.aload_n 0, 1) := by decide +kernel
theorem dX7_codeItem_40 : decode cX7_codeItem 40 = .ok (.iload_n 1, 1) := by decide +kernel
theorem dX7_codeItem_41 : decode cX7_codeItem 41 = .ok (.iload_n 2, 1) := by decide +kernel
theorem dX7_codeItem_42 : decode cX7_codeItem 42 = .ok (.invokevirtual 64, 3) := by decide +kernel
theorem dX7_codeItem_45 : decode cX7_codeItem 45 = .ok (.iconst 0, 1) := by decide +kernel
theorem dX7_codeItem_46 : decode cX7_codeItem 46 = .ok (.ireturn, 1) := by decide +kernel
theorem dX7_staysItem_0 : decode cX7_staysItem 0 = .ok (.aload_n 0, 1) := by decide +kernel
theorem dX7_staysItem_1 : decode cX7_staysItem 1 = .ok (.iconst 4, 1) := by decide +kernel
theorem dX7_staysItem_2 : decode cX7_staysItem 2 = .ok (.iconst 3, 1) := by decide +kernel
theorem dX7_staysItem_3 : decode cX7_staysItem 3 = .ok (.iconst 0, 1) := by decide +kernel
theorem dX7_staysItem_4 : decode cX7_staysItem 4 = .ok (.invokevirtual 101, 3) := by decide +kernel
theorem dX7_staysItem_7 : decode cX7_staysItem 7 = .ok (.istore_n 1, 1) := by decide +kernel
theorem dX7_staysItem_8 : decode cX7_staysItem 8 = .ok (.iload_n 1, 1) := by decide +kernel
theorem dX7_staysItem_9 : decode cX7_staysItem 9 = .ok (.ifCond .eq 7, 3) := by decide +kernel
theorem dX7_staysItem_12 : decode cX7_staysItem 12 = .ok (.iload_n 1, 1) := by decide +kernel
theorem dX7_staysItem_13 : decode cX7_staysItem 13 = .ok (.goto 10, 3) := by decide +kernel
theorem dX7_staysItem_16 : decode cX7_staysItem 16 = .ok (.aload_n 0, 1) := by decide +kernel
theorem dX7_staysItem_17 : decode cX7_staysItem 17 = .ok (.iconst 5, 1) := by decide +kernel
theorem dX7_staysItem_18 : decode cX7_staysItem 18 = .ok (.iconst 3, 1) := by decide +kernel
theorem dX7_staysItem_19 : decode cX7_staysItem 19 = .ok (.iconst 0, 1) := by decide +kernel
theorem dX7_staysItem_20 : decode cX7_staysItem 20 = .ok (.invokevirtual 101, 3) := by decide +kernel
theorem dX7_staysItem_23 : decode cX7_staysItem 23 = .ok (.ireturn, 1) := by decide +kernel
theorem dX7_item_0 : decode cX7_item 0 = .ok (.iload_n 1, 1) := by decide +kernel
theorem dX7_item_1 : decode cX7_item 1 = .ok (.lookupswitch 119 #[(98, 81), (107, 111), (108, 70), (109, 92), (115, 103), (119, 59)], 59) := by decide +kernel
theorem dX7_item_60 : decode cX7_item 60 = .ok (.aload_n 0, 1) := by decide +kernel
theorem dX7_item_61 : decode cX7_item 61 = .ok (.iconst 0, 1) := by decide +kernel
theorem dX7_item_62 : decode cX7_item 62 = .ok (.iconst 3, 1) := by decide +kernel
theorem dX7_item_63 : decode cX7_item 63 = .ok (.iconst 1, 1) := by decide +kernel
theorem dX7_item_64 : decode cX7_item 64 = .ok (.invokevirtual 101, 3) := by decide +kernel
theorem dX7_item_67 : decode cX7_item 67 = .ok (.istore_n 2, 1) := by decide +kernel
theorem dX7_item_68 : decode cX7_item 68 = .ok (.goto 54, 3) := by decide +kernel
theorem dX7_item_71 : decode cX7_item 71 = .ok (.aload_n 0, 1) := by decide +kernel
theorem dX7_item_72 : decode cX7_item 72 = .ok (.iconst 1, 1) := by decide +kernel
theorem dX7_item_73 : decode cX7_item 73 = .ok (.iconst 2, 1) := by decide +kernel
theorem dX7_item_74 : decode cX7_item 74 = .ok (.iconst 1, 1) := by decide +kernel
theorem dX7_item_75 : decode cX7_item 75 = .ok (.invokevirtual 101, 3) := by decide +kernel
theorem dX7_item_78 : decode cX7_item 78 = .ok (.istore_n 2, 1) := by decide +kernel
theorem dX7_item_79 : decode cX7_item 79 = .ok (.goto 43, 3) := by decide +kernel
theorem dX7_item_82 : decode cX7_item 82 = .ok (.aload_n 0, 1) := by decide +kernel
theorem dX7_item_83 : decode cX7_item 83 = .ok (.iconst 2, 1) := by decide +kernel
theorem dX7_item_84 : decode cX7_item 84 = .ok (.iconst 2, 1) := by decide +kernel
theorem dX7_item_85 : decode cX7_item 85 = .ok (.iconst 1, 1) := by decide +kernel
theorem dX7_item_86 : decode cX7_item 86 = .ok (.invokevirtual 101, 3) := by decide +kernel
theorem dX7_item_89 : decode cX7_item 89 = .ok (.istore_n 2, 1) := by decide +kernel
theorem dX7_item_90 : decode cX7_item 90 = .ok (.goto 32, 3) := by decide +kernel
theorem dX7_item_93 : decode cX7_item 93 = .ok (.aload_n 0, 1) := by decide +kernel
theorem dX7_item_94 : decode cX7_item 94 = .ok (.iconst 3, 1) := by decide +kernel
theorem dX7_item_95 : decode cX7_item 95 = .ok (.iconst 3, 1) := by decide +kernel
theorem dX7_item_96 : decode cX7_item 96 = .ok (.iconst 0, 1) := by decide +kernel
theorem dX7_item_97 : decode cX7_item 97 = .ok (.invokevirtual 101, 3) := by decide +kernel
theorem dX7_item_100 : decode cX7_item 100 = .ok (.istore_n 2, 1) := by decide +kernel
theorem dX7_item_101 : decode cX7_item 101 = .ok (.goto 21, 3) := by decide +kernel
theorem dX7_item_104 : decode cX7_item 104 = .ok (.aload_n 0, 1) := by decide +kernel
theorem dX7_item_105 : decode cX7_item 105 = .ok (.invokevirtual 105, 3) := by decide +kernel
theorem dX7_item_108 : decode cX7_item 108 = .ok (.istore_n 2, 1) := by decide +kernel
theorem dX7_item_109 : decode cX7_item 109 = .ok (.goto 13, 3) := by decide +kernel
theorem dX7_item_112 : decode cX7_item 112 = .ok (.aload_n 0, 1) := by decide +kernel
theorem dX7_item_113 : decode cX7_item 113 = .ok (.invokevirtual 109, 3) := by decide +kernel
theorem dX7_item_116 : decode cX7_item 116 = .ok (.istore_n 2, 1) := by decide +kernel
theorem dX7_item_117 : decode cX7_item 117 = .ok (.goto 5, 3) := by decide +kernel
theorem dX7_item_120 : decode cX7_item 120 = .ok (.iconst 3, 1) := by decide +kernel
theorem dX7_item_121 : decode cX7_item 121 = .ok (.ireturn, 1) := by decide +kernel
theorem dX7_item_122 : decode cX7_item 122 = .ok (.iload_n 2, 1) := by decide +kernel
theorem dX7_item_123 : decode cX7_item 123 = .ok (.ifCond .eq 7, 3) := by decide +kernel
theorem dX7_item_126 : decode cX7_item 126 = .ok (.iload_n 2, 1) := by decide +kernel
theorem dX7_item_127 : decode cX7_item 127 = .ok (.goto 7, 3) := by decide +kernel
theorem dX7_item_130 : decode cX7_item 130 = .ok (.aload_n 0, 1) := by decide +kernel
theorem dX7_item_131 : decode cX7_item 131 = .ok (.invokevirtual 112, 3) := by decide +kernel
theorem dX7_item_134 : decode cX7_item 134 = .ok (.ireturn, 1) := by decide +kernel
theorem dX7_readAll_0 : decode cX7_readAll 0 = .ok (.aload_n 0, 1) := by decide +kernel
theorem dX7_readAll_1 : decode cX7_readAll 1 = .ok (.invokevirtual 61, 3) := by decide +kernel
theorem dX7_readAll_4 : decode cX7_readAll 4 = .ok (.aload_n 0, 1) := by decide +kernel
theorem dX7_readAll_5 : decode cX7_readAll 5 = .ok (.iconst 0, 1) := by decide +kernel
theorem dX7_readAll_6 : decode cX7_readAll 6 = .ok (.putfield 86, 3) := by decide +kernel
theorem dX7_readAll_9 : decode cX7_readAll 9 = .ok (.aload_n 0, 1) := by decide +kernel
theorem dX7_readAll_10 : decode cX7_readAll 10 = .ok (.bipush (-4), 2) := by decide +kernel
theorem dX7_readAll_12 : decode cX7_readAll 12 = .ok (.putfield 115, 3) := by decide +kernel
theorem dX7_readAll_15 : decode cX7_readAll 15 = .ok (.aload_n 0, 1) := by decide +kernel
theorem dX7_readAll_16 : decode cX7_readAll 16 = .ok (.getfield 86, 3) := by decide +kernel
theorem dX7_readAll_19 : decode cX7_readAll 19 = .ok (.aload_n 0, 1) := by decide +kernel
theorem dX7_readAll_20 : decode cX7_readAll 20 = .ok (.getfield 83, 3) := by decide +kernel
theorem dX7_readAll_23 : decode cX7_readAll 23 = .ok (.if_icmp .ge 42, 3) := by decide +kernel
theorem dX7_readAll_26 : decode cX7_readAll 26 = .ok (.aload_n 0, 1) := by decide +kernel
theorem dX7_readAll_27 : decode cX7_readAll 27 = .ok (.getfield 86, 3) := by decide +kernel
theorem dX7_readAll_30 : decode cX7_readAll 30 = .ok (.istore_n 1, 1) := by decide +kernel
theorem dX7_readAll_31 : decode cX7_readAll 31 = .ok (.aload_n 0, 1) := by decide +kernel
theorem dX7_readAll_32 : decode cX7_readAll 32 = .ok (.dup, 1) := by decide +kernel
theorem dX7_readAll_33 : decode cX7_readAll 33 = .ok (.getfield 86, 3) := by decide +kernel
theorem dX7_readAll_36 : decode cX7_readAll 36 = .ok (.iconst 1, 1) := by decide +kernel
theorem dX7_readAll_37 : decode cX7_readAll 37 = .ok (.iadd, 1) := by decide +kernel
theorem dX7_readAll_38 : decode cX7_readAll 38 = .ok (.putfield 86, 3) := by decide +kernel
theorem dX7_readAll_41 : decode cX7_readAll 41 = .ok (.aload_n 0, 1) := by decide +kernel
theorem dX7_readAll_42 : decode cX7_readAll 42 = .ok (.aload_n 0, 1) := by decide +kernel
theorem dX7_readAll_43 : decode cX7_readAll 43 = .ok (.iload_n 1, 1) := by decide +kernel
theorem dX7_readAll_44 : decode cX7_readAll 44 = .ok (.invokevirtual 89, 3) := by decide +kernel
theorem dX7_readAll_47 : decode cX7_readAll 47 = .ok (.invokevirtual 118, 3) := by decide +kernel
theorem dX7_readAll_50 : decode cX7_readAll 50 = .ok (.istore_n 2, 1) := by decide +kernel
theorem dX7_readAll_51 : decode cX7_readAll 51 = .ok (.iload_n 2, 1) := by decide +kernel
theorem dX7_readAll_52 : decode cX7_readAll 52 = .ok (.ifCond .eq 10, 3) := by decide +kernel
theorem dX7_readAll_55 : decode cX7_readAll 55 = .ok (.aload_n 0, 1) := by decide +kernel
theorem dX7_readAll_56 : decode cX7_readAll 56 = .ok (.iload_n 2, 1) := by decide +kernel
theorem dX7_readAll_57 : decode cX7_readAll 57 = .ok (.putfield 115, 3) := by decide +kernel
theorem dX7_readAll_60 : decode cX7_readAll 60 = .ok (.iload_n 1, 1) := by decide +kernel
theorem dX7_readAll_61 : decode cX7_readAll 61 = .ok (.ireturn, 1) := by decide +kernel
theorem dX7_readAll_62 : decode cX7_readAll 62 = .ok (.goto (-47), 3) := by decide +kernel
theorem dX7_readAll_65 : decode cX7_readAll 65 = .ok (.bipush (-4), 2) := by decide +kernel
theorem dX7_readAll_67 : decode cX7_readAll 67 = .ok (.ireturn, 1) := by decide +kernel
theorem dX7_fault_0 : decode cX7_fault 0 = .ok (.aload_n 0, 1) := by decide +kernel
theorem dX7_fault_1 : decode cX7_fault 1 = .ok (.invokevirtual 121, 3) := by decide +kernel
theorem dX7_fault_4 : decode cX7_fault 4 = .ok (.ireturn, 1) := by decide +kernel
theorem dX7_reason_0 : decode cX7_reason 0 = .ok (.aload_n 0, 1) := by decide +kernel
theorem dX7_reason_1 : decode cX7_reason 1 = .ok (.invokevirtual 121, 3) := by decide +kernel
theorem dX7_reason_4 : decode cX7_reason 4 = .ok (.pop, 1) := by decide +kernel
theorem dX7_reason_5 : decode cX7_reason 5 = .ok (.aload_n 0, 1) := by decide +kernel
theorem dX7_reason_6 : decode cX7_reason 6 = .ok (.getfield 115, 3) := by decide +kernel
theorem dX7_reason_9 : decode cX7_reason 9 = .ok (.ireturn, 1) := by decide +kernel
theorem dX7_lay_0 : decode cX7_lay 0 = .ok (.aload_n 0, 1) := by decide +kernel
theorem dX7_lay_1 : decode cX7_lay 1 = .ok (.invokevirtual 121, 3) := by decide +kernel
theorem dX7_lay_4 : decode cX7_lay 4 = .ok (.bipush (-4), 2) := by decide +kernel
theorem dX7_lay_6 : decode cX7_lay 6 = .ok (.if_icmp .ne 10, 3) := by decide +kernel
theorem dX7_lay_9 : decode cX7_lay 9 = .ok (.aload_n 0, 1) := by decide +kernel
theorem dX7_lay_10 : decode cX7_lay 10 = .ok (.getfield 71, 3) := by decide +kernel
theorem dX7_lay_13 : decode cX7_lay 13 = .ok (.ifCond .ne 6, 3) := by decide +kernel
theorem dX7_lay_16 : decode cX7_lay 16 = .ok (.bipush (-2), 2) := by decide +kernel
theorem dX7_lay_18 : decode cX7_lay 18 = .ok (.ireturn, 1) := by decide +kernel
theorem dX7_lay_19 : decode cX7_lay 19 = .ok (.aload_n 0, 1) := by decide +kernel
theorem dX7_lay_20 : decode cX7_lay 20 = .ok (.invokevirtual 68, 3) := by decide +kernel
theorem dX7_lay_23 : decode cX7_lay 23 = .ok (.aload_n 0, 1) := by decide +kernel
theorem dX7_lay_24 : decode cX7_lay 24 = .ok (.getfield 124, 3) := by decide +kernel
theorem dX7_lay_27 : decode cX7_lay 27 = .ok (.ireturn, 1) := by decide +kernel
theorem dX7_begin_0 : decode cX7_begin 0 = .ok (.iconst 0, 1) := by decide +kernel
theorem dX7_begin_1 : decode cX7_begin 1 = .ok (.istore_n 1, 1) := by decide +kernel
theorem dX7_begin_2 : decode cX7_begin 2 = .ok (.iload_n 1, 1) := by decide +kernel
theorem dX7_begin_3 : decode cX7_begin 3 = .ok (.sipush 335, 3) := by decide +kernel
theorem dX7_begin_6 : decode cX7_begin 6 = .ok (.if_icmp .ge 16, 3) := by decide +kernel
theorem dX7_begin_9 : decode cX7_begin 9 = .ok (.aload_n 0, 1) := by decide +kernel
theorem dX7_begin_10 : decode cX7_begin 10 = .ok (.getfield 13, 3) := by decide +kernel
theorem dX7_begin_13 : decode cX7_begin 13 = .ok (.iload_n 1, 1) := by decide +kernel
theorem dX7_begin_14 : decode cX7_begin 14 = .ok (.iconst 0, 1) := by decide +kernel
theorem dX7_begin_15 : decode cX7_begin 15 = .ok (.iastore, 1) := by decide +kernel
theorem dX7_begin_16 : decode cX7_begin 16 = .ok (.iinc 1 1, 3) := by decide +kernel
theorem dX7_begin_19 : decode cX7_begin 19 = .ok (.goto (-17), 3) := by decide +kernel
theorem dX7_begin_22 : decode cX7_begin 22 = .ok (.iconst 0, 1) := by decide +kernel
theorem dX7_begin_23 : decode cX7_begin 23 = .ok (.istore_n 1, 1) := by decide +kernel
theorem dX7_begin_24 : decode cX7_begin 24 = .ok (.iload_n 1, 1) := by decide +kernel
theorem dX7_begin_25 : decode cX7_begin 25 = .ok (.bipush 6, 2) := by decide +kernel
theorem dX7_begin_27 : decode cX7_begin 27 = .ok (.if_icmp .ge 73, 3) := by decide +kernel
theorem dX7_begin_30 : decode cX7_begin 30 = .ok (.aload_n 0, 1) := by decide +kernel
theorem dX7_begin_31 : decode cX7_begin 31 = .ok (.getfield 13, 3) := by decide +kernel
theorem dX7_begin_34 : decode cX7_begin 34 = .ok (.sipush 328, 3) := by decide +kernel
theorem dX7_begin_37 : decode cX7_begin 37 = .ok (.iload_n 1, 1) := by decide +kernel
theorem dX7_begin_38 : decode cX7_begin 38 = .ok (.iadd, 1) := by decide +kernel
theorem dX7_begin_39 : decode cX7_begin 39 = .ok (.aload_n 0, 1) := by decide +kernel
theorem dX7_begin_40 : decode cX7_begin 40 = .ok (.getfield 25, 3) := by decide +kernel
theorem dX7_begin_43 : decode cX7_begin 43 = .ok (.iload_n 1, 1) := by decide +kernel
theorem dX7_begin_44 : decode cX7_begin 44 = .ok (.iaload, 1) := by decide +kernel
theorem dX7_begin_45 : decode cX7_begin 45 = .ok (.iastore, 1) := by decide +kernel
theorem dX7_begin_46 : decode cX7_begin 46 = .ok (.aload_n 0, 1) := by decide +kernel
theorem dX7_begin_47 : decode cX7_begin 47 = .ok (.getfield 19, 3) := by decide +kernel
theorem dX7_begin_50 : decode cX7_begin 50 = .ok (.iload_n 1, 1) := by decide +kernel
theorem dX7_begin_51 : decode cX7_begin 51 = .ok (.iload_n 1, 1) := by decide +kernel
theorem dX7_begin_52 : decode cX7_begin 52 = .ok (.aload_n 0, 1) := by decide +kernel
theorem dX7_begin_53 : decode cX7_begin 53 = .ok (.getfield 71, 3) := by decide +kernel
theorem dX7_begin_56 : decode cX7_begin 56 = .ok (.if_icmp .ge 12, 3) := by decide +kernel
theorem dX7_begin_59 : decode cX7_begin 59 = .ok (.aload_n 0, 1) := by decide +kernel
theorem dX7_begin_60 : decode cX7_begin 60 = .ok (.getfield 28, 3) := by decide +kernel
theorem dX7_begin_63 : decode cX7_begin 63 = .ok (.iload_n 1, 1) := by decide +kernel
theorem dX7_begin_64 : decode cX7_begin 64 = .ok (.iaload, 1) := by decide +kernel
theorem dX7_begin_65 : decode cX7_begin 65 = .ok (.goto 4, 3) := by decide +kernel
theorem dX7_begin_68 : decode cX7_begin 68 = .ok (.iconst 0, 1) := by decide +kernel
theorem dX7_begin_69 : decode cX7_begin 69 = .ok (.iastore, 1) := by decide +kernel
theorem dX7_begin_70 : decode cX7_begin 70 = .ok (.aload_n 0, 1) := by decide +kernel
theorem dX7_begin_71 : decode cX7_begin 71 = .ok (.getfield 22, 3) := by decide +kernel
theorem dX7_begin_74 : decode cX7_begin 74 = .ok (.iload_n 1, 1) := by decide +kernel
theorem dX7_begin_75 : decode cX7_begin 75 = .ok (.iload_n 1, 1) := by decide +kernel
theorem dX7_begin_76 : decode cX7_begin 76 = .ok (.aload_n 0, 1) := by decide +kernel
theorem dX7_begin_77 : decode cX7_begin 77 = .ok (.getfield 71, 3) := by decide +kernel
theorem dX7_begin_80 : decode cX7_begin 80 = .ok (.if_icmp .ge 12, 3) := by decide +kernel
theorem dX7_begin_83 : decode cX7_begin 83 = .ok (.aload_n 0, 1) := by decide +kernel
theorem dX7_begin_84 : decode cX7_begin 84 = .ok (.getfield 31, 3) := by decide +kernel
theorem dX7_begin_87 : decode cX7_begin 87 = .ok (.iload_n 1, 1) := by decide +kernel
theorem dX7_begin_88 : decode cX7_begin 88 = .ok (.iaload, 1) := by decide +kernel
theorem dX7_begin_89 : decode cX7_begin 89 = .ok (.goto 4, 3) := by decide +kernel
theorem dX7_begin_92 : decode cX7_begin 92 = .ok (.iconst 0, 1) := by decide +kernel
theorem dX7_begin_93 : decode cX7_begin 93 = .ok (.iastore, 1) := by decide +kernel
theorem dX7_begin_94 : decode cX7_begin 94 = .ok (.iinc 1 1, 3) := by decide +kernel
theorem dX7_begin_97 : decode cX7_begin 97 = .ok (.goto (-73), 3) := by decide +kernel
theorem dX7_begin_100 : decode cX7_begin 100 = .ok (.aload_n 0, 1) := by decide +kernel
theorem dX7_begin_101 : decode cX7_begin 101 = .ok (.aload_n 0, 1) := by decide +kernel
theorem dX7_begin_102 : decode cX7_begin 102 = .ok (.getfield 71, 3) := by decide +kernel
theorem dX7_begin_105 : decode cX7_begin 105 = .ok (.putfield 124, 3) := by decide +kernel
theorem dX7_begin_108 : decode cX7_begin 108 = .ok (.aload_n 0, 1) := by decide +kernel
theorem dX7_begin_109 : decode cX7_begin 109 = .ok (.iconst 0, 1) := by decide +kernel
theorem dX7_begin_110 : decode cX7_begin 110 = .ok (.putfield 127, 3) := by decide +kernel
theorem dX7_begin_113 : decode cX7_begin 113 = .ok (.aload_n 0, 1) := by decide +kernel
theorem dX7_begin_114 : decode cX7_begin 114 = .ok (.iconst 0, 1) := by decide +kernel
theorem dX7_begin_115 : decode cX7_begin 115 = .ok (.putfield 130, 3) := by decide +kernel
theorem dX7_begin_118 : decode cX7_begin 118 = .ok (.aload_n 0, 1) := by decide +kernel
theorem dX7_begin_119 : decode cX7_begin 119 = .ok (.iconst 0, 1) := by decide +kernel
theorem dX7_begin_120 : decode cX7_begin 120 = .ok (.putfield 133, 3) := by decide +kernel
theorem dX7_begin_123 : decode cX7_begin 123 = .ok (.return_, 1) := by decide +kernel
theorem dX7_isDriver_0 : decode cX7_isDriver 0 = .ok (.iload_n 0, 1) := by decide +kernel
theorem dX7_isDriver_1 : decode cX7_isDriver 1 = .ok (.i2l, 1) := by decide +kernel
theorem dX7_isDriver_2 : decode cX7_isDriver 2 = .ok (.lconst 0, 1) := by decide +kernel
theorem dX7_isDriver_3 : decode cX7_isDriver 3 = .ok (.ldc2_w 137, 3) := by decide +kernel
theorem dX7_isDriver_6 : decode cX7_isDriver 6 = .ok (.invokestatic 79, 3) := by decide +kernel
theorem dX7_isDriver_9 : decode cX7_isDriver 9 = .ok (.ireturn, 1) := by decide +kernel
theorem dX7_isCode_0 : decode cX7_isCode 0 = .ok (.iload_n 1, 1) := by decide +kernel
theorem dX7_isCode_1 : decode cX7_isCode 1 = .ok (.i2l, 1) := by decide +kernel
theorem dX7_isCode_2 : decode cX7_isCode 2 = .ok (.lconst 0, 1) := by decide +kernel
theorem dX7_isCode_3 : decode cX7_isCode 3 = .ok (.aload_n 0, 1) := by decide +kernel
theorem dX7_isCode_4 : decode cX7_isCode 4 = .ok (.getfield 124, 3) := by decide +kernel
theorem dX7_isCode_7 : decode cX7_isCode 7 = .ok (.iconst 1, 1) := by decide +kernel
theorem dX7_isCode_8 : decode cX7_isCode 8 = .ok (.isub, 1) := by decide +kernel
theorem dX7_isCode_9 : decode cX7_isCode 9 = .ok (.i2l, 1) := by decide +kernel
theorem dX7_isCode_10 : decode cX7_isCode 10 = .ok (.invokestatic 79, 3) := by decide +kernel
theorem dX7_isCode_13 : decode cX7_isCode 13 = .ok (.ireturn, 1) := by decide +kernel
theorem dX7_isEvent_0 : decode cX7_isEvent 0 = .ok (.iload_n 1, 1) := by decide +kernel
theorem dX7_isEvent_1 : decode cX7_isEvent 1 = .ok (.i2l, 1) := by decide +kernel
theorem dX7_isEvent_2 : decode cX7_isEvent 2 = .ok (.lconst 0, 1) := by decide +kernel
theorem dX7_isEvent_3 : decode cX7_isEvent 3 = .ok (.aload_n 0, 1) := by decide +kernel
theorem dX7_isEvent_4 : decode cX7_isEvent 4 = .ok (.getfield 13, 3) := by decide +kernel
theorem dX7_isEvent_7 : decode cX7_isEvent 7 = .ok (.sipush 334, 3) := by decide +kernel
theorem dX7_isEvent_10 : decode cX7_isEvent 10 = .ok (.iaload, 1) := by decide +kernel
theorem dX7_isEvent_11 : decode cX7_isEvent 11 = .ok (.iconst 1, 1) := by decide +kernel
theorem dX7_isEvent_12 : decode cX7_isEvent 12 = .ok (.isub, 1) := by decide +kernel
theorem dX7_isEvent_13 : decode cX7_isEvent 13 = .ok (.i2l, 1) := by decide +kernel
theorem dX7_isEvent_14 : decode cX7_isEvent 14 = .ok (.invokestatic 79, 3) := by decide +kernel
theorem dX7_isEvent_17 : decode cX7_isEvent 17 = .ok (.ireturn, 1) := by decide +kernel
theorem dX7_of_0 : decode cX7_of 0 = .ok (.aload_n 0, 1) := by decide +kernel
theorem dX7_of_1 : decode cX7_of 1 = .ok (.getfield 13, 3) := by decide +kernel
theorem dX7_of_4 : decode cX7_of 4 = .ok (.bipush 8, 2) := by decide +kernel
theorem dX7_of_6 : decode cX7_of 6 = .ok (.iload_n 1, 1) := by decide +kernel
theorem dX7_of_7 : decode cX7_of 7 = .ok (.imul, 1) := by decide +kernel
theorem dX7_of_8 : decode cX7_of 8 = .ok (.iload_n 2, 1) := by decide +kernel
theorem dX7_of_9 : decode cX7_of 9 = .ok (.iadd, 1) := by decide +kernel
theorem dX7_of_10 : decode cX7_of 10 = .ok (.iaload, 1) := by decide +kernel
theorem dX7_of_11 : decode cX7_of 11 = .ok (.ireturn, 1) := by decide +kernel
theorem dX7_ruleOf_0 : decode cX7_ruleOf 0 = .ok (.aload_n 0, 1) := by decide +kernel
theorem dX7_ruleOf_1 : decode cX7_ruleOf 1 = .ok (.getfield 13, 3) := by decide +kernel
theorem dX7_ruleOf_4 : decode cX7_ruleOf 4 = .ok (.sipush 328, 3) := by decide +kernel
theorem dX7_ruleOf_7 : decode cX7_ruleOf 7 = .ok (.iload_n 1, 1) := by decide +kernel
theorem dX7_ruleOf_8 : decode cX7_ruleOf 8 = .ok (.iadd, 1) := by decide +kernel
theorem dX7_ruleOf_9 : decode cX7_ruleOf 9 = .ok (.iaload, 1) := by decide +kernel
theorem dX7_ruleOf_10 : decode cX7_ruleOf 10 = .ok (.ireturn, 1) := by decide +kernel
theorem dX7_note_0 : decode cX7_note 0 = .ok (.aload_n 0, 1) := by decide +kernel
theorem dX7_note_1 : decode cX7_note 1 = .ok (.getfield 127, 3) := by decide +kernel
theorem dX7_note_4 : decode cX7_note 4 = .ok (.bipush 6, 2) := by decide +kernel
theorem dX7_note_6 : decode cX7_note 6 = .ok (.if_icmp .ne 44, 3) := by decide +kernel
theorem dX7_note_9 : decode cX7_note 9 = .ok (.iconst 0, 1) := by decide +kernel
theorem dX7_note_10 : decode cX7_note 10 = .ok (.istore_n 1, 1) := by decide +kernel
theorem dX7_note_11 : decode cX7_note 11 = .ok (.iload_n 1, 1) := by decide +kernel
theorem dX7_note_12 : decode cX7_note 12 = .ok (.sipush 1675, 3) := by decide +kernel
theorem dX7_note_15 : decode cX7_note 15 = .ok (.if_icmp .ge 25, 3) := by decide +kernel
theorem dX7_note_18 : decode cX7_note 18 = .ok (.aload_n 0, 1) := by decide +kernel
theorem dX7_note_19 : decode cX7_note 19 = .ok (.getfield 16, 3) := by decide +kernel
theorem dX7_note_22 : decode cX7_note 22 = .ok (.iload_n 1, 1) := by decide +kernel
theorem dX7_note_23 : decode cX7_note 23 = .ok (.aload_n 0, 1) := by decide +kernel
theorem dX7_note_24 : decode cX7_note 24 = .ok (.getfield 16, 3) := by decide +kernel
theorem dX7_note_27 : decode cX7_note 27 = .ok (.sipush 335, 3) := by decide +kernel
theorem dX7_note_30 : decode cX7_note 30 = .ok (.iload_n 1, 1) := by decide +kernel
theorem dX7_note_31 : decode cX7_note 31 = .ok (.iadd, 1) := by decide +kernel
theorem dX7_note_32 : decode cX7_note 32 = .ok (.iaload, 1) := by decide +kernel
theorem dX7_note_33 : decode cX7_note 33 = .ok (.iastore, 1) := by decide +kernel
theorem dX7_note_34 : decode cX7_note 34 = .ok (.iinc 1 1, 3) := by decide +kernel
theorem dX7_note_37 : decode cX7_note 37 = .ok (.goto (-26), 3) := by decide +kernel
theorem dX7_note_40 : decode cX7_note 40 = .ok (.aload_n 0, 1) := by decide +kernel
theorem dX7_note_41 : decode cX7_note 41 = .ok (.dup, 1) := by decide +kernel
theorem dX7_note_42 : decode cX7_note 42 = .ok (.getfield 127, 3) := by decide +kernel
theorem dX7_note_45 : decode cX7_note 45 = .ok (.iconst 1, 1) := by decide +kernel
theorem dX7_note_46 : decode cX7_note 46 = .ok (.isub, 1) := by decide +kernel
theorem dX7_note_47 : decode cX7_note 47 = .ok (.putfield 127, 3) := by decide +kernel
theorem dX7_note_50 : decode cX7_note 50 = .ok (.iconst 0, 1) := by decide +kernel
theorem dX7_note_51 : decode cX7_note 51 = .ok (.istore_n 1, 1) := by decide +kernel
theorem dX7_note_52 : decode cX7_note 52 = .ok (.iload_n 1, 1) := by decide +kernel
theorem dX7_note_53 : decode cX7_note 53 = .ok (.sipush 335, 3) := by decide +kernel
theorem dX7_note_56 : decode cX7_note 56 = .ok (.if_icmp .ge 30, 3) := by decide +kernel
theorem dX7_note_59 : decode cX7_note 59 = .ok (.aload_n 0, 1) := by decide +kernel
theorem dX7_note_60 : decode cX7_note 60 = .ok (.getfield 16, 3) := by decide +kernel
theorem dX7_note_63 : decode cX7_note 63 = .ok (.sipush 335, 3) := by decide +kernel
theorem dX7_note_66 : decode cX7_note 66 = .ok (.aload_n 0, 1) := by decide +kernel
theorem dX7_note_67 : decode cX7_note 67 = .ok (.getfield 127, 3) := by decide +kernel
theorem dX7_note_70 : decode cX7_note 70 = .ok (.imul, 1) := by decide +kernel
theorem dX7_note_71 : decode cX7_note 71 = .ok (.iload_n 1, 1) := by decide +kernel
theorem dX7_note_72 : decode cX7_note 72 = .ok (.iadd, 1) := by decide +kernel
theorem dX7_note_73 : decode cX7_note 73 = .ok (.aload_n 0, 1) := by decide +kernel
theorem dX7_note_74 : decode cX7_note 74 = .ok (.getfield 13, 3) := by decide +kernel
theorem dX7_note_77 : decode cX7_note 77 = .ok (.iload_n 1, 1) := by decide +kernel
theorem dX7_note_78 : decode cX7_note 78 = .ok (.iaload, 1) := by decide +kernel
theorem dX7_note_79 : decode cX7_note 79 = .ok (.iastore, 1) := by decide +kernel
theorem dX7_note_80 : decode cX7_note 80 = .ok (.iinc 1 1, 3) := by decide +kernel
theorem dX7_note_83 : decode cX7_note 83 = .ok (.goto (-31), 3) := by decide +kernel
theorem dX7_note_86 : decode cX7_note 86 = .ok (.aload_n 0, 1) := by decide +kernel
theorem dX7_note_87 : decode cX7_note 87 = .ok (.dup, 1) := by decide +kernel
theorem dX7_note_88 : decode cX7_note 88 = .ok (.getfield 127, 3) := by decide +kernel
theorem dX7_note_91 : decode cX7_note 91 = .ok (.iconst 1, 1) := by decide +kernel
theorem dX7_note_92 : decode cX7_note 92 = .ok (.iadd, 1) := by decide +kernel
theorem dX7_note_93 : decode cX7_note 93 = .ok (.putfield 127, 3) := by decide +kernel
theorem dX7_note_96 : decode cX7_note 96 = .ok (.aload_n 0, 1) := by decide +kernel
theorem dX7_note_97 : decode cX7_note 97 = .ok (.iconst 0, 1) := by decide +kernel
theorem dX7_note_98 : decode cX7_note 98 = .ok (.putfield 133, 3) := by decide +kernel
theorem dX7_note_101 : decode cX7_note 101 = .ok (.return_, 1) := by decide +kernel
theorem dX7_rule_0 : decode cX7_rule 0 = .ok (.iload_n 1, 1) := by decide +kernel
theorem dX7_rule_1 : decode cX7_rule 1 = .ok (.i2l, 1) := by decide +kernel
theorem dX7_rule_2 : decode cX7_rule 2 = .ok (.lconst 0, 1) := by decide +kernel
theorem dX7_rule_3 : decode cX7_rule 3 = .ok (.ldc2_w 139, 3) := by decide +kernel
theorem dX7_rule_6 : decode cX7_rule 6 = .ok (.invokestatic 79, 3) := by decide +kernel
theorem dX7_rule_9 : decode cX7_rule 9 = .ok (.ifCond .eq 44, 3) := by decide +kernel
theorem dX7_rule_12 : decode cX7_rule 12 = .ok (.iload_n 2, 1) := by decide +kernel
theorem dX7_rule_13 : decode cX7_rule 13 = .ok (.i2l, 1) := by decide +kernel
theorem dX7_rule_14 : decode cX7_rule 14 = .ok (.iload_n 1, 1) := by decide +kernel
theorem dX7_rule_15 : decode cX7_rule 15 = .ok (.iconst 3, 1) := by decide +kernel
theorem dX7_rule_16 : decode cX7_rule 16 = .ok (.if_icmp .ge 7, 3) := by decide +kernel
theorem dX7_rule_19 : decode cX7_rule 19 = .ok (.lconst 1, 1) := by decide +kernel
theorem dX7_rule_20 : decode cX7_rule 20 = .ok (.goto 4, 3) := by decide +kernel
theorem dX7_rule_23 : decode cX7_rule 23 = .ok (.lconst 0, 1) := by decide +kernel
theorem dX7_rule_24 : decode cX7_rule 24 = .ok (.iload_n 1, 1) := by decide +kernel
theorem dX7_rule_25 : decode cX7_rule 25 = .ok (.iconst 1, 1) := by decide +kernel
theorem dX7_rule_26 : decode cX7_rule 26 = .ok (.if_icmp .eq 8, 3) := by decide +kernel
theorem dX7_rule_29 : decode cX7_rule 29 = .ok (.iload_n 1, 1) := by decide +kernel
theorem dX7_rule_30 : decode cX7_rule 30 = .ok (.iconst 2, 1) := by decide +kernel
theorem dX7_rule_31 : decode cX7_rule 31 = .ok (.if_icmp .ne 9, 3) := by decide +kernel
theorem dX7_rule_34 : decode cX7_rule 34 = .ok (.ldc2_w 141, 3) := by decide +kernel
theorem dX7_rule_37 : decode cX7_rule 37 = .ok (.goto 6, 3) := by decide +kernel
theorem dX7_rule_40 : decode cX7_rule 40 = .ok (.ldc2_w 143, 3) := by decide +kernel
theorem dX7_rule_43 : decode cX7_rule 43 = .ok (.invokestatic 79, 3) := by decide +kernel
theorem dX7_rule_46 : decode cX7_rule 46 = .ok (.ifCond .eq 7, 3) := by decide +kernel
theorem dX7_rule_49 : decode cX7_rule 49 = .ok (.iconst 1, 1) := by decide +kernel
theorem dX7_rule_50 : decode cX7_rule 50 = .ok (.goto 4, 3) := by decide +kernel
theorem dX7_rule_53 : decode cX7_rule 53 = .ok (.iconst 0, 1) := by decide +kernel
theorem dX7_rule_54 : decode cX7_rule 54 = .ok (.istore_n 3, 1) := by decide +kernel
theorem dX7_rule_55 : decode cX7_rule 55 = .ok (.iload_n 3, 1) := by decide +kernel
theorem dX7_rule_56 : decode cX7_rule 56 = .ok (.ifCond .ne 5, 3) := by decide +kernel
theorem dX7_rule_59 : decode cX7_rule 59 = .ok (.iconst (-1), 1) := by decide +kernel
theorem dX7_rule_60 : decode cX7_rule 60 = .ok (.ireturn, 1) := by decide +kernel
theorem dX7_rule_61 : decode cX7_rule 61 = .ok (.aload_n 0, 1) := by decide +kernel
theorem dX7_rule_62 : decode cX7_rule 62 = .ok (.iload_n 1, 1) := by decide +kernel
theorem dX7_rule_63 : decode cX7_rule 63 = .ok (.invokevirtual 145, 3) := by decide +kernel
theorem dX7_rule_66 : decode cX7_rule 66 = .ok (.istore 4, 2) := by decide +kernel
theorem dX7_rule_68 : decode cX7_rule 68 = .ok (.iload 4, 2) := by decide +kernel
theorem dX7_rule_70 : decode cX7_rule 70 = .ok (.iload_n 2, 1) := by decide +kernel
theorem dX7_rule_71 : decode cX7_rule 71 = .ok (.if_icmp .ne 6, 3) := by decide +kernel
theorem dX7_rule_74 : decode cX7_rule 74 = .ok (.bipush (-2), 2) := by decide +kernel
theorem dX7_rule_76 : decode cX7_rule 76 = .ok (.ireturn, 1) := by decide +kernel
theorem dX7_rule_77 : decode cX7_rule 77 = .ok (.aload_n 0, 1) := by decide +kernel
theorem dX7_rule_78 : decode cX7_rule 78 = .ok (.invokevirtual 148, 3) := by decide +kernel
theorem dX7_rule_81 : decode cX7_rule 81 = .ok (.aload_n 0, 1) := by decide +kernel
theorem dX7_rule_82 : decode cX7_rule 82 = .ok (.getfield 13, 3) := by decide +kernel
theorem dX7_rule_85 : decode cX7_rule 85 = .ok (.sipush 328, 3) := by decide +kernel
theorem dX7_rule_88 : decode cX7_rule 88 = .ok (.iload_n 1, 1) := by decide +kernel
theorem dX7_rule_89 : decode cX7_rule 89 = .ok (.iadd, 1) := by decide +kernel
theorem dX7_rule_90 : decode cX7_rule 90 = .ok (.iload_n 2, 1) := by decide +kernel
theorem dX7_rule_91 : decode cX7_rule 91 = .ok (.iastore, 1) := by decide +kernel
theorem dX7_rule_92 : decode cX7_rule 92 = .ok (.iload 4, 2) := by decide +kernel
theorem dX7_rule_94 : decode cX7_rule 94 = .ok (.ireturn, 1) := by decide +kernel
theorem dX7_code_0 : decode cX7_code 0 = .ok (.aload_n 0, 1) := by decide +kernel
theorem dX7_code_1 : decode cX7_code 1 = .ok (.iload_n 1, 1) := by decide +kernel
theorem dX7_code_2 : decode cX7_code 2 = .ok (.invokevirtual 151, 3) := by decide +kernel
theorem dX7_code_5 : decode cX7_code 5 = .ok (.ifCond .eq 35, 3) := by decide +kernel
theorem dX7_code_8 : decode cX7_code 8 = .ok (.iload_n 2, 1) := by decide +kernel
theorem dX7_code_9 : decode cX7_code 9 = .ok (.i2l, 1) := by decide +kernel
theorem dX7_code_10 : decode cX7_code 10 = .ok (.lconst 0, 1) := by decide +kernel
theorem dX7_code_11 : decode cX7_code 11 = .ok (.lconst 1, 1) := by decide +kernel
theorem dX7_code_12 : decode cX7_code 12 = .ok (.invokestatic 79, 3) := by decide +kernel
theorem dX7_code_15 : decode cX7_code 15 = .ok (.ifCond .eq 25, 3) := by decide +kernel
theorem dX7_code_18 : decode cX7_code 18 = .ok (.iload_n 2, 1) := by decide +kernel
theorem dX7_code_19 : decode cX7_code 19 = .ok (.ifCond .ne 12, 3) := by decide +kernel
theorem dX7_code_22 : decode cX7_code 22 = .ok (.aload_n 0, 1) := by decide +kernel
theorem dX7_code_23 : decode cX7_code 23 = .ok (.getfield 19, 3) := by decide +kernel
theorem dX7_code_26 : decode cX7_code 26 = .ok (.iload_n 1, 1) := by decide +kernel
theorem dX7_code_27 : decode cX7_code 27 = .ok (.iaload, 1) := by decide +kernel
theorem dX7_code_28 : decode cX7_code 28 = .ok (.goto 13, 3) := by decide +kernel
theorem dX7_code_31 : decode cX7_code 31 = .ok (.aload_n 0, 1) := by decide +kernel
theorem dX7_code_32 : decode cX7_code 32 = .ok (.getfield 22, 3) := by decide +kernel
theorem dX7_code_35 : decode cX7_code 35 = .ok (.iload_n 1, 1) := by decide +kernel
theorem dX7_code_36 : decode cX7_code 36 = .ok (.iaload, 1) := by decide +kernel
theorem dX7_code_37 : decode cX7_code 37 = .ok (.goto 4, 3) := by decide +kernel
theorem dX7_code_40 : decode cX7_code 40 = .ok (.iconst (-1), 1) := by decide +kernel
theorem dX7_code_41 : decode cX7_code 41 = .ok (.ireturn, 1) := by decide +kernel
theorem dX7_pass_0 : decode cX7_pass 0 = .ok (.iload_n 1, 1) := by decide +kernel
theorem dX7_pass_1 : decode cX7_pass 1 = .ok (.i2l, 1) := by decide +kernel
theorem dX7_pass_2 : decode cX7_pass 2 = .ok (.lconst 0, 1) := by decide +kernel
theorem dX7_pass_3 : decode cX7_pass 3 = .ok (.ldc2_w 155, 3) := by decide +kernel
theorem dX7_pass_6 : decode cX7_pass 6 = .ok (.invokestatic 79, 3) := by decide +kernel
theorem dX7_pass_9 : decode cX7_pass 9 = .ok (.ifCond .ne 5, 3) := by decide +kernel
theorem dX7_pass_12 : decode cX7_pass 12 = .ok (.iconst (-1), 1) := by decide +kernel
theorem dX7_pass_13 : decode cX7_pass 13 = .ok (.ireturn, 1) := by decide +kernel
theorem dX7_pass_14 : decode cX7_pass 14 = .ok (.aload_n 0, 1) := by decide +kernel
theorem dX7_pass_15 : decode cX7_pass 15 = .ok (.getfield 130, 3) := by decide +kernel
theorem dX7_pass_18 : decode cX7_pass 18 = .ok (.iload_n 1, 1) := by decide +kernel
theorem dX7_pass_19 : decode cX7_pass 19 = .ok (.iadd, 1) := by decide +kernel
theorem dX7_pass_20 : decode cX7_pass 20 = .ok (.sipush 9999, 3) := by decide +kernel
theorem dX7_pass_23 : decode cX7_pass 23 = .ok (.if_icmp .le 6, 3) := by decide +kernel
theorem dX7_pass_26 : decode cX7_pass 26 = .ok (.bipush (-3), 2) := by decide +kernel
theorem dX7_pass_28 : decode cX7_pass 28 = .ok (.ireturn, 1) := by decide +kernel
theorem dX7_pass_29 : decode cX7_pass 29 = .ok (.aload_n 0, 1) := by decide +kernel
theorem dX7_pass_30 : decode cX7_pass 30 = .ok (.dup, 1) := by decide +kernel
theorem dX7_pass_31 : decode cX7_pass 31 = .ok (.getfield 130, 3) := by decide +kernel
theorem dX7_pass_34 : decode cX7_pass 34 = .ok (.iload_n 1, 1) := by decide +kernel
theorem dX7_pass_35 : decode cX7_pass 35 = .ok (.iadd, 1) := by decide +kernel
theorem dX7_pass_36 : decode cX7_pass 36 = .ok (.putfield 130, 3) := by decide +kernel
theorem dX7_pass_39 : decode cX7_pass 39 = .ok (.aload_n 0, 1) := by decide +kernel
theorem dX7_pass_40 : decode cX7_pass 40 = .ok (.getfield 130, 3) := by decide +kernel
theorem dX7_pass_43 : decode cX7_pass 43 = .ok (.ireturn, 1) := by decide +kernel
theorem dX7_comes_0 : decode cX7_comes 0 = .ok (.bipush 8, 2) := by decide +kernel
theorem dX7_comes_2 : decode cX7_comes 2 = .ok (.aload_n 0, 1) := by decide +kernel
theorem dX7_comes_3 : decode cX7_comes 3 = .ok (.getfield 13, 3) := by decide +kernel
theorem dX7_comes_6 : decode cX7_comes 6 = .ok (.sipush 334, 3) := by decide +kernel
theorem dX7_comes_9 : decode cX7_comes 9 = .ok (.iaload, 1) := by decide +kernel
theorem dX7_comes_10 : decode cX7_comes 10 = .ok (.imul, 1) := by decide +kernel
theorem dX7_comes_11 : decode cX7_comes 11 = .ok (.istore 6, 2) := by decide +kernel
theorem dX7_comes_13 : decode cX7_comes 13 = .ok (.aload_n 0, 1) := by decide +kernel
theorem dX7_comes_14 : decode cX7_comes 14 = .ok (.getfield 13, 3) := by decide +kernel
theorem dX7_comes_17 : decode cX7_comes 17 = .ok (.iload 6, 2) := by decide +kernel
theorem dX7_comes_19 : decode cX7_comes 19 = .ok (.iconst 0, 1) := by decide +kernel
theorem dX7_comes_20 : decode cX7_comes 20 = .ok (.iadd, 1) := by decide +kernel
theorem dX7_comes_21 : decode cX7_comes 21 = .ok (.iload_n 1, 1) := by decide +kernel
theorem dX7_comes_22 : decode cX7_comes 22 = .ok (.iastore, 1) := by decide +kernel
theorem dX7_comes_23 : decode cX7_comes 23 = .ok (.aload_n 0, 1) := by decide +kernel
theorem dX7_comes_24 : decode cX7_comes 24 = .ok (.getfield 13, 3) := by decide +kernel
theorem dX7_comes_27 : decode cX7_comes 27 = .ok (.iload 6, 2) := by decide +kernel
theorem dX7_comes_29 : decode cX7_comes 29 = .ok (.iconst 1, 1) := by decide +kernel
theorem dX7_comes_30 : decode cX7_comes 30 = .ok (.iadd, 1) := by decide +kernel
theorem dX7_comes_31 : decode cX7_comes 31 = .ok (.aload_n 0, 1) := by decide +kernel
theorem dX7_comes_32 : decode cX7_comes 32 = .ok (.getfield 130, 3) := by decide +kernel
theorem dX7_comes_35 : decode cX7_comes 35 = .ok (.iastore, 1) := by decide +kernel
theorem dX7_comes_36 : decode cX7_comes 36 = .ok (.aload_n 0, 1) := by decide +kernel
theorem dX7_comes_37 : decode cX7_comes 37 = .ok (.getfield 13, 3) := by decide +kernel
theorem dX7_comes_40 : decode cX7_comes 40 = .ok (.iload 6, 2) := by decide +kernel
theorem dX7_comes_42 : decode cX7_comes 42 = .ok (.iconst 2, 1) := by decide +kernel
theorem dX7_comes_43 : decode cX7_comes 43 = .ok (.iadd, 1) := by decide +kernel
theorem dX7_comes_44 : decode cX7_comes 44 = .ok (.iload_n 2, 1) := by decide +kernel
theorem dX7_comes_45 : decode cX7_comes 45 = .ok (.iastore, 1) := by decide +kernel
theorem dX7_comes_46 : decode cX7_comes 46 = .ok (.aload_n 0, 1) := by decide +kernel
theorem dX7_comes_47 : decode cX7_comes 47 = .ok (.getfield 13, 3) := by decide +kernel
theorem dX7_comes_50 : decode cX7_comes 50 = .ok (.iload 6, 2) := by decide +kernel
theorem dX7_comes_52 : decode cX7_comes 52 = .ok (.iconst 3, 1) := by decide +kernel
theorem dX7_comes_53 : decode cX7_comes 53 = .ok (.iadd, 1) := by decide +kernel
theorem dX7_comes_54 : decode cX7_comes 54 = .ok (.iload_n 3, 1) := by decide +kernel
theorem dX7_comes_55 : decode cX7_comes 55 = .ok (.iastore, 1) := by decide +kernel
theorem dX7_comes_56 : decode cX7_comes 56 = .ok (.aload_n 0, 1) := by decide +kernel
theorem dX7_comes_57 : decode cX7_comes 57 = .ok (.getfield 13, 3) := by decide +kernel
theorem dX7_comes_60 : decode cX7_comes 60 = .ok (.iload 6, 2) := by decide +kernel
theorem dX7_comes_62 : decode cX7_comes 62 = .ok (.iconst 4, 1) := by decide +kernel
theorem dX7_comes_63 : decode cX7_comes 63 = .ok (.iadd, 1) := by decide +kernel
theorem dX7_comes_64 : decode cX7_comes 64 = .ok (.iload 4, 2) := by decide +kernel
theorem dX7_comes_66 : decode cX7_comes 66 = .ok (.iastore, 1) := by decide +kernel
theorem dX7_comes_67 : decode cX7_comes 67 = .ok (.aload_n 0, 1) := by decide +kernel
theorem dX7_comes_68 : decode cX7_comes 68 = .ok (.getfield 13, 3) := by decide +kernel
theorem dX7_comes_71 : decode cX7_comes 71 = .ok (.iload 6, 2) := by decide +kernel
theorem dX7_comes_73 : decode cX7_comes 73 = .ok (.iconst 5, 1) := by decide +kernel
theorem dX7_comes_74 : decode cX7_comes 74 = .ok (.iadd, 1) := by decide +kernel
theorem dX7_comes_75 : decode cX7_comes 75 = .ok (.iload_n 2, 1) := by decide +kernel
theorem dX7_comes_76 : decode cX7_comes 76 = .ok (.ifCond .ne 13, 3) := by decide +kernel
theorem dX7_comes_79 : decode cX7_comes 79 = .ok (.aload_n 0, 1) := by decide +kernel
theorem dX7_comes_80 : decode cX7_comes 80 = .ok (.getfield 19, 3) := by decide +kernel
theorem dX7_comes_83 : decode cX7_comes 83 = .ok (.iload 4, 2) := by decide +kernel
theorem dX7_comes_85 : decode cX7_comes 85 = .ok (.iaload, 1) := by decide +kernel
theorem dX7_comes_86 : decode cX7_comes 86 = .ok (.goto 4, 3) := by decide +kernel
theorem dX7_comes_89 : decode cX7_comes 89 = .ok (.iconst 0, 1) := by decide +kernel
theorem dX7_comes_90 : decode cX7_comes 90 = .ok (.iastore, 1) := by decide +kernel
theorem dX7_comes_91 : decode cX7_comes 91 = .ok (.aload_n 0, 1) := by decide +kernel
theorem dX7_comes_92 : decode cX7_comes 92 = .ok (.getfield 13, 3) := by decide +kernel
theorem dX7_comes_95 : decode cX7_comes 95 = .ok (.iload 6, 2) := by decide +kernel
theorem dX7_comes_97 : decode cX7_comes 97 = .ok (.bipush 6, 2) := by decide +kernel
theorem dX7_comes_99 : decode cX7_comes 99 = .ok (.iadd, 1) := by decide +kernel
theorem dX7_comes_100 : decode cX7_comes 100 = .ok (.iload 5, 2) := by decide +kernel
theorem dX7_comes_102 : decode cX7_comes 102 = .ok (.iastore, 1) := by decide +kernel
theorem dX7_comes_103 : decode cX7_comes 103 = .ok (.aload_n 0, 1) := by decide +kernel
theorem dX7_comes_104 : decode cX7_comes 104 = .ok (.getfield 13, 3) := by decide +kernel
theorem dX7_comes_107 : decode cX7_comes 107 = .ok (.iload 6, 2) := by decide +kernel
theorem dX7_comes_109 : decode cX7_comes 109 = .ok (.bipush 7, 2) := by decide +kernel
theorem dX7_comes_111 : decode cX7_comes 111 = .ok (.iadd, 1) := by decide +kernel
theorem dX7_comes_112 : decode cX7_comes 112 = .ok (.iconst 0, 1) := by decide +kernel
theorem dX7_comes_113 : decode cX7_comes 113 = .ok (.iastore, 1) := by decide +kernel
theorem dX7_comes_114 : decode cX7_comes 114 = .ok (.aload_n 0, 1) := by decide +kernel
theorem dX7_comes_115 : decode cX7_comes 115 = .ok (.getfield 13, 3) := by decide +kernel
theorem dX7_comes_118 : decode cX7_comes 118 = .ok (.sipush 334, 3) := by decide +kernel
theorem dX7_comes_121 : decode cX7_comes 121 = .ok (.dup2, 1) := by decide +kernel
theorem dX7_comes_122 : decode cX7_comes 122 = .ok (.iaload, 1) := by decide +kernel
theorem dX7_comes_123 : decode cX7_comes 123 = .ok (.iconst 1, 1) := by decide +kernel
theorem dX7_comes_124 : decode cX7_comes 124 = .ok (.iadd, 1) := by decide +kernel
theorem dX7_comes_125 : decode cX7_comes 125 = .ok (.iastore, 1) := by decide +kernel
theorem dX7_comes_126 : decode cX7_comes 126 = .ok (.aload_n 0, 1) := by decide +kernel
theorem dX7_comes_127 : decode cX7_comes 127 = .ok (.iconst 0, 1) := by decide +kernel
theorem dX7_comes_128 : decode cX7_comes 128 = .ok (.putfield 133, 3) := by decide +kernel
theorem dX7_comes_131 : decode cX7_comes 131 = .ok (.return_, 1) := by decide +kernel
theorem dX7_convict_0 : decode cX7_convict 0 = .ok (.iload_n 1, 1) := by decide +kernel
theorem dX7_convict_1 : decode cX7_convict 1 = .ok (.invokestatic 157, 3) := by decide +kernel
theorem dX7_convict_4 : decode cX7_convict 4 = .ok (.ifCond .eq 36, 3) := by decide +kernel
theorem dX7_convict_7 : decode cX7_convict 7 = .ok (.iload_n 2, 1) := by decide +kernel
theorem dX7_convict_8 : decode cX7_convict 8 = .ok (.i2l, 1) := by decide +kernel
theorem dX7_convict_9 : decode cX7_convict 9 = .ok (.lconst 0, 1) := by decide +kernel
theorem dX7_convict_10 : decode cX7_convict 10 = .ok (.aload_n 0, 1) := by decide +kernel
theorem dX7_convict_11 : decode cX7_convict 11 = .ok (.getfield 130, 3) := by decide +kernel
theorem dX7_convict_14 : decode cX7_convict 14 = .ok (.i2l, 1) := by decide +kernel
theorem dX7_convict_15 : decode cX7_convict 15 = .ok (.invokestatic 79, 3) := by decide +kernel
theorem dX7_convict_18 : decode cX7_convict 18 = .ok (.ifCond .eq 22, 3) := by decide +kernel
theorem dX7_convict_21 : decode cX7_convict 21 = .ok (.aload_n 0, 1) := by decide +kernel
theorem dX7_convict_22 : decode cX7_convict 22 = .ok (.iload_n 3, 1) := by decide +kernel
theorem dX7_convict_23 : decode cX7_convict 23 = .ok (.invokevirtual 151, 3) := by decide +kernel
theorem dX7_convict_26 : decode cX7_convict 26 = .ok (.ifCond .eq 14, 3) := by decide +kernel
theorem dX7_convict_29 : decode cX7_convict 29 = .ok (.iload 4, 2) := by decide +kernel
theorem dX7_convict_31 : decode cX7_convict 31 = .ok (.i2l, 1) := by decide +kernel
theorem dX7_convict_32 : decode cX7_convict 32 = .ok (.lconst 0, 1) := by decide +kernel
theorem dX7_convict_33 : decode cX7_convict 33 = .ok (.lconst 1, 1) := by decide +kernel
theorem dX7_convict_34 : decode cX7_convict 34 = .ok (.invokestatic 79, 3) := by decide +kernel
theorem dX7_convict_37 : decode cX7_convict 37 = .ok (.ifCond .ne 5, 3) := by decide +kernel
theorem dX7_convict_40 : decode cX7_convict 40 = .ok (.iconst (-1), 1) := by decide +kernel
theorem dX7_convict_41 : decode cX7_convict 41 = .ok (.ireturn, 1) := by decide +kernel
theorem dX7_convict_42 : decode cX7_convict 42 = .ok (.aload_n 0, 1) := by decide +kernel
theorem dX7_convict_43 : decode cX7_convict 43 = .ok (.getfield 13, 3) := by decide +kernel
theorem dX7_convict_46 : decode cX7_convict 46 = .ok (.sipush 334, 3) := by decide +kernel
theorem dX7_convict_49 : decode cX7_convict 49 = .ok (.iaload, 1) := by decide +kernel
theorem dX7_convict_50 : decode cX7_convict 50 = .ok (.bipush 40, 2) := by decide +kernel
theorem dX7_convict_52 : decode cX7_convict 52 = .ok (.if_icmp .ne 6, 3) := by decide +kernel
theorem dX7_convict_55 : decode cX7_convict 55 = .ok (.bipush (-3), 2) := by decide +kernel
theorem dX7_convict_57 : decode cX7_convict 57 = .ok (.ireturn, 1) := by decide +kernel
theorem dX7_convict_58 : decode cX7_convict 58 = .ok (.aload_n 0, 1) := by decide +kernel
theorem dX7_convict_59 : decode cX7_convict 59 = .ok (.invokevirtual 148, 3) := by decide +kernel
theorem dX7_convict_62 : decode cX7_convict 62 = .ok (.aload_n 0, 1) := by decide +kernel
theorem dX7_convict_63 : decode cX7_convict 63 = .ok (.iload_n 1, 1) := by decide +kernel
theorem dX7_convict_64 : decode cX7_convict 64 = .ok (.iconst 0, 1) := by decide +kernel
theorem dX7_convict_65 : decode cX7_convict 65 = .ok (.iload_n 2, 1) := by decide +kernel
theorem dX7_convict_66 : decode cX7_convict 66 = .ok (.iload_n 3, 1) := by decide +kernel
theorem dX7_convict_67 : decode cX7_convict 67 = .ok (.iload 4, 2) := by decide +kernel
theorem dX7_convict_69 : decode cX7_convict 69 = .ok (.invokevirtual 160, 3) := by decide +kernel
theorem dX7_convict_72 : decode cX7_convict 72 = .ok (.aload_n 0, 1) := by decide +kernel
theorem dX7_convict_73 : decode cX7_convict 73 = .ok (.getfield 13, 3) := by decide +kernel
theorem dX7_convict_76 : decode cX7_convict 76 = .ok (.sipush 334, 3) := by decide +kernel
theorem dX7_convict_79 : decode cX7_convict 79 = .ok (.iaload, 1) := by decide +kernel
theorem dX7_convict_80 : decode cX7_convict 80 = .ok (.iconst 1, 1) := by decide +kernel
theorem dX7_convict_81 : decode cX7_convict 81 = .ok (.isub, 1) := by decide +kernel
theorem dX7_convict_82 : decode cX7_convict 82 = .ok (.ireturn, 1) := by decide +kernel
theorem dX7_wasLight_0 : decode cX7_wasLight 0 = .ok (.iconst 0, 1) := by decide +kernel
theorem dX7_wasLight_1 : decode cX7_wasLight 1 = .ok (.istore_n 2, 1) := by decide +kernel
theorem dX7_wasLight_2 : decode cX7_wasLight 2 = .ok (.iconst 0, 1) := by decide +kernel
theorem dX7_wasLight_3 : decode cX7_wasLight 3 = .ok (.istore_n 3, 1) := by decide +kernel
theorem dX7_wasLight_4 : decode cX7_wasLight 4 = .ok (.iload_n 3, 1) := by decide +kernel
theorem dX7_wasLight_5 : decode cX7_wasLight 5 = .ok (.aload_n 0, 1) := by decide +kernel
theorem dX7_wasLight_6 : decode cX7_wasLight 6 = .ok (.getfield 13, 3) := by decide +kernel
theorem dX7_wasLight_9 : decode cX7_wasLight 9 = .ok (.sipush 334, 3) := by decide +kernel
theorem dX7_wasLight_12 : decode cX7_wasLight 12 = .ok (.iaload, 1) := by decide +kernel
theorem dX7_wasLight_13 : decode cX7_wasLight 13 = .ok (.if_icmp .ge 58, 3) := by decide +kernel
theorem dX7_wasLight_16 : decode cX7_wasLight 16 = .ok (.iload_n 2, 1) := by decide +kernel
theorem dX7_wasLight_17 : decode cX7_wasLight 17 = .ok (.ifCond .ne 42, 3) := by decide +kernel
theorem dX7_wasLight_20 : decode cX7_wasLight 20 = .ok (.aload_n 0, 1) := by decide +kernel
theorem dX7_wasLight_21 : decode cX7_wasLight 21 = .ok (.iload_n 3, 1) := by decide +kernel
theorem dX7_wasLight_22 : decode cX7_wasLight 22 = .ok (.iconst 0, 1) := by decide +kernel
theorem dX7_wasLight_23 : decode cX7_wasLight 23 = .ok (.invokevirtual 164, 3) := by decide +kernel
theorem dX7_wasLight_26 : decode cX7_wasLight 26 = .ok (.iload_n 1, 1) := by decide +kernel
theorem dX7_wasLight_27 : decode cX7_wasLight 27 = .ok (.if_icmp .ne 36, 3) := by decide +kernel
theorem dX7_wasLight_30 : decode cX7_wasLight 30 = .ok (.aload_n 0, 1) := by decide +kernel
theorem dX7_wasLight_31 : decode cX7_wasLight 31 = .ok (.iload_n 3, 1) := by decide +kernel
theorem dX7_wasLight_32 : decode cX7_wasLight 32 = .ok (.iconst 2, 1) := by decide +kernel
theorem dX7_wasLight_33 : decode cX7_wasLight 33 = .ok (.invokevirtual 164, 3) := by decide +kernel
theorem dX7_wasLight_36 : decode cX7_wasLight 36 = .ok (.iconst 1, 1) := by decide +kernel
theorem dX7_wasLight_37 : decode cX7_wasLight 37 = .ok (.if_icmp .ne 26, 3) := by decide +kernel
theorem dX7_wasLight_40 : decode cX7_wasLight 40 = .ok (.aload_n 0, 1) := by decide +kernel
theorem dX7_wasLight_41 : decode cX7_wasLight 41 = .ok (.getfield 130, 3) := by decide +kernel
theorem dX7_wasLight_44 : decode cX7_wasLight 44 = .ok (.aload_n 0, 1) := by decide +kernel
theorem dX7_wasLight_45 : decode cX7_wasLight 45 = .ok (.iload_n 3, 1) := by decide +kernel
theorem dX7_wasLight_46 : decode cX7_wasLight 46 = .ok (.iconst 1, 1) := by decide +kernel
theorem dX7_wasLight_47 : decode cX7_wasLight 47 = .ok (.invokevirtual 164, 3) := by decide +kernel
theorem dX7_wasLight_50 : decode cX7_wasLight 50 = .ok (.isub, 1) := by decide +kernel
theorem dX7_wasLight_51 : decode cX7_wasLight 51 = .ok (.aload_n 0, 1) := by decide +kernel
theorem dX7_wasLight_52 : decode cX7_wasLight 52 = .ok (.iconst 0, 1) := by decide +kernel
theorem dX7_wasLight_53 : decode cX7_wasLight 53 = .ok (.invokevirtual 145, 3) := by decide +kernel
theorem dX7_wasLight_56 : decode cX7_wasLight 56 = .ok (.if_icmp .ge 7, 3) := by decide +kernel
theorem dX7_wasLight_59 : decode cX7_wasLight 59 = .ok (.iconst 1, 1) := by decide +kernel
theorem dX7_wasLight_60 : decode cX7_wasLight 60 = .ok (.goto 4, 3) := by decide +kernel
theorem dX7_wasLight_63 : decode cX7_wasLight 63 = .ok (.iconst 0, 1) := by decide +kernel
theorem dX7_wasLight_64 : decode cX7_wasLight 64 = .ok (.istore_n 2, 1) := by decide +kernel
theorem dX7_wasLight_65 : decode cX7_wasLight 65 = .ok (.iinc 3 1, 3) := by decide +kernel
theorem dX7_wasLight_68 : decode cX7_wasLight 68 = .ok (.goto (-64), 3) := by decide +kernel
theorem dX7_wasLight_71 : decode cX7_wasLight 71 = .ok (.iload_n 2, 1) := by decide +kernel
theorem dX7_wasLight_72 : decode cX7_wasLight 72 = .ok (.ireturn, 1) := by decide +kernel
theorem dX7_course_0 : decode cX7_course 0 = .ok (.iload_n 1, 1) := by decide +kernel
theorem dX7_course_1 : decode cX7_course 1 = .ok (.invokestatic 157, 3) := by decide +kernel
theorem dX7_course_4 : decode cX7_course 4 = .ok (.ifCond .eq 13, 3) := by decide +kernel
theorem dX7_course_7 : decode cX7_course 7 = .ok (.iload_n 2, 1) := by decide +kernel
theorem dX7_course_8 : decode cX7_course 8 = .ok (.i2l, 1) := by decide +kernel
theorem dX7_course_9 : decode cX7_course 9 = .ok (.lconst 0, 1) := by decide +kernel
theorem dX7_course_10 : decode cX7_course 10 = .ok (.lconst 1, 1) := by decide +kernel
theorem dX7_course_11 : decode cX7_course 11 = .ok (.invokestatic 79, 3) := by decide +kernel
theorem dX7_course_14 : decode cX7_course 14 = .ok (.ifCond .ne 5, 3) := by decide +kernel
theorem dX7_course_17 : decode cX7_course 17 = .ok (.iconst (-1), 1) := by decide +kernel
theorem dX7_course_18 : decode cX7_course 18 = .ok (.ireturn, 1) := by decide +kernel
theorem dX7_course_19 : decode cX7_course 19 = .ok (.aload_n 0, 1) := by decide +kernel
theorem dX7_course_20 : decode cX7_course 20 = .ok (.getfield 13, 3) := by decide +kernel
theorem dX7_course_23 : decode cX7_course 23 = .ok (.sipush 334, 3) := by decide +kernel
theorem dX7_course_26 : decode cX7_course 26 = .ok (.iaload, 1) := by decide +kernel
theorem dX7_course_27 : decode cX7_course 27 = .ok (.bipush 40, 2) := by decide +kernel
theorem dX7_course_29 : decode cX7_course 29 = .ok (.if_icmp .ne 6, 3) := by decide +kernel
theorem dX7_course_32 : decode cX7_course 32 = .ok (.bipush (-3), 2) := by decide +kernel
theorem dX7_course_34 : decode cX7_course 34 = .ok (.ireturn, 1) := by decide +kernel
theorem dX7_course_35 : decode cX7_course 35 = .ok (.aload_n 0, 1) := by decide +kernel
theorem dX7_course_36 : decode cX7_course 36 = .ok (.invokevirtual 167, 3) := by decide +kernel
theorem dX7_course_39 : decode cX7_course 39 = .ok (.iload_n 2, 1) := by decide +kernel
theorem dX7_course_40 : decode cX7_course 40 = .ok (.ifCond .ne 14, 3) := by decide +kernel
theorem dX7_course_43 : decode cX7_course 43 = .ok (.aload_n 0, 1) := by decide +kernel
theorem dX7_course_44 : decode cX7_course 44 = .ok (.iload_n 1, 1) := by decide +kernel
theorem dX7_course_45 : decode cX7_course 45 = .ok (.invokevirtual 170, 3) := by decide +kernel
theorem dX7_course_48 : decode cX7_course 48 = .ok (.ifCond .eq 23, 3) := by decide +kernel
theorem dX7_course_51 : decode cX7_course 51 = .ok (.goto 17, 3) := by decide +kernel
theorem dX7_course_54 : decode cX7_course 54 = .ok (.aload_n 0, 1) := by decide +kernel
theorem dX7_course_55 : decode cX7_course 55 = .ok (.iload_n 1, 1) := by decide +kernel
theorem dX7_course_56 : decode cX7_course 56 = .ok (.aload_n 0, 1) := by decide +kernel
theorem dX7_course_57 : decode cX7_course 57 = .ok (.getfield 130, 3) := by decide +kernel
theorem dX7_course_60 : decode cX7_course 60 = .ok (.invokevirtual 173, 3) := by decide +kernel
theorem dX7_course_63 : decode cX7_course 63 = .ok (.bipush (-4), 2) := by decide +kernel
theorem dX7_course_65 : decode cX7_course 65 = .ok (.if_icmp .ne 6, 3) := by decide +kernel
theorem dX7_course_68 : decode cX7_course 68 = .ok (.bipush (-2), 2) := by decide +kernel
theorem dX7_course_70 : decode cX7_course 70 = .ok (.ireturn, 1) := by decide +kernel
theorem dX7_course_71 : decode cX7_course 71 = .ok (.aload_n 0, 1) := by decide +kernel
theorem dX7_course_72 : decode cX7_course 72 = .ok (.invokevirtual 148, 3) := by decide +kernel
theorem dX7_course_75 : decode cX7_course 75 = .ok (.aload_n 0, 1) := by decide +kernel
theorem dX7_course_76 : decode cX7_course 76 = .ok (.iload_n 1, 1) := by decide +kernel
theorem dX7_course_77 : decode cX7_course 77 = .ok (.iload_n 2, 1) := by decide +kernel
theorem dX7_course_78 : decode cX7_course 78 = .ok (.iconst 1, 1) := by decide +kernel
theorem dX7_course_79 : decode cX7_course 79 = .ok (.iadd, 1) := by decide +kernel
theorem dX7_course_80 : decode cX7_course 80 = .ok (.iconst 0, 1) := by decide +kernel
theorem dX7_course_81 : decode cX7_course 81 = .ok (.iconst 0, 1) := by decide +kernel
theorem dX7_course_82 : decode cX7_course 82 = .ok (.iconst 0, 1) := by decide +kernel
theorem dX7_course_83 : decode cX7_course 83 = .ok (.invokevirtual 160, 3) := by decide +kernel
theorem dX7_course_86 : decode cX7_course 86 = .ok (.aload_n 0, 1) := by decide +kernel
theorem dX7_course_87 : decode cX7_course 87 = .ok (.getfield 13, 3) := by decide +kernel
theorem dX7_course_90 : decode cX7_course 90 = .ok (.sipush 334, 3) := by decide +kernel
theorem dX7_course_93 : decode cX7_course 93 = .ok (.iaload, 1) := by decide +kernel
theorem dX7_course_94 : decode cX7_course 94 = .ok (.iconst 1, 1) := by decide +kernel
theorem dX7_course_95 : decode cX7_course 95 = .ok (.isub, 1) := by decide +kernel
theorem dX7_course_96 : decode cX7_course 96 = .ok (.ireturn, 1) := by decide +kernel
theorem dX7_isConviction_0 : decode cX7_isConviction 0 = .ok (.aload_n 0, 1) := by decide +kernel
theorem dX7_isConviction_1 : decode cX7_isConviction 1 = .ok (.iload_n 1, 1) := by decide +kernel
theorem dX7_isConviction_2 : decode cX7_isConviction 2 = .ok (.invokevirtual 176, 3) := by decide +kernel
theorem dX7_isConviction_5 : decode cX7_isConviction 5 = .ok (.ifCond .eq 16, 3) := by decide +kernel
theorem dX7_isConviction_8 : decode cX7_isConviction 8 = .ok (.aload_n 0, 1) := by decide +kernel
theorem dX7_isConviction_9 : decode cX7_isConviction 9 = .ok (.iload_n 1, 1) := by decide +kernel
theorem dX7_isConviction_10 : decode cX7_isConviction 10 = .ok (.iconst 2, 1) := by decide +kernel
theorem dX7_isConviction_11 : decode cX7_isConviction 11 = .ok (.invokevirtual 164, 3) := by decide +kernel
theorem dX7_isConviction_14 : decode cX7_isConviction 14 = .ok (.ifCond .ne 7, 3) := by decide +kernel
theorem dX7_isConviction_17 : decode cX7_isConviction 17 = .ok (.iconst 1, 1) := by decide +kernel
theorem dX7_isConviction_18 : decode cX7_isConviction 18 = .ok (.goto 4, 3) := by decide +kernel
theorem dX7_isConviction_21 : decode cX7_isConviction 21 = .ok (.iconst 0, 1) := by decide +kernel
theorem dX7_isConviction_22 : decode cX7_isConviction 22 = .ok (.ireturn, 1) := by decide +kernel
theorem dX7_retell_0 : decode cX7_retell 0 = .ok (.aload_n 0, 1) := by decide +kernel
theorem dX7_retell_1 : decode cX7_retell 1 = .ok (.iload_n 1, 1) := by decide +kernel
theorem dX7_retell_2 : decode cX7_retell 2 = .ok (.iconst 0, 1) := by decide +kernel
theorem dX7_retell_3 : decode cX7_retell 3 = .ok (.invokevirtual 164, 3) := by decide +kernel
theorem dX7_retell_6 : decode cX7_retell 6 = .ok (.istore 4, 2) := by decide +kernel
theorem dX7_retell_8 : decode cX7_retell 8 = .ok (.aload_n 0, 1) := by decide +kernel
theorem dX7_retell_9 : decode cX7_retell 9 = .ok (.iload 4, 2) := by decide +kernel
theorem dX7_retell_11 : decode cX7_retell 11 = .ok (.invokevirtual 179, 3) := by decide +kernel
theorem dX7_retell_14 : decode cX7_retell 14 = .ok (.istore 5, 2) := by decide +kernel
theorem dX7_retell_16 : decode cX7_retell 16 = .ok (.aload_n 0, 1) := by decide +kernel
theorem dX7_retell_17 : decode cX7_retell 17 = .ok (.invokevirtual 148, 3) := by decide +kernel
theorem dX7_retell_20 : decode cX7_retell 20 = .ok (.aload_n 0, 1) := by decide +kernel
theorem dX7_retell_21 : decode cX7_retell 21 = .ok (.getfield 13, 3) := by decide +kernel
theorem dX7_retell_24 : decode cX7_retell 24 = .ok (.bipush 8, 2) := by decide +kernel
theorem dX7_retell_26 : decode cX7_retell 26 = .ok (.iload_n 1, 1) := by decide +kernel
theorem dX7_retell_27 : decode cX7_retell 27 = .ok (.imul, 1) := by decide +kernel
theorem dX7_retell_28 : decode cX7_retell 28 = .ok (.iload_n 2, 1) := by decide +kernel
theorem dX7_retell_29 : decode cX7_retell 29 = .ok (.iadd, 1) := by decide +kernel
theorem dX7_retell_30 : decode cX7_retell 30 = .ok (.iload_n 3, 1) := by decide +kernel
theorem dX7_retell_31 : decode cX7_retell 31 = .ok (.iastore, 1) := by decide +kernel
theorem dX7_retell_32 : decode cX7_retell 32 = .ok (.aload_n 0, 1) := by decide +kernel
theorem dX7_retell_33 : decode cX7_retell 33 = .ok (.iload 4, 2) := by decide +kernel
theorem dX7_retell_35 : decode cX7_retell 35 = .ok (.invokevirtual 179, 3) := by decide +kernel
theorem dX7_retell_38 : decode cX7_retell 38 = .ok (.iload 5, 2) := by decide +kernel
theorem dX7_retell_40 : decode cX7_retell 40 = .ok (.isub, 1) := by decide +kernel
theorem dX7_retell_41 : decode cX7_retell 41 = .ok (.ldc 182, 2) := by decide +kernel
theorem dX7_retell_43 : decode cX7_retell 43 = .ok (.iadd, 1) := by decide +kernel
theorem dX7_retell_44 : decode cX7_retell 44 = .ok (.ireturn, 1) := by decide +kernel
theorem dX7_strike_0 : decode cX7_strike 0 = .ok (.aload_n 0, 1) := by decide +kernel
theorem dX7_strike_1 : decode cX7_strike 1 = .ok (.iload_n 1, 1) := by decide +kernel
theorem dX7_strike_2 : decode cX7_strike 2 = .ok (.invokevirtual 183, 3) := by decide +kernel
theorem dX7_strike_5 : decode cX7_strike 5 = .ok (.ifCond .ne 5, 3) := by decide +kernel
theorem dX7_strike_8 : decode cX7_strike 8 = .ok (.iconst (-1), 1) := by decide +kernel
theorem dX7_strike_9 : decode cX7_strike 9 = .ok (.ireturn, 1) := by decide +kernel
theorem dX7_strike_10 : decode cX7_strike 10 = .ok (.aload_n 0, 1) := by decide +kernel
theorem dX7_strike_11 : decode cX7_strike 11 = .ok (.iload_n 1, 1) := by decide +kernel
theorem dX7_strike_12 : decode cX7_strike 12 = .ok (.bipush 7, 2) := by decide +kernel
theorem dX7_strike_14 : decode cX7_strike 14 = .ok (.invokevirtual 164, 3) := by decide +kernel
theorem dX7_strike_17 : decode cX7_strike 17 = .ok (.iconst 1, 1) := by decide +kernel
theorem dX7_strike_18 : decode cX7_strike 18 = .ok (.if_icmp .ne 8, 3) := by decide +kernel
theorem dX7_strike_21 : decode cX7_strike 21 = .ok (.bipush (-2), 2) := by decide +kernel
theorem dX7_strike_23 : decode cX7_strike 23 = .ok (.goto 11, 3) := by decide +kernel
theorem dX7_strike_26 : decode cX7_strike 26 = .ok (.aload_n 0, 1) := by decide +kernel
theorem dX7_strike_27 : decode cX7_strike 27 = .ok (.iload_n 1, 1) := by decide +kernel
theorem dX7_strike_28 : decode cX7_strike 28 = .ok (.bipush 7, 2) := by decide +kernel
theorem dX7_strike_30 : decode cX7_strike 30 = .ok (.iconst 1, 1) := by decide +kernel
theorem dX7_strike_31 : decode cX7_strike 31 = .ok (.invokevirtual 186, 3) := by decide +kernel
theorem dX7_strike_34 : decode cX7_strike 34 = .ok (.ireturn, 1) := by decide +kernel
theorem dX7_lower_0 : decode cX7_lower 0 = .ok (.aload_n 0, 1) := by decide +kernel
theorem dX7_lower_1 : decode cX7_lower 1 = .ok (.iload_n 1, 1) := by decide +kernel
theorem dX7_lower_2 : decode cX7_lower 2 = .ok (.invokevirtual 183, 3) := by decide +kernel
theorem dX7_lower_5 : decode cX7_lower 5 = .ok (.ifCond .eq 15, 3) := by decide +kernel
theorem dX7_lower_8 : decode cX7_lower 8 = .ok (.iload_n 2, 1) := by decide +kernel
theorem dX7_lower_9 : decode cX7_lower 9 = .ok (.i2l, 1) := by decide +kernel
theorem dX7_lower_10 : decode cX7_lower 10 = .ok (.lconst 0, 1) := by decide +kernel
theorem dX7_lower_11 : decode cX7_lower 11 = .ok (.ldc2_w 189, 3) := by decide +kernel
theorem dX7_lower_14 : decode cX7_lower 14 = .ok (.invokestatic 79, 3) := by decide +kernel
theorem dX7_lower_17 : decode cX7_lower 17 = .ok (.ifCond .ne 5, 3) := by decide +kernel
theorem dX7_lower_20 : decode cX7_lower 20 = .ok (.iconst (-1), 1) := by decide +kernel
theorem dX7_lower_21 : decode cX7_lower 21 = .ok (.ireturn, 1) := by decide +kernel
theorem dX7_lower_22 : decode cX7_lower 22 = .ok (.aload_n 0, 1) := by decide +kernel
theorem dX7_lower_23 : decode cX7_lower 23 = .ok (.iload_n 1, 1) := by decide +kernel
theorem dX7_lower_24 : decode cX7_lower 24 = .ok (.bipush 7, 2) := by decide +kernel
theorem dX7_lower_26 : decode cX7_lower 26 = .ok (.invokevirtual 164, 3) := by decide +kernel
theorem dX7_lower_29 : decode cX7_lower 29 = .ok (.iconst 1, 1) := by decide +kernel
theorem dX7_lower_30 : decode cX7_lower 30 = .ok (.if_icmp .eq 13, 3) := by decide +kernel
theorem dX7_lower_33 : decode cX7_lower 33 = .ok (.aload_n 0, 1) := by decide +kernel
theorem dX7_lower_34 : decode cX7_lower 34 = .ok (.iload_n 1, 1) := by decide +kernel
theorem dX7_lower_35 : decode cX7_lower 35 = .ok (.iconst 5, 1) := by decide +kernel
theorem dX7_lower_36 : decode cX7_lower 36 = .ok (.invokevirtual 164, 3) := by decide +kernel
theorem dX7_lower_39 : decode cX7_lower 39 = .ok (.iload_n 2, 1) := by decide +kernel
theorem dX7_lower_40 : decode cX7_lower 40 = .ok (.if_icmp .gt 8, 3) := by decide +kernel
theorem dX7_lower_43 : decode cX7_lower 43 = .ok (.bipush (-2), 2) := by decide +kernel
theorem dX7_lower_45 : decode cX7_lower 45 = .ok (.goto 10, 3) := by decide +kernel
theorem dX7_lower_48 : decode cX7_lower 48 = .ok (.aload_n 0, 1) := by decide +kernel
theorem dX7_lower_49 : decode cX7_lower 49 = .ok (.iload_n 1, 1) := by decide +kernel
theorem dX7_lower_50 : decode cX7_lower 50 = .ok (.iconst 5, 1) := by decide +kernel
theorem dX7_lower_51 : decode cX7_lower 51 = .ok (.iload_n 2, 1) := by decide +kernel
theorem dX7_lower_52 : decode cX7_lower 52 = .ok (.invokevirtual 186, 3) := by decide +kernel
theorem dX7_lower_55 : decode cX7_lower 55 = .ok (.ireturn, 1) := by decide +kernel
theorem dX7_redate_0 : decode cX7_redate 0 = .ok (.aload_n 0, 1) := by decide +kernel
theorem dX7_redate_1 : decode cX7_redate 1 = .ok (.iload_n 1, 1) := by decide +kernel
theorem dX7_redate_2 : decode cX7_redate 2 = .ok (.invokevirtual 183, 3) := by decide +kernel
theorem dX7_redate_5 : decode cX7_redate 5 = .ok (.ifCond .eq 19, 3) := by decide +kernel
theorem dX7_redate_8 : decode cX7_redate 8 = .ok (.iload_n 2, 1) := by decide +kernel
theorem dX7_redate_9 : decode cX7_redate 9 = .ok (.i2l, 1) := by decide +kernel
theorem dX7_redate_10 : decode cX7_redate 10 = .ok (.lconst 0, 1) := by decide +kernel
theorem dX7_redate_11 : decode cX7_redate 11 = .ok (.aload_n 0, 1) := by decide +kernel
theorem dX7_redate_12 : decode cX7_redate 12 = .ok (.iload_n 1, 1) := by decide +kernel
theorem dX7_redate_13 : decode cX7_redate 13 = .ok (.iconst 1, 1) := by decide +kernel
theorem dX7_redate_14 : decode cX7_redate 14 = .ok (.invokevirtual 164, 3) := by decide +kernel
theorem dX7_redate_17 : decode cX7_redate 17 = .ok (.i2l, 1) := by decide +kernel
theorem dX7_redate_18 : decode cX7_redate 18 = .ok (.invokestatic 79, 3) := by decide +kernel
theorem dX7_redate_21 : decode cX7_redate 21 = .ok (.ifCond .ne 5, 3) := by decide +kernel
theorem dX7_redate_24 : decode cX7_redate 24 = .ok (.iconst (-1), 1) := by decide +kernel
theorem dX7_redate_25 : decode cX7_redate 25 = .ok (.ireturn, 1) := by decide +kernel
theorem dX7_redate_26 : decode cX7_redate 26 = .ok (.aload_n 0, 1) := by decide +kernel
theorem dX7_redate_27 : decode cX7_redate 27 = .ok (.iload_n 1, 1) := by decide +kernel
theorem dX7_redate_28 : decode cX7_redate 28 = .ok (.bipush 7, 2) := by decide +kernel
theorem dX7_redate_30 : decode cX7_redate 30 = .ok (.invokevirtual 164, 3) := by decide +kernel
theorem dX7_redate_33 : decode cX7_redate 33 = .ok (.iconst 1, 1) := by decide +kernel
theorem dX7_redate_34 : decode cX7_redate 34 = .ok (.if_icmp .eq 13, 3) := by decide +kernel
theorem dX7_redate_37 : decode cX7_redate 37 = .ok (.aload_n 0, 1) := by decide +kernel
theorem dX7_redate_38 : decode cX7_redate 38 = .ok (.iload_n 1, 1) := by decide +kernel
theorem dX7_redate_39 : decode cX7_redate 39 = .ok (.iconst 3, 1) := by decide +kernel
theorem dX7_redate_40 : decode cX7_redate 40 = .ok (.invokevirtual 164, 3) := by decide +kernel
theorem dX7_redate_43 : decode cX7_redate 43 = .ok (.iload_n 2, 1) := by decide +kernel
theorem dX7_redate_44 : decode cX7_redate 44 = .ok (.if_icmp .ne 8, 3) := by decide +kernel
theorem dX7_redate_47 : decode cX7_redate 47 = .ok (.bipush (-2), 2) := by decide +kernel
theorem dX7_redate_49 : decode cX7_redate 49 = .ok (.goto 10, 3) := by decide +kernel
theorem dX7_redate_52 : decode cX7_redate 52 = .ok (.aload_n 0, 1) := by decide +kernel
theorem dX7_redate_53 : decode cX7_redate 53 = .ok (.iload_n 1, 1) := by decide +kernel
theorem dX7_redate_54 : decode cX7_redate 54 = .ok (.iconst 3, 1) := by decide +kernel
theorem dX7_redate_55 : decode cX7_redate 55 = .ok (.iload_n 2, 1) := by decide +kernel
theorem dX7_redate_56 : decode cX7_redate 56 = .ok (.invokevirtual 186, 3) := by decide +kernel
theorem dX7_redate_59 : decode cX7_redate 59 = .ok (.ireturn, 1) := by decide +kernel
theorem dX7_excuse_0 : decode cX7_excuse 0 = .ok (.aload_n 0, 1) := by decide +kernel
theorem dX7_excuse_1 : decode cX7_excuse 1 = .ok (.iload_n 1, 1) := by decide +kernel
theorem dX7_excuse_2 : decode cX7_excuse 2 = .ok (.invokevirtual 183, 3) := by decide +kernel
theorem dX7_excuse_5 : decode cX7_excuse 5 = .ok (.ifCond .ne 5, 3) := by decide +kernel
theorem dX7_excuse_8 : decode cX7_excuse 8 = .ok (.iconst (-1), 1) := by decide +kernel
theorem dX7_excuse_9 : decode cX7_excuse 9 = .ok (.ireturn, 1) := by decide +kernel
theorem dX7_excuse_10 : decode cX7_excuse 10 = .ok (.aload_n 0, 1) := by decide +kernel
theorem dX7_excuse_11 : decode cX7_excuse 11 = .ok (.iload_n 1, 1) := by decide +kernel
theorem dX7_excuse_12 : decode cX7_excuse 12 = .ok (.bipush 7, 2) := by decide +kernel
theorem dX7_excuse_14 : decode cX7_excuse 14 = .ok (.invokevirtual 164, 3) := by decide +kernel
theorem dX7_excuse_17 : decode cX7_excuse 17 = .ok (.iconst 1, 1) := by decide +kernel
theorem dX7_excuse_18 : decode cX7_excuse 18 = .ok (.if_icmp .ne 8, 3) := by decide +kernel
theorem dX7_excuse_21 : decode cX7_excuse 21 = .ok (.bipush (-2), 2) := by decide +kernel
theorem dX7_excuse_23 : decode cX7_excuse 23 = .ok (.goto 19, 3) := by decide +kernel
theorem dX7_excuse_26 : decode cX7_excuse 26 = .ok (.aload_n 0, 1) := by decide +kernel
theorem dX7_excuse_27 : decode cX7_excuse 27 = .ok (.iload_n 1, 1) := by decide +kernel
theorem dX7_excuse_28 : decode cX7_excuse 28 = .ok (.bipush 6, 2) := by decide +kernel
theorem dX7_excuse_30 : decode cX7_excuse 30 = .ok (.iconst 1, 1) := by decide +kernel
theorem dX7_excuse_31 : decode cX7_excuse 31 = .ok (.aload_n 0, 1) := by decide +kernel
theorem dX7_excuse_32 : decode cX7_excuse 32 = .ok (.iload_n 1, 1) := by decide +kernel
theorem dX7_excuse_33 : decode cX7_excuse 33 = .ok (.bipush 6, 2) := by decide +kernel
theorem dX7_excuse_35 : decode cX7_excuse 35 = .ok (.invokevirtual 164, 3) := by decide +kernel
theorem dX7_excuse_38 : decode cX7_excuse 38 = .ok (.isub, 1) := by decide +kernel
theorem dX7_excuse_39 : decode cX7_excuse 39 = .ok (.invokevirtual 186, 3) := by decide +kernel
theorem dX7_excuse_42 : decode cX7_excuse 42 = .ok (.ireturn, 1) := by decide +kernel
theorem dX7_undo_0 : decode cX7_undo 0 = .ok (.aload_n 0, 1) := by decide +kernel
theorem dX7_undo_1 : decode cX7_undo 1 = .ok (.getfield 127, 3) := by decide +kernel
theorem dX7_undo_4 : decode cX7_undo 4 = .ok (.ifCond .ne 6, 3) := by decide +kernel
theorem dX7_undo_7 : decode cX7_undo 7 = .ok (.bipush (-2), 2) := by decide +kernel
theorem dX7_undo_9 : decode cX7_undo 9 = .ok (.ireturn, 1) := by decide +kernel
theorem dX7_undo_10 : decode cX7_undo 10 = .ok (.aload_n 0, 1) := by decide +kernel
theorem dX7_undo_11 : decode cX7_undo 11 = .ok (.dup, 1) := by decide +kernel
theorem dX7_undo_12 : decode cX7_undo 12 = .ok (.getfield 127, 3) := by decide +kernel
theorem dX7_undo_15 : decode cX7_undo 15 = .ok (.iconst 1, 1) := by decide +kernel
theorem dX7_undo_16 : decode cX7_undo 16 = .ok (.isub, 1) := by decide +kernel
theorem dX7_undo_17 : decode cX7_undo 17 = .ok (.putfield 127, 3) := by decide +kernel
theorem dX7_undo_20 : decode cX7_undo 20 = .ok (.iconst 0, 1) := by decide +kernel
theorem dX7_undo_21 : decode cX7_undo 21 = .ok (.istore_n 1, 1) := by decide +kernel
theorem dX7_undo_22 : decode cX7_undo 22 = .ok (.iload_n 1, 1) := by decide +kernel
theorem dX7_undo_23 : decode cX7_undo 23 = .ok (.sipush 335, 3) := by decide +kernel
theorem dX7_undo_26 : decode cX7_undo 26 = .ok (.if_icmp .ge 30, 3) := by decide +kernel
theorem dX7_undo_29 : decode cX7_undo 29 = .ok (.aload_n 0, 1) := by decide +kernel
theorem dX7_undo_30 : decode cX7_undo 30 = .ok (.getfield 13, 3) := by decide +kernel
theorem dX7_undo_33 : decode cX7_undo 33 = .ok (.iload_n 1, 1) := by decide +kernel
theorem dX7_undo_34 : decode cX7_undo 34 = .ok (.aload_n 0, 1) := by decide +kernel
theorem dX7_undo_35 : decode cX7_undo 35 = .ok (.getfield 16, 3) := by decide +kernel
theorem dX7_undo_38 : decode cX7_undo 38 = .ok (.sipush 335, 3) := by decide +kernel
theorem dX7_undo_41 : decode cX7_undo 41 = .ok (.aload_n 0, 1) := by decide +kernel
theorem dX7_undo_42 : decode cX7_undo 42 = .ok (.getfield 127, 3) := by decide +kernel
theorem dX7_undo_45 : decode cX7_undo 45 = .ok (.imul, 1) := by decide +kernel
theorem dX7_undo_46 : decode cX7_undo 46 = .ok (.iload_n 1, 1) := by decide +kernel
theorem dX7_undo_47 : decode cX7_undo 47 = .ok (.iadd, 1) := by decide +kernel
theorem dX7_undo_48 : decode cX7_undo 48 = .ok (.iaload, 1) := by decide +kernel
theorem dX7_undo_49 : decode cX7_undo 49 = .ok (.iastore, 1) := by decide +kernel
theorem dX7_undo_50 : decode cX7_undo 50 = .ok (.iinc 1 1, 3) := by decide +kernel
theorem dX7_undo_53 : decode cX7_undo 53 = .ok (.goto (-31), 3) := by decide +kernel
theorem dX7_undo_56 : decode cX7_undo 56 = .ok (.aload_n 0, 1) := by decide +kernel
theorem dX7_undo_57 : decode cX7_undo 57 = .ok (.iconst 0, 1) := by decide +kernel
theorem dX7_undo_58 : decode cX7_undo 58 = .ok (.putfield 133, 3) := by decide +kernel
theorem dX7_undo_61 : decode cX7_undo 61 = .ok (.aload_n 0, 1) := by decide +kernel
theorem dX7_undo_62 : decode cX7_undo 62 = .ok (.getfield 127, 3) := by decide +kernel
theorem dX7_undo_65 : decode cX7_undo 65 = .ok (.ireturn, 1) := by decide +kernel
theorem dX7_year_0 : decode cX7_year 0 = .ok (.iload_n 1, 1) := by decide +kernel
theorem dX7_year_1 : decode cX7_year 1 = .ok (.i2l, 1) := by decide +kernel
theorem dX7_year_2 : decode cX7_year 2 = .ok (.lconst 0, 1) := by decide +kernel
theorem dX7_year_3 : decode cX7_year 3 = .ok (.ldc2_w 155, 3) := by decide +kernel
theorem dX7_year_6 : decode cX7_year 6 = .ok (.invokestatic 79, 3) := by decide +kernel
theorem dX7_year_9 : decode cX7_year 9 = .ok (.ifCond .eq 15, 3) := by decide +kernel
theorem dX7_year_12 : decode cX7_year 12 = .ok (.iload_n 2, 1) := by decide +kernel
theorem dX7_year_13 : decode cX7_year 13 = .ok (.i2l, 1) := by decide +kernel
theorem dX7_year_14 : decode cX7_year 14 = .ok (.lconst 1, 1) := by decide +kernel
theorem dX7_year_15 : decode cX7_year 15 = .ok (.ldc2_w 191, 3) := by decide +kernel
theorem dX7_year_18 : decode cX7_year 18 = .ok (.invokestatic 79, 3) := by decide +kernel
theorem dX7_year_21 : decode cX7_year 21 = .ok (.ifCond .ne 5, 3) := by decide +kernel
theorem dX7_year_24 : decode cX7_year 24 = .ok (.iconst (-1), 1) := by decide +kernel
theorem dX7_year_25 : decode cX7_year 25 = .ok (.ireturn, 1) := by decide +kernel
theorem dX7_year_26 : decode cX7_year 26 = .ok (.iconst 0, 1) := by decide +kernel
theorem dX7_year_27 : decode cX7_year 27 = .ok (.istore_n 3, 1) := by decide +kernel
theorem dX7_year_28 : decode cX7_year 28 = .ok (.iconst 0, 1) := by decide +kernel
theorem dX7_year_29 : decode cX7_year 29 = .ok (.istore 4, 2) := by decide +kernel
theorem dX7_year_31 : decode cX7_year 31 = .ok (.iload 4, 2) := by decide +kernel
theorem dX7_year_33 : decode cX7_year 33 = .ok (.iload_n 2, 1) := by decide +kernel
theorem dX7_year_34 : decode cX7_year 34 = .ok (.if_icmp .ge 145, 3) := by decide +kernel
theorem dX7_year_37 : decode cX7_year 37 = .ok (.ldc2_w 193, 3) := by decide +kernel
theorem dX7_year_40 : decode cX7_year 40 = .ok (.iload_n 1, 1) := by decide +kernel
theorem dX7_year_41 : decode cX7_year 41 = .ok (.i2l, 1) := by decide +kernel
theorem dX7_year_42 : decode cX7_year 42 = .ok (.lmul, 1) := by decide +kernel
theorem dX7_year_43 : decode cX7_year 43 = .ok (.ldc2_w 195, 3) := by decide +kernel
theorem dX7_year_46 : decode cX7_year 46 = .ok (.iload 4, 2) := by decide +kernel
theorem dX7_year_48 : decode cX7_year 48 = .ok (.i2l, 1) := by decide +kernel
theorem dX7_year_49 : decode cX7_year 49 = .ok (.lmul, 1) := by decide +kernel
theorem dX7_year_50 : decode cX7_year 50 = .ok (.ladd, 1) := by decide +kernel
theorem dX7_year_51 : decode cX7_year 51 = .ok (.lconst 1, 1) := by decide +kernel
theorem dX7_year_52 : decode cX7_year 52 = .ok (.ladd, 1) := by decide +kernel
theorem dX7_year_53 : decode cX7_year 53 = .ok (.lstore 5, 2) := by decide +kernel
theorem dX7_year_55 : decode cX7_year 55 = .ok (.lload 5, 2) := by decide +kernel
theorem dX7_year_57 : decode cX7_year 57 = .ok (.lload 5, 2) := by decide +kernel
theorem dX7_year_59 : decode cX7_year 59 = .ok (.lmul, 1) := by decide +kernel
theorem dX7_year_60 : decode cX7_year 60 = .ok (.ldc2_w 197, 3) := by decide +kernel
theorem dX7_year_63 : decode cX7_year 63 = .ok (.lrem, 1) := by decide +kernel
theorem dX7_year_64 : decode cX7_year 64 = .ok (.l2i, 1) := by decide +kernel
theorem dX7_year_65 : decode cX7_year 65 = .ok (.istore 7, 2) := by decide +kernel
theorem dX7_year_67 : decode cX7_year 67 = .ok (.aload_n 0, 1) := by decide +kernel
theorem dX7_year_68 : decode cX7_year 68 = .ok (.aload_n 0, 1) := by decide +kernel
theorem dX7_year_69 : decode cX7_year 69 = .ok (.getfield 130, 3) := by decide +kernel
theorem dX7_year_72 : decode cX7_year 72 = .ok (.iload 7, 2) := by decide +kernel
theorem dX7_year_74 : decode cX7_year 74 = .ok (.bipush 16, 2) := by decide +kernel
theorem dX7_year_76 : decode cX7_year 76 = .ok (.irem, 1) := by decide +kernel
theorem dX7_year_77 : decode cX7_year 77 = .ok (.iadd, 1) := by decide +kernel
theorem dX7_year_78 : decode cX7_year 78 = .ok (.sipush 9999, 3) := by decide +kernel
theorem dX7_year_81 : decode cX7_year 81 = .ok (.if_icmp .le 9, 3) := by decide +kernel
theorem dX7_year_84 : decode cX7_year 84 = .ok (.sipush 9999, 3) := by decide +kernel
theorem dX7_year_87 : decode cX7_year 87 = .ok (.goto 13, 3) := by decide +kernel
theorem dX7_year_90 : decode cX7_year 90 = .ok (.aload_n 0, 1) := by decide +kernel
theorem dX7_year_91 : decode cX7_year 91 = .ok (.getfield 130, 3) := by decide +kernel
theorem dX7_year_94 : decode cX7_year 94 = .ok (.iload 7, 2) := by decide +kernel
theorem dX7_year_96 : decode cX7_year 96 = .ok (.bipush 16, 2) := by decide +kernel
theorem dX7_year_98 : decode cX7_year 98 = .ok (.irem, 1) := by decide +kernel
theorem dX7_year_99 : decode cX7_year 99 = .ok (.iadd, 1) := by decide +kernel
theorem dX7_year_100 : decode cX7_year 100 = .ok (.putfield 130, 3) := by decide +kernel
theorem dX7_year_103 : decode cX7_year 103 = .ok (.aload_n 0, 1) := by decide +kernel
theorem dX7_year_104 : decode cX7_year 104 = .ok (.getfield 130, 3) := by decide +kernel
theorem dX7_year_107 : decode cX7_year 107 = .ok (.iload 7, 2) := by decide +kernel
theorem dX7_year_109 : decode cX7_year 109 = .ok (.sipush 256, 3) := by decide +kernel
theorem dX7_year_112 : decode cX7_year 112 = .ok (.idiv, 1) := by decide +kernel
theorem dX7_year_113 : decode cX7_year 113 = .ok (.bipush 32, 2) := by decide +kernel
theorem dX7_year_115 : decode cX7_year 115 = .ok (.irem, 1) := by decide +kernel
theorem dX7_year_116 : decode cX7_year 116 = .ok (.isub, 1) := by decide +kernel
theorem dX7_year_117 : decode cX7_year 117 = .ok (.istore 8, 2) := by decide +kernel
theorem dX7_year_119 : decode cX7_year 119 = .ok (.aload_n 0, 1) := by decide +kernel
theorem dX7_year_120 : decode cX7_year 120 = .ok (.getfield 13, 3) := by decide +kernel
theorem dX7_year_123 : decode cX7_year 123 = .ok (.sipush 334, 3) := by decide +kernel
theorem dX7_year_126 : decode cX7_year 126 = .ok (.iaload, 1) := by decide +kernel
theorem dX7_year_127 : decode cX7_year 127 = .ok (.bipush 40, 2) := by decide +kernel
theorem dX7_year_129 : decode cX7_year 129 = .ok (.if_icmp .ge 44, 3) := by decide +kernel
theorem dX7_year_132 : decode cX7_year 132 = .ok (.aload_n 0, 1) := by decide +kernel
theorem dX7_year_133 : decode cX7_year 133 = .ok (.invokevirtual 148, 3) := by decide +kernel
theorem dX7_year_136 : decode cX7_year 136 = .ok (.aload_n 0, 1) := by decide +kernel
theorem dX7_year_137 : decode cX7_year 137 = .ok (.iload 7, 2) := by decide +kernel
theorem dX7_year_139 : decode cX7_year 139 = .ok (.bipush 16, 2) := by decide +kernel
theorem dX7_year_141 : decode cX7_year 141 = .ok (.idiv, 1) := by decide +kernel
theorem dX7_year_142 : decode cX7_year 142 = .ok (.iconst 4, 1) := by decide +kernel
theorem dX7_year_143 : decode cX7_year 143 = .ok (.irem, 1) := by decide +kernel
theorem dX7_year_144 : decode cX7_year 144 = .ok (.iconst 0, 1) := by decide +kernel
theorem dX7_year_145 : decode cX7_year 145 = .ok (.iload 8, 2) := by decide +kernel
theorem dX7_year_147 : decode cX7_year 147 = .ok (.ifCond .ge 7, 3) := by decide +kernel
theorem dX7_year_150 : decode cX7_year 150 = .ok (.iconst 0, 1) := by decide +kernel
theorem dX7_year_151 : decode cX7_year 151 = .ok (.goto 5, 3) := by decide +kernel
theorem dX7_year_154 : decode cX7_year 154 = .ok (.iload 8, 2) := by decide +kernel
theorem dX7_year_156 : decode cX7_year 156 = .ok (.iload 7, 2) := by decide +kernel
theorem dX7_year_158 : decode cX7_year 158 = .ok (.bipush 64, 2) := by decide +kernel
theorem dX7_year_160 : decode cX7_year 160 = .ok (.idiv, 1) := by decide +kernel
theorem dX7_year_161 : decode cX7_year 161 = .ok (.aload_n 0, 1) := by decide +kernel
theorem dX7_year_162 : decode cX7_year 162 = .ok (.getfield 124, 3) := by decide +kernel
theorem dX7_year_165 : decode cX7_year 165 = .ok (.irem, 1) := by decide +kernel
theorem dX7_year_166 : decode cX7_year 166 = .ok (.iconst 0, 1) := by decide +kernel
theorem dX7_year_167 : decode cX7_year 167 = .ok (.invokevirtual 160, 3) := by decide +kernel
theorem dX7_year_170 : decode cX7_year 170 = .ok (.iinc 3 1, 3) := by decide +kernel
theorem dX7_year_173 : decode cX7_year 173 = .ok (.iinc 4 1, 3) := by decide +kernel
theorem dX7_year_176 : decode cX7_year 176 = .ok (.goto (-145), 3) := by decide +kernel
theorem dX7_year_179 : decode cX7_year 179 = .ok (.iload_n 3, 1) := by decide +kernel
theorem dX7_year_180 : decode cX7_year 180 = .ok (.ireturn, 1) := by decide +kernel
theorem dX7_lastOf_0 : decode cX7_lastOf 0 = .ok (.aload_n 0, 1) := by decide +kernel
theorem dX7_lastOf_1 : decode cX7_lastOf 1 = .ok (.getfield 46, 3) := by decide +kernel
theorem dX7_lastOf_4 : decode cX7_lastOf 4 = .ok (.iload_n 1, 1) := by decide +kernel
theorem dX7_lastOf_5 : decode cX7_lastOf 5 = .ok (.iaload, 1) := by decide +kernel
theorem dX7_lastOf_6 : decode cX7_lastOf 6 = .ok (.aload_n 0, 1) := by decide +kernel
theorem dX7_lastOf_7 : decode cX7_lastOf 7 = .ok (.getfield 49, 3) := by decide +kernel
theorem dX7_lastOf_10 : decode cX7_lastOf 10 = .ok (.iload_n 1, 1) := by decide +kernel
theorem dX7_lastOf_11 : decode cX7_lastOf 11 = .ok (.iaload, 1) := by decide +kernel
theorem dX7_lastOf_12 : decode cX7_lastOf 12 = .ok (.iadd, 1) := by decide +kernel
theorem dX7_lastOf_13 : decode cX7_lastOf 13 = .ok (.iconst 1, 1) := by decide +kernel
theorem dX7_lastOf_14 : decode cX7_lastOf 14 = .ok (.isub, 1) := by decide +kernel
theorem dX7_lastOf_15 : decode cX7_lastOf 15 = .ok (.ireturn, 1) := by decide +kernel
theorem dX7_isBanned_0 : decode cX7_isBanned 0 = .ok (.iconst 0, 1) := by decide +kernel
theorem dX7_isBanned_1 : decode cX7_isBanned 1 = .ok (.istore_n 3, 1) := by decide +kernel
theorem dX7_isBanned_2 : decode cX7_isBanned 2 = .ok (.iconst 0, 1) := by decide +kernel
theorem dX7_isBanned_3 : decode cX7_isBanned 3 = .ok (.istore 4, 2) := by decide +kernel
theorem dX7_isBanned_5 : decode cX7_isBanned 5 = .ok (.iload 4, 2) := by decide +kernel
theorem dX7_isBanned_7 : decode cX7_isBanned 7 = .ok (.aload_n 0, 1) := by decide +kernel
theorem dX7_isBanned_8 : decode cX7_isBanned 8 = .ok (.getfield 199, 3) := by decide +kernel
theorem dX7_isBanned_11 : decode cX7_isBanned 11 = .ok (.if_icmp .ge 53, 3) := by decide +kernel
theorem dX7_isBanned_14 : decode cX7_isBanned 14 = .ok (.iload_n 3, 1) := by decide +kernel
theorem dX7_isBanned_15 : decode cX7_isBanned 15 = .ok (.ifCond .ne 37, 3) := by decide +kernel
theorem dX7_isBanned_18 : decode cX7_isBanned 18 = .ok (.aload_n 0, 1) := by decide +kernel
theorem dX7_isBanned_19 : decode cX7_isBanned 19 = .ok (.getfield 43, 3) := by decide +kernel
theorem dX7_isBanned_22 : decode cX7_isBanned 22 = .ok (.iload 4, 2) := by decide +kernel
theorem dX7_isBanned_24 : decode cX7_isBanned 24 = .ok (.iaload, 1) := by decide +kernel
theorem dX7_isBanned_25 : decode cX7_isBanned 25 = .ok (.iload_n 1, 1) := by decide +kernel
theorem dX7_isBanned_26 : decode cX7_isBanned 26 = .ok (.if_icmp .ne 30, 3) := by decide +kernel
theorem dX7_isBanned_29 : decode cX7_isBanned 29 = .ok (.iload_n 2, 1) := by decide +kernel
theorem dX7_isBanned_30 : decode cX7_isBanned 30 = .ok (.i2l, 1) := by decide +kernel
theorem dX7_isBanned_31 : decode cX7_isBanned 31 = .ok (.aload_n 0, 1) := by decide +kernel
theorem dX7_isBanned_32 : decode cX7_isBanned 32 = .ok (.getfield 46, 3) := by decide +kernel
theorem dX7_isBanned_35 : decode cX7_isBanned 35 = .ok (.iload 4, 2) := by decide +kernel
theorem dX7_isBanned_37 : decode cX7_isBanned 37 = .ok (.iaload, 1) := by decide +kernel
theorem dX7_isBanned_38 : decode cX7_isBanned 38 = .ok (.i2l, 1) := by decide +kernel
theorem dX7_isBanned_39 : decode cX7_isBanned 39 = .ok (.aload_n 0, 1) := by decide +kernel
theorem dX7_isBanned_40 : decode cX7_isBanned 40 = .ok (.iload 4, 2) := by decide +kernel
theorem dX7_isBanned_42 : decode cX7_isBanned 42 = .ok (.invokevirtual 202, 3) := by decide +kernel
theorem dX7_isBanned_45 : decode cX7_isBanned 45 = .ok (.i2l, 1) := by decide +kernel
theorem dX7_isBanned_46 : decode cX7_isBanned 46 = .ok (.invokestatic 79, 3) := by decide +kernel
theorem dX7_isBanned_49 : decode cX7_isBanned 49 = .ok (.ifCond .eq 7, 3) := by decide +kernel
theorem dX7_isBanned_52 : decode cX7_isBanned 52 = .ok (.iconst 1, 1) := by decide +kernel
theorem dX7_isBanned_53 : decode cX7_isBanned 53 = .ok (.goto 4, 3) := by decide +kernel
theorem dX7_isBanned_56 : decode cX7_isBanned 56 = .ok (.iconst 0, 1) := by decide +kernel
theorem dX7_isBanned_57 : decode cX7_isBanned 57 = .ok (.istore_n 3, 1) := by decide +kernel
theorem dX7_isBanned_58 : decode cX7_isBanned 58 = .ok (.iinc 4 1, 3) := by decide +kernel
theorem dX7_isBanned_61 : decode cX7_isBanned 61 = .ok (.goto (-56), 3) := by decide +kernel
theorem dX7_isBanned_64 : decode cX7_isBanned 64 = .ok (.iload_n 3, 1) := by decide +kernel
theorem dX7_isBanned_65 : decode cX7_isBanned 65 = .ok (.ireturn, 1) := by decide +kernel
theorem dX7_gives_0 : decode cX7_gives 0 = .ok (.aload_n 0, 1) := by decide +kernel
theorem dX7_gives_1 : decode cX7_gives 1 = .ok (.getfield 43, 3) := by decide +kernel
theorem dX7_gives_4 : decode cX7_gives 4 = .ok (.aload_n 0, 1) := by decide +kernel
theorem dX7_gives_5 : decode cX7_gives 5 = .ok (.getfield 199, 3) := by decide +kernel
theorem dX7_gives_8 : decode cX7_gives 8 = .ok (.iload_n 1, 1) := by decide +kernel
theorem dX7_gives_9 : decode cX7_gives 9 = .ok (.iastore, 1) := by decide +kernel
theorem dX7_gives_10 : decode cX7_gives 10 = .ok (.aload_n 0, 1) := by decide +kernel
theorem dX7_gives_11 : decode cX7_gives 11 = .ok (.getfield 46, 3) := by decide +kernel
theorem dX7_gives_14 : decode cX7_gives 14 = .ok (.aload_n 0, 1) := by decide +kernel
theorem dX7_gives_15 : decode cX7_gives 15 = .ok (.getfield 199, 3) := by decide +kernel
theorem dX7_gives_18 : decode cX7_gives 18 = .ok (.iload_n 2, 1) := by decide +kernel
theorem dX7_gives_19 : decode cX7_gives 19 = .ok (.iastore, 1) := by decide +kernel
theorem dX7_gives_20 : decode cX7_gives 20 = .ok (.aload_n 0, 1) := by decide +kernel
theorem dX7_gives_21 : decode cX7_gives 21 = .ok (.getfield 49, 3) := by decide +kernel
theorem dX7_gives_24 : decode cX7_gives 24 = .ok (.aload_n 0, 1) := by decide +kernel
theorem dX7_gives_25 : decode cX7_gives 25 = .ok (.getfield 199, 3) := by decide +kernel
theorem dX7_gives_28 : decode cX7_gives 28 = .ok (.iload_n 3, 1) := by decide +kernel
theorem dX7_gives_29 : decode cX7_gives 29 = .ok (.iastore, 1) := by decide +kernel
theorem dX7_gives_30 : decode cX7_gives 30 = .ok (.aload_n 0, 1) := by decide +kernel
theorem dX7_gives_31 : decode cX7_gives 31 = .ok (.getfield 52, 3) := by decide +kernel
theorem dX7_gives_34 : decode cX7_gives 34 = .ok (.aload_n 0, 1) := by decide +kernel
theorem dX7_gives_35 : decode cX7_gives 35 = .ok (.getfield 199, 3) := by decide +kernel
theorem dX7_gives_38 : decode cX7_gives 38 = .ok (.iload 4, 2) := by decide +kernel
theorem dX7_gives_40 : decode cX7_gives 40 = .ok (.iastore, 1) := by decide +kernel
theorem dX7_gives_41 : decode cX7_gives 41 = .ok (.aload_n 0, 1) := by decide +kernel
theorem dX7_gives_42 : decode cX7_gives 42 = .ok (.getfield 55, 3) := by decide +kernel
theorem dX7_gives_45 : decode cX7_gives 45 = .ok (.aload_n 0, 1) := by decide +kernel
theorem dX7_gives_46 : decode cX7_gives 46 = .ok (.getfield 199, 3) := by decide +kernel
theorem dX7_gives_49 : decode cX7_gives 49 = .ok (.iload 5, 2) := by decide +kernel
theorem dX7_gives_51 : decode cX7_gives 51 = .ok (.iastore, 1) := by decide +kernel
theorem dX7_gives_52 : decode cX7_gives 52 = .ok (.aload_n 0, 1) := by decide +kernel
theorem dX7_gives_53 : decode cX7_gives 53 = .ok (.getfield 58, 3) := by decide +kernel
theorem dX7_gives_56 : decode cX7_gives 56 = .ok (.aload_n 0, 1) := by decide +kernel
theorem dX7_gives_57 : decode cX7_gives 57 = .ok (.getfield 199, 3) := by decide +kernel
theorem dX7_gives_60 : decode cX7_gives 60 = .ok (.iconst 0, 1) := by decide +kernel
theorem dX7_gives_61 : decode cX7_gives 61 = .ok (.iastore, 1) := by decide +kernel
theorem dX7_gives_62 : decode cX7_gives 62 = .ok (.aload_n 0, 1) := by decide +kernel
theorem dX7_gives_63 : decode cX7_gives 63 = .ok (.dup, 1) := by decide +kernel
theorem dX7_gives_64 : decode cX7_gives 64 = .ok (.getfield 199, 3) := by decide +kernel
theorem dX7_gives_67 : decode cX7_gives 67 = .ok (.iconst 1, 1) := by decide +kernel
theorem dX7_gives_68 : decode cX7_gives 68 = .ok (.iadd, 1) := by decide +kernel
theorem dX7_gives_69 : decode cX7_gives 69 = .ok (.putfield 199, 3) := by decide +kernel
theorem dX7_gives_72 : decode cX7_gives 72 = .ok (.return_, 1) := by decide +kernel
theorem dX7_countOf_0 : decode cX7_countOf 0 = .ok (.aload_n 0, 1) := by decide +kernel
theorem dX7_countOf_1 : decode cX7_countOf 1 = .ok (.getfield 37, 3) := by decide +kernel
theorem dX7_countOf_4 : decode cX7_countOf 4 = .ok (.iload_n 1, 1) := by decide +kernel
theorem dX7_countOf_5 : decode cX7_countOf 5 = .ok (.iaload, 1) := by decide +kernel
theorem dX7_countOf_6 : decode cX7_countOf 6 = .ok (.iconst 1, 1) := by decide +kernel
theorem dX7_countOf_7 : decode cX7_countOf 7 = .ok (.if_icmp .eq 24, 3) := by decide +kernel
theorem dX7_countOf_10 : decode cX7_countOf 10 = .ok (.aload_n 0, 1) := by decide +kernel
theorem dX7_countOf_11 : decode cX7_countOf 11 = .ok (.iload_n 1, 1) := by decide +kernel
theorem dX7_countOf_12 : decode cX7_countOf 12 = .ok (.bipush 7, 2) := by decide +kernel
theorem dX7_countOf_14 : decode cX7_countOf 14 = .ok (.invokevirtual 164, 3) := by decide +kernel
theorem dX7_countOf_17 : decode cX7_countOf 17 = .ok (.iconst 1, 1) := by decide +kernel
theorem dX7_countOf_18 : decode cX7_countOf 18 = .ok (.if_icmp .eq 13, 3) := by decide +kernel
theorem dX7_countOf_21 : decode cX7_countOf 21 = .ok (.aload_n 0, 1) := by decide +kernel
theorem dX7_countOf_22 : decode cX7_countOf 22 = .ok (.iload_n 1, 1) := by decide +kernel
theorem dX7_countOf_23 : decode cX7_countOf 23 = .ok (.iconst 2, 1) := by decide +kernel
theorem dX7_countOf_24 : decode cX7_countOf 24 = .ok (.invokevirtual 164, 3) := by decide +kernel
theorem dX7_countOf_27 : decode cX7_countOf 27 = .ok (.iconst 2, 1) := by decide +kernel
theorem dX7_countOf_28 : decode cX7_countOf 28 = .ok (.if_icmp .ne 5, 3) := by decide +kernel
theorem dX7_countOf_31 : decode cX7_countOf 31 = .ok (.iconst 0, 1) := by decide +kernel
theorem dX7_countOf_32 : decode cX7_countOf 32 = .ok (.ireturn, 1) := by decide +kernel
theorem dX7_countOf_33 : decode cX7_countOf 33 = .ok (.aload_n 0, 1) := by decide +kernel
theorem dX7_countOf_34 : decode cX7_countOf 34 = .ok (.iload_n 1, 1) := by decide +kernel
theorem dX7_countOf_35 : decode cX7_countOf 35 = .ok (.iconst 2, 1) := by decide +kernel
theorem dX7_countOf_36 : decode cX7_countOf 36 = .ok (.invokevirtual 164, 3) := by decide +kernel
theorem dX7_countOf_39 : decode cX7_countOf 39 = .ok (.iconst 1, 1) := by decide +kernel
theorem dX7_countOf_40 : decode cX7_countOf 40 = .ok (.if_icmp .ne 8, 3) := by decide +kernel
theorem dX7_countOf_43 : decode cX7_countOf 43 = .ok (.bipush (-3), 2) := by decide +kernel
theorem dX7_countOf_45 : decode cX7_countOf 45 = .ok (.goto 25, 3) := by decide +kernel
theorem dX7_countOf_48 : decode cX7_countOf 48 = .ok (.aload_n 0, 1) := by decide +kernel
theorem dX7_countOf_49 : decode cX7_countOf 49 = .ok (.iload_n 1, 1) := by decide +kernel
theorem dX7_countOf_50 : decode cX7_countOf 50 = .ok (.iconst 5, 1) := by decide +kernel
theorem dX7_countOf_51 : decode cX7_countOf 51 = .ok (.invokevirtual 164, 3) := by decide +kernel
theorem dX7_countOf_54 : decode cX7_countOf 54 = .ok (.aload_n 0, 1) := by decide +kernel
theorem dX7_countOf_55 : decode cX7_countOf 55 = .ok (.getfield 34, 3) := by decide +kernel
theorem dX7_countOf_58 : decode cX7_countOf 58 = .ok (.iload_n 1, 1) := by decide +kernel
theorem dX7_countOf_59 : decode cX7_countOf 59 = .ok (.iaload, 1) := by decide +kernel
theorem dX7_countOf_60 : decode cX7_countOf 60 = .ok (.iconst 1, 1) := by decide +kernel
theorem dX7_countOf_61 : decode cX7_countOf 61 = .ok (.if_icmp .ne 7, 3) := by decide +kernel
theorem dX7_countOf_64 : decode cX7_countOf 64 = .ok (.iconst 2, 1) := by decide +kernel
theorem dX7_countOf_65 : decode cX7_countOf 65 = .ok (.goto 4, 3) := by decide +kernel
theorem dX7_countOf_68 : decode cX7_countOf 68 = .ok (.iconst 1, 1) := by decide +kernel
theorem dX7_countOf_69 : decode cX7_countOf 69 = .ok (.imul, 1) := by decide +kernel
theorem dX7_countOf_70 : decode cX7_countOf 70 = .ok (.ireturn, 1) := by decide +kernel
theorem dX7_mostOf_0 : decode cX7_mostOf 0 = .ok (.ldc 205, 2) := by decide +kernel
theorem dX7_mostOf_2 : decode cX7_mostOf 2 = .ok (.istore 4, 2) := by decide +kernel
theorem dX7_mostOf_4 : decode cX7_mostOf 4 = .ok (.iload_n 2, 1) := by decide +kernel
theorem dX7_mostOf_5 : decode cX7_mostOf 5 = .ok (.aload_n 0, 1) := by decide +kernel
theorem dX7_mostOf_6 : decode cX7_mostOf 6 = .ok (.iconst 0, 1) := by decide +kernel
theorem dX7_mostOf_7 : decode cX7_mostOf 7 = .ok (.invokevirtual 145, 3) := by decide +kernel
theorem dX7_mostOf_10 : decode cX7_mostOf 10 = .ok (.isub, 1) := by decide +kernel
theorem dX7_mostOf_11 : decode cX7_mostOf 11 = .ok (.iconst 1, 1) := by decide +kernel
theorem dX7_mostOf_12 : decode cX7_mostOf 12 = .ok (.iadd, 1) := by decide +kernel
theorem dX7_mostOf_13 : decode cX7_mostOf 13 = .ok (.istore 5, 2) := by decide +kernel
theorem dX7_mostOf_15 : decode cX7_mostOf 15 = .ok (.iload 5, 2) := by decide +kernel
theorem dX7_mostOf_17 : decode cX7_mostOf 17 = .ok (.iload_n 2, 1) := by decide +kernel
theorem dX7_mostOf_18 : decode cX7_mostOf 18 = .ok (.if_icmp .gt 121, 3) := by decide +kernel
theorem dX7_mostOf_21 : decode cX7_mostOf 21 = .ok (.iconst 0, 1) := by decide +kernel
theorem dX7_mostOf_22 : decode cX7_mostOf 22 = .ok (.istore 6, 2) := by decide +kernel
theorem dX7_mostOf_24 : decode cX7_mostOf 24 = .ok (.iconst 0, 1) := by decide +kernel
theorem dX7_mostOf_25 : decode cX7_mostOf 25 = .ok (.istore 7, 2) := by decide +kernel
theorem dX7_mostOf_27 : decode cX7_mostOf 27 = .ok (.iload 7, 2) := by decide +kernel
theorem dX7_mostOf_29 : decode cX7_mostOf 29 = .ok (.iload_n 3, 1) := by decide +kernel
theorem dX7_mostOf_30 : decode cX7_mostOf 30 = .ok (.if_icmp .ge 87, 3) := by decide +kernel
theorem dX7_mostOf_33 : decode cX7_mostOf 33 = .ok (.aload_n 0, 1) := by decide +kernel
theorem dX7_mostOf_34 : decode cX7_mostOf 34 = .ok (.iload 7, 2) := by decide +kernel
theorem dX7_mostOf_36 : decode cX7_mostOf 36 = .ok (.iconst 2, 1) := by decide +kernel
theorem dX7_mostOf_37 : decode cX7_mostOf 37 = .ok (.invokevirtual 164, 3) := by decide +kernel
theorem dX7_mostOf_40 : decode cX7_mostOf 40 = .ok (.ifCond .ne 13, 3) := by decide +kernel
theorem dX7_mostOf_43 : decode cX7_mostOf 43 = .ok (.aload_n 0, 1) := by decide +kernel
theorem dX7_mostOf_44 : decode cX7_mostOf 44 = .ok (.iload 7, 2) := by decide +kernel
theorem dX7_mostOf_46 : decode cX7_mostOf 46 = .ok (.iconst 3, 1) := by decide +kernel
theorem dX7_mostOf_47 : decode cX7_mostOf 47 = .ok (.invokevirtual 164, 3) := by decide +kernel
theorem dX7_mostOf_50 : decode cX7_mostOf 50 = .ok (.goto 10, 3) := by decide +kernel
theorem dX7_mostOf_53 : decode cX7_mostOf 53 = .ok (.aload_n 0, 1) := by decide +kernel
theorem dX7_mostOf_54 : decode cX7_mostOf 54 = .ok (.iload 7, 2) := by decide +kernel
theorem dX7_mostOf_56 : decode cX7_mostOf 56 = .ok (.iconst 1, 1) := by decide +kernel
theorem dX7_mostOf_57 : decode cX7_mostOf 57 = .ok (.invokevirtual 164, 3) := by decide +kernel
theorem dX7_mostOf_60 : decode cX7_mostOf 60 = .ok (.istore 8, 2) := by decide +kernel
theorem dX7_mostOf_62 : decode cX7_mostOf 62 = .ok (.iload 6, 2) := by decide +kernel
theorem dX7_mostOf_64 : decode cX7_mostOf 64 = .ok (.aload_n 0, 1) := by decide +kernel
theorem dX7_mostOf_65 : decode cX7_mostOf 65 = .ok (.iload 7, 2) := by decide +kernel
theorem dX7_mostOf_67 : decode cX7_mostOf 67 = .ok (.iconst 0, 1) := by decide +kernel
theorem dX7_mostOf_68 : decode cX7_mostOf 68 = .ok (.invokevirtual 164, 3) := by decide +kernel
theorem dX7_mostOf_71 : decode cX7_mostOf 71 = .ok (.iload_n 1, 1) := by decide +kernel
theorem dX7_mostOf_72 : decode cX7_mostOf 72 = .ok (.if_icmp .ne 35, 3) := by decide +kernel
theorem dX7_mostOf_75 : decode cX7_mostOf 75 = .ok (.iload 8, 2) := by decide +kernel
theorem dX7_mostOf_77 : decode cX7_mostOf 77 = .ok (.i2l, 1) := by decide +kernel
theorem dX7_mostOf_78 : decode cX7_mostOf 78 = .ok (.iload 5, 2) := by decide +kernel
theorem dX7_mostOf_80 : decode cX7_mostOf 80 = .ok (.i2l, 1) := by decide +kernel
theorem dX7_mostOf_81 : decode cX7_mostOf 81 = .ok (.iload 5, 2) := by decide +kernel
theorem dX7_mostOf_83 : decode cX7_mostOf 83 = .ok (.aload_n 0, 1) := by decide +kernel
theorem dX7_mostOf_84 : decode cX7_mostOf 84 = .ok (.iconst 0, 1) := by decide +kernel
theorem dX7_mostOf_85 : decode cX7_mostOf 85 = .ok (.invokevirtual 145, 3) := by decide +kernel
theorem dX7_mostOf_88 : decode cX7_mostOf 88 = .ok (.iadd, 1) := by decide +kernel
theorem dX7_mostOf_89 : decode cX7_mostOf 89 = .ok (.iconst 1, 1) := by decide +kernel
theorem dX7_mostOf_90 : decode cX7_mostOf 90 = .ok (.isub, 1) := by decide +kernel
theorem dX7_mostOf_91 : decode cX7_mostOf 91 = .ok (.i2l, 1) := by decide +kernel
theorem dX7_mostOf_92 : decode cX7_mostOf 92 = .ok (.invokestatic 79, 3) := by decide +kernel
theorem dX7_mostOf_95 : decode cX7_mostOf 95 = .ok (.ifCond .eq 12, 3) := by decide +kernel
theorem dX7_mostOf_98 : decode cX7_mostOf 98 = .ok (.aload_n 0, 1) := by decide +kernel
theorem dX7_mostOf_99 : decode cX7_mostOf 99 = .ok (.iload 7, 2) := by decide +kernel
theorem dX7_mostOf_101 : decode cX7_mostOf 101 = .ok (.invokevirtual 206, 3) := by decide +kernel
theorem dX7_mostOf_104 : decode cX7_mostOf 104 = .ok (.goto 4, 3) := by decide +kernel
theorem dX7_mostOf_107 : decode cX7_mostOf 107 = .ok (.iconst 0, 1) := by decide +kernel
theorem dX7_mostOf_108 : decode cX7_mostOf 108 = .ok (.iadd, 1) := by decide +kernel
theorem dX7_mostOf_109 : decode cX7_mostOf 109 = .ok (.istore 6, 2) := by decide +kernel
theorem dX7_mostOf_111 : decode cX7_mostOf 111 = .ok (.iinc 7 1, 3) := by decide +kernel
theorem dX7_mostOf_114 : decode cX7_mostOf 114 = .ok (.goto (-87), 3) := by decide +kernel
theorem dX7_mostOf_117 : decode cX7_mostOf 117 = .ok (.iload 6, 2) := by decide +kernel
theorem dX7_mostOf_119 : decode cX7_mostOf 119 = .ok (.iload 4, 2) := by decide +kernel
theorem dX7_mostOf_121 : decode cX7_mostOf 121 = .ok (.if_icmp .le 8, 3) := by decide +kernel
theorem dX7_mostOf_124 : decode cX7_mostOf 124 = .ok (.iload 6, 2) := by decide +kernel
theorem dX7_mostOf_126 : decode cX7_mostOf 126 = .ok (.goto 5, 3) := by decide +kernel
theorem dX7_mostOf_129 : decode cX7_mostOf 129 = .ok (.iload 4, 2) := by decide +kernel
theorem dX7_mostOf_131 : decode cX7_mostOf 131 = .ok (.istore 4, 2) := by decide +kernel
theorem dX7_mostOf_133 : decode cX7_mostOf 133 = .ok (.iinc 5 1, 3) := by decide +kernel
theorem dX7_mostOf_136 : decode cX7_mostOf 136 = .ok (.goto (-121), 3) := by decide +kernel
theorem dX7_mostOf_139 : decode cX7_mostOf 139 = .ok (.iload 4, 2) := by decide +kernel
theorem dX7_mostOf_141 : decode cX7_mostOf 141 = .ok (.ireturn, 1) := by decide +kernel
theorem dX7_greatOnes_0 : decode cX7_greatOnes 0 = .ok (.iconst 0, 1) := by decide +kernel
theorem dX7_greatOnes_1 : decode cX7_greatOnes 1 = .ok (.istore_n 3, 1) := by decide +kernel
theorem dX7_greatOnes_2 : decode cX7_greatOnes 2 = .ok (.iconst 0, 1) := by decide +kernel
theorem dX7_greatOnes_3 : decode cX7_greatOnes 3 = .ok (.istore 4, 2) := by decide +kernel
theorem dX7_greatOnes_5 : decode cX7_greatOnes 5 = .ok (.iload 4, 2) := by decide +kernel
theorem dX7_greatOnes_7 : decode cX7_greatOnes 7 = .ok (.aload_n 0, 1) := by decide +kernel
theorem dX7_greatOnes_8 : decode cX7_greatOnes 8 = .ok (.getfield 199, 3) := by decide +kernel
theorem dX7_greatOnes_11 : decode cX7_greatOnes 11 = .ok (.if_icmp .ge 68, 3) := by decide +kernel
theorem dX7_greatOnes_14 : decode cX7_greatOnes 14 = .ok (.iload_n 3, 1) := by decide +kernel
theorem dX7_greatOnes_15 : decode cX7_greatOnes 15 = .ok (.aload_n 0, 1) := by decide +kernel
theorem dX7_greatOnes_16 : decode cX7_greatOnes 16 = .ok (.getfield 43, 3) := by decide +kernel
theorem dX7_greatOnes_19 : decode cX7_greatOnes 19 = .ok (.iload 4, 2) := by decide +kernel
theorem dX7_greatOnes_21 : decode cX7_greatOnes 21 = .ok (.iaload, 1) := by decide +kernel
theorem dX7_greatOnes_22 : decode cX7_greatOnes 22 = .ok (.iload_n 1, 1) := by decide +kernel
theorem dX7_greatOnes_23 : decode cX7_greatOnes 23 = .ok (.if_icmp .ne 47, 3) := by decide +kernel
theorem dX7_greatOnes_26 : decode cX7_greatOnes 26 = .ok (.aload_n 0, 1) := by decide +kernel
theorem dX7_greatOnes_27 : decode cX7_greatOnes 27 = .ok (.getfield 55, 3) := by decide +kernel
theorem dX7_greatOnes_30 : decode cX7_greatOnes 30 = .ok (.iload 4, 2) := by decide +kernel
theorem dX7_greatOnes_32 : decode cX7_greatOnes 32 = .ok (.iaload, 1) := by decide +kernel
theorem dX7_greatOnes_33 : decode cX7_greatOnes 33 = .ok (.iconst 1, 1) := by decide +kernel
theorem dX7_greatOnes_34 : decode cX7_greatOnes 34 = .ok (.if_icmp .ne 36, 3) := by decide +kernel
theorem dX7_greatOnes_37 : decode cX7_greatOnes 37 = .ok (.aload_n 0, 1) := by decide +kernel
theorem dX7_greatOnes_38 : decode cX7_greatOnes 38 = .ok (.aload_n 0, 1) := by decide +kernel
theorem dX7_greatOnes_39 : decode cX7_greatOnes 39 = .ok (.getfield 52, 3) := by decide +kernel
theorem dX7_greatOnes_42 : decode cX7_greatOnes 42 = .ok (.iload 4, 2) := by decide +kernel
theorem dX7_greatOnes_44 : decode cX7_greatOnes 44 = .ok (.iaload, 1) := by decide +kernel
theorem dX7_greatOnes_45 : decode cX7_greatOnes 45 = .ok (.iconst 1, 1) := by decide +kernel
theorem dX7_greatOnes_46 : decode cX7_greatOnes 46 = .ok (.invokevirtual 164, 3) := by decide +kernel
theorem dX7_greatOnes_49 : decode cX7_greatOnes 49 = .ok (.i2l, 1) := by decide +kernel
theorem dX7_greatOnes_50 : decode cX7_greatOnes 50 = .ok (.iload_n 2, 1) := by decide +kernel
theorem dX7_greatOnes_51 : decode cX7_greatOnes 51 = .ok (.aload_n 0, 1) := by decide +kernel
theorem dX7_greatOnes_52 : decode cX7_greatOnes 52 = .ok (.iconst 3, 1) := by decide +kernel
theorem dX7_greatOnes_53 : decode cX7_greatOnes 53 = .ok (.invokevirtual 145, 3) := by decide +kernel
theorem dX7_greatOnes_56 : decode cX7_greatOnes 56 = .ok (.isub, 1) := by decide +kernel
theorem dX7_greatOnes_57 : decode cX7_greatOnes 57 = .ok (.i2l, 1) := by decide +kernel
theorem dX7_greatOnes_58 : decode cX7_greatOnes 58 = .ok (.iload_n 2, 1) := by decide +kernel
theorem dX7_greatOnes_59 : decode cX7_greatOnes 59 = .ok (.i2l, 1) := by decide +kernel
theorem dX7_greatOnes_60 : decode cX7_greatOnes 60 = .ok (.invokestatic 79, 3) := by decide +kernel
theorem dX7_greatOnes_63 : decode cX7_greatOnes 63 = .ok (.ifCond .eq 7, 3) := by decide +kernel
theorem dX7_greatOnes_66 : decode cX7_greatOnes 66 = .ok (.iconst 1, 1) := by decide +kernel
theorem dX7_greatOnes_67 : decode cX7_greatOnes 67 = .ok (.goto 4, 3) := by decide +kernel
theorem dX7_greatOnes_70 : decode cX7_greatOnes 70 = .ok (.iconst 0, 1) := by decide +kernel
theorem dX7_greatOnes_71 : decode cX7_greatOnes 71 = .ok (.iadd, 1) := by decide +kernel
theorem dX7_greatOnes_72 : decode cX7_greatOnes 72 = .ok (.istore_n 3, 1) := by decide +kernel
theorem dX7_greatOnes_73 : decode cX7_greatOnes 73 = .ok (.iinc 4 1, 3) := by decide +kernel
theorem dX7_greatOnes_76 : decode cX7_greatOnes 76 = .ok (.goto (-71), 3) := by decide +kernel
theorem dX7_greatOnes_79 : decode cX7_greatOnes 79 = .ok (.iload_n 3, 1) := by decide +kernel
theorem dX7_greatOnes_80 : decode cX7_greatOnes 80 = .ok (.ireturn, 1) := by decide +kernel
theorem dX7_beginOf_0 : decode cX7_beginOf 0 = .ok (.iload_n 2, 1) := by decide +kernel
theorem dX7_beginOf_1 : decode cX7_beginOf 1 = .ok (.istore_n 3, 1) := by decide +kernel
theorem dX7_beginOf_2 : decode cX7_beginOf 2 = .ok (.iconst 0, 1) := by decide +kernel
theorem dX7_beginOf_3 : decode cX7_beginOf 3 = .ok (.istore 4, 2) := by decide +kernel
theorem dX7_beginOf_5 : decode cX7_beginOf 5 = .ok (.iload 4, 2) := by decide +kernel
theorem dX7_beginOf_7 : decode cX7_beginOf 7 = .ok (.aload_n 0, 1) := by decide +kernel
theorem dX7_beginOf_8 : decode cX7_beginOf 8 = .ok (.getfield 199, 3) := by decide +kernel
theorem dX7_beginOf_11 : decode cX7_beginOf 11 = .ok (.if_icmp .ge 43, 3) := by decide +kernel
theorem dX7_beginOf_14 : decode cX7_beginOf 14 = .ok (.aload_n 0, 1) := by decide +kernel
theorem dX7_beginOf_15 : decode cX7_beginOf 15 = .ok (.getfield 43, 3) := by decide +kernel
theorem dX7_beginOf_18 : decode cX7_beginOf 18 = .ok (.iload 4, 2) := by decide +kernel
theorem dX7_beginOf_20 : decode cX7_beginOf 20 = .ok (.iaload, 1) := by decide +kernel
theorem dX7_beginOf_21 : decode cX7_beginOf 21 = .ok (.iload_n 1, 1) := by decide +kernel
theorem dX7_beginOf_22 : decode cX7_beginOf 22 = .ok (.if_icmp .ne 24, 3) := by decide +kernel
theorem dX7_beginOf_25 : decode cX7_beginOf 25 = .ok (.aload_n 0, 1) := by decide +kernel
theorem dX7_beginOf_26 : decode cX7_beginOf 26 = .ok (.iload 4, 2) := by decide +kernel
theorem dX7_beginOf_28 : decode cX7_beginOf 28 = .ok (.invokevirtual 202, 3) := by decide +kernel
theorem dX7_beginOf_31 : decode cX7_beginOf 31 = .ok (.iload_n 3, 1) := by decide +kernel
theorem dX7_beginOf_32 : decode cX7_beginOf 32 = .ok (.if_icmp .lt 14, 3) := by decide +kernel
theorem dX7_beginOf_35 : decode cX7_beginOf 35 = .ok (.aload_n 0, 1) := by decide +kernel
theorem dX7_beginOf_36 : decode cX7_beginOf 36 = .ok (.iload 4, 2) := by decide +kernel
theorem dX7_beginOf_38 : decode cX7_beginOf 38 = .ok (.invokevirtual 202, 3) := by decide +kernel
theorem dX7_beginOf_41 : decode cX7_beginOf 41 = .ok (.iconst 1, 1) := by decide +kernel
theorem dX7_beginOf_42 : decode cX7_beginOf 42 = .ok (.iadd, 1) := by decide +kernel
theorem dX7_beginOf_43 : decode cX7_beginOf 43 = .ok (.goto 4, 3) := by decide +kernel
theorem dX7_beginOf_46 : decode cX7_beginOf 46 = .ok (.iload_n 3, 1) := by decide +kernel
theorem dX7_beginOf_47 : decode cX7_beginOf 47 = .ok (.istore_n 3, 1) := by decide +kernel
theorem dX7_beginOf_48 : decode cX7_beginOf 48 = .ok (.iinc 4 1, 3) := by decide +kernel
theorem dX7_beginOf_51 : decode cX7_beginOf 51 = .ok (.goto (-46), 3) := by decide +kernel
theorem dX7_beginOf_54 : decode cX7_beginOf 54 = .ok (.iload_n 3, 1) := by decide +kernel
theorem dX7_beginOf_55 : decode cX7_beginOf 55 = .ok (.ireturn, 1) := by decide +kernel
theorem dX7_convicts_0 : decode cX7_convicts 0 = .ok (.aload_n 0, 1) := by decide +kernel
theorem dX7_convicts_1 : decode cX7_convicts 1 = .ok (.iload_n 1, 1) := by decide +kernel
theorem dX7_convicts_2 : decode cX7_convicts 2 = .ok (.iconst 0, 1) := by decide +kernel
theorem dX7_convicts_3 : decode cX7_convicts 3 = .ok (.invokevirtual 164, 3) := by decide +kernel
theorem dX7_convicts_6 : decode cX7_convicts 6 = .ok (.istore_n 2, 1) := by decide +kernel
theorem dX7_convicts_7 : decode cX7_convicts 7 = .ok (.aload_n 0, 1) := by decide +kernel
theorem dX7_convicts_8 : decode cX7_convicts 8 = .ok (.iload_n 1, 1) := by decide +kernel
theorem dX7_convicts_9 : decode cX7_convicts 9 = .ok (.iconst 1, 1) := by decide +kernel
theorem dX7_convicts_10 : decode cX7_convicts 10 = .ok (.invokevirtual 164, 3) := by decide +kernel
theorem dX7_convicts_13 : decode cX7_convicts 13 = .ok (.istore_n 3, 1) := by decide +kernel
theorem dX7_convicts_14 : decode cX7_convicts 14 = .ok (.aload_n 0, 1) := by decide +kernel
theorem dX7_convicts_15 : decode cX7_convicts 15 = .ok (.iload_n 1, 1) := by decide +kernel
theorem dX7_convicts_16 : decode cX7_convicts 16 = .ok (.bipush 7, 2) := by decide +kernel
theorem dX7_convicts_18 : decode cX7_convicts 18 = .ok (.invokevirtual 164, 3) := by decide +kernel
theorem dX7_convicts_21 : decode cX7_convicts 21 = .ok (.iconst 1, 1) := by decide +kernel
theorem dX7_convicts_22 : decode cX7_convicts 22 = .ok (.if_icmp .ne 4, 3) := by decide +kernel
theorem dX7_convicts_25 : decode cX7_convicts 25 = .ok (.return_, 1) := by decide +kernel
theorem dX7_convicts_26 : decode cX7_convicts 26 = .ok (.aload_n 0, 1) := by decide +kernel
theorem dX7_convicts_27 : decode cX7_convicts 27 = .ok (.getfield 34, 3) := by decide +kernel
theorem dX7_convicts_30 : decode cX7_convicts 30 = .ok (.iload_n 1, 1) := by decide +kernel
theorem dX7_convicts_31 : decode cX7_convicts 31 = .ok (.aload_n 0, 1) := by decide +kernel
theorem dX7_convicts_32 : decode cX7_convicts 32 = .ok (.iload_n 2, 1) := by decide +kernel
theorem dX7_convicts_33 : decode cX7_convicts 33 = .ok (.aload_n 0, 1) := by decide +kernel
theorem dX7_convicts_34 : decode cX7_convicts 34 = .ok (.iload_n 1, 1) := by decide +kernel
theorem dX7_convicts_35 : decode cX7_convicts 35 = .ok (.iconst 3, 1) := by decide +kernel
theorem dX7_convicts_36 : decode cX7_convicts 36 = .ok (.invokevirtual 164, 3) := by decide +kernel
theorem dX7_convicts_39 : decode cX7_convicts 39 = .ok (.invokevirtual 209, 3) := by decide +kernel
theorem dX7_convicts_42 : decode cX7_convicts 42 = .ok (.ifCond .eq 7, 3) := by decide +kernel
theorem dX7_convicts_45 : decode cX7_convicts 45 = .ok (.iconst 1, 1) := by decide +kernel
theorem dX7_convicts_46 : decode cX7_convicts 46 = .ok (.goto 4, 3) := by decide +kernel
theorem dX7_convicts_49 : decode cX7_convicts 49 = .ok (.iconst 0, 1) := by decide +kernel
theorem dX7_convicts_50 : decode cX7_convicts 50 = .ok (.iastore, 1) := by decide +kernel
theorem dX7_convicts_51 : decode cX7_convicts 51 = .ok (.aload_n 0, 1) := by decide +kernel
theorem dX7_convicts_52 : decode cX7_convicts 52 = .ok (.getfield 22, 3) := by decide +kernel
theorem dX7_convicts_55 : decode cX7_convicts 55 = .ok (.aload_n 0, 1) := by decide +kernel
theorem dX7_convicts_56 : decode cX7_convicts 56 = .ok (.iload_n 1, 1) := by decide +kernel
theorem dX7_convicts_57 : decode cX7_convicts 57 = .ok (.iconst 4, 1) := by decide +kernel
theorem dX7_convicts_58 : decode cX7_convicts 58 = .ok (.invokevirtual 164, 3) := by decide +kernel
theorem dX7_convicts_61 : decode cX7_convicts 61 = .ok (.iaload, 1) := by decide +kernel
theorem dX7_convicts_62 : decode cX7_convicts 62 = .ok (.ifCond .le 22, 3) := by decide +kernel
theorem dX7_convicts_65 : decode cX7_convicts 65 = .ok (.aload_n 0, 1) := by decide +kernel
theorem dX7_convicts_66 : decode cX7_convicts 66 = .ok (.iload_n 2, 1) := by decide +kernel
theorem dX7_convicts_67 : decode cX7_convicts 67 = .ok (.iload_n 3, 1) := by decide +kernel
theorem dX7_convicts_68 : decode cX7_convicts 68 = .ok (.aload_n 0, 1) := by decide +kernel
theorem dX7_convicts_69 : decode cX7_convicts 69 = .ok (.getfield 22, 3) := by decide +kernel
theorem dX7_convicts_72 : decode cX7_convicts 72 = .ok (.aload_n 0, 1) := by decide +kernel
theorem dX7_convicts_73 : decode cX7_convicts 73 = .ok (.iload_n 1, 1) := by decide +kernel
theorem dX7_convicts_74 : decode cX7_convicts 74 = .ok (.iconst 4, 1) := by decide +kernel
theorem dX7_convicts_75 : decode cX7_convicts 75 = .ok (.invokevirtual 164, 3) := by decide +kernel
theorem dX7_convicts_78 : decode cX7_convicts 78 = .ok (.iaload, 1) := by decide +kernel
theorem dX7_convicts_79 : decode cX7_convicts 79 = .ok (.iload_n 1, 1) := by decide +kernel
theorem dX7_convicts_80 : decode cX7_convicts 80 = .ok (.iconst 0, 1) := by decide +kernel
theorem dX7_convicts_81 : decode cX7_convicts 81 = .ok (.invokevirtual 213, 3) := by decide +kernel
theorem dX7_convicts_84 : decode cX7_convicts 84 = .ok (.aload_n 0, 1) := by decide +kernel
theorem dX7_convicts_85 : decode cX7_convicts 85 = .ok (.iload_n 1, 1) := by decide +kernel
theorem dX7_convicts_86 : decode cX7_convicts 86 = .ok (.bipush 6, 2) := by decide +kernel
theorem dX7_convicts_88 : decode cX7_convicts 88 = .ok (.invokevirtual 164, 3) := by decide +kernel
theorem dX7_convicts_91 : decode cX7_convicts 91 = .ok (.iconst 1, 1) := by decide +kernel
theorem dX7_convicts_92 : decode cX7_convicts 92 = .ok (.if_icmp .eq 25, 3) := by decide +kernel
theorem dX7_convicts_95 : decode cX7_convicts 95 = .ok (.aload_n 0, 1) := by decide +kernel
theorem dX7_convicts_96 : decode cX7_convicts 96 = .ok (.iload_n 2, 1) := by decide +kernel
theorem dX7_convicts_97 : decode cX7_convicts 97 = .ok (.aload_n 0, 1) := by decide +kernel
theorem dX7_convicts_98 : decode cX7_convicts 98 = .ok (.iload_n 1, 1) := by decide +kernel
theorem dX7_convicts_99 : decode cX7_convicts 99 = .ok (.iconst 3, 1) := by decide +kernel
theorem dX7_convicts_100 : decode cX7_convicts 100 = .ok (.invokevirtual 164, 3) := by decide +kernel
theorem dX7_convicts_103 : decode cX7_convicts 103 = .ok (.iload_n 1, 1) := by decide +kernel
theorem dX7_convicts_104 : decode cX7_convicts 104 = .ok (.iconst 1, 1) := by decide +kernel
theorem dX7_convicts_105 : decode cX7_convicts 105 = .ok (.iadd, 1) := by decide +kernel
theorem dX7_convicts_106 : decode cX7_convicts 106 = .ok (.invokevirtual 216, 3) := by decide +kernel
theorem dX7_convicts_109 : decode cX7_convicts 109 = .ok (.aload_n 0, 1) := by decide +kernel
theorem dX7_convicts_110 : decode cX7_convicts 110 = .ok (.iconst 1, 1) := by decide +kernel
theorem dX7_convicts_111 : decode cX7_convicts 111 = .ok (.invokevirtual 145, 3) := by decide +kernel
theorem dX7_convicts_114 : decode cX7_convicts 114 = .ok (.if_icmp .ge 4, 3) := by decide +kernel
theorem dX7_convicts_117 : decode cX7_convicts 117 = .ok (.return_, 1) := by decide +kernel
theorem dX7_convicts_118 : decode cX7_convicts 118 = .ok (.aload_n 0, 1) := by decide +kernel
theorem dX7_convicts_119 : decode cX7_convicts 119 = .ok (.iload_n 2, 1) := by decide +kernel
theorem dX7_convicts_120 : decode cX7_convicts 120 = .ok (.iload_n 3, 1) := by decide +kernel
theorem dX7_convicts_121 : decode cX7_convicts 121 = .ok (.invokevirtual 219, 3) := by decide +kernel
theorem dX7_convicts_124 : decode cX7_convicts 124 = .ok (.istore 4, 2) := by decide +kernel
theorem dX7_convicts_126 : decode cX7_convicts 126 = .ok (.aload_n 0, 1) := by decide +kernel
theorem dX7_convicts_127 : decode cX7_convicts 127 = .ok (.iload_n 2, 1) := by decide +kernel
theorem dX7_convicts_128 : decode cX7_convicts 128 = .ok (.aload_n 0, 1) := by decide +kernel
theorem dX7_convicts_129 : decode cX7_convicts 129 = .ok (.iload_n 2, 1) := by decide +kernel
theorem dX7_convicts_130 : decode cX7_convicts 130 = .ok (.iload_n 3, 1) := by decide +kernel
theorem dX7_convicts_131 : decode cX7_convicts 131 = .ok (.invokevirtual 222, 3) := by decide +kernel
theorem dX7_convicts_134 : decode cX7_convicts 134 = .ok (.aload_n 0, 1) := by decide +kernel
theorem dX7_convicts_135 : decode cX7_convicts 135 = .ok (.iconst 2, 1) := by decide +kernel
theorem dX7_convicts_136 : decode cX7_convicts 136 = .ok (.invokevirtual 145, 3) := by decide +kernel
theorem dX7_convicts_139 : decode cX7_convicts 139 = .ok (.iload 4, 2) := by decide +kernel
theorem dX7_convicts_141 : decode cX7_convicts 141 = .ok (.ifCond .ne 7, 3) := by decide +kernel
theorem dX7_convicts_144 : decode cX7_convicts 144 = .ok (.iconst 1, 1) := by decide +kernel
theorem dX7_convicts_145 : decode cX7_convicts 145 = .ok (.goto 14, 3) := by decide +kernel
theorem dX7_convicts_148 : decode cX7_convicts 148 = .ok (.iload 4, 2) := by decide +kernel
theorem dX7_convicts_150 : decode cX7_convicts 150 = .ok (.iconst 1, 1) := by decide +kernel
theorem dX7_convicts_151 : decode cX7_convicts 151 = .ok (.if_icmp .ne 7, 3) := by decide +kernel
theorem dX7_convicts_154 : decode cX7_convicts 154 = .ok (.iconst 2, 1) := by decide +kernel
theorem dX7_convicts_155 : decode cX7_convicts 155 = .ok (.goto 4, 3) := by decide +kernel
theorem dX7_convicts_158 : decode cX7_convicts 158 = .ok (.iconst 4, 1) := by decide +kernel
theorem dX7_convicts_159 : decode cX7_convicts 159 = .ok (.imul, 1) := by decide +kernel
theorem dX7_convicts_160 : decode cX7_convicts 160 = .ok (.iload_n 1, 1) := by decide +kernel
theorem dX7_convicts_161 : decode cX7_convicts 161 = .ok (.iconst 1, 1) := by decide +kernel
theorem dX7_convicts_162 : decode cX7_convicts 162 = .ok (.invokevirtual 213, 3) := by decide +kernel
theorem dX7_convicts_165 : decode cX7_convicts 165 = .ok (.iconst 0, 1) := by decide +kernel
theorem dX7_convicts_166 : decode cX7_convicts 166 = .ok (.istore 5, 2) := by decide +kernel
theorem dX7_convicts_168 : decode cX7_convicts 168 = .ok (.iload 5, 2) := by decide +kernel
theorem dX7_convicts_170 : decode cX7_convicts 170 = .ok (.iload_n 1, 1) := by decide +kernel
theorem dX7_convicts_171 : decode cX7_convicts 171 = .ok (.if_icmp .gt 38, 3) := by decide +kernel
theorem dX7_convicts_174 : decode cX7_convicts 174 = .ok (.aload_n 0, 1) := by decide +kernel
theorem dX7_convicts_175 : decode cX7_convicts 175 = .ok (.getfield 37, 3) := by decide +kernel
theorem dX7_convicts_178 : decode cX7_convicts 178 = .ok (.iload 5, 2) := by decide +kernel
theorem dX7_convicts_180 : decode cX7_convicts 180 = .ok (.aload_n 0, 1) := by decide +kernel
theorem dX7_convicts_181 : decode cX7_convicts 181 = .ok (.iload 5, 2) := by decide +kernel
theorem dX7_convicts_183 : decode cX7_convicts 183 = .ok (.iconst 0, 1) := by decide +kernel
theorem dX7_convicts_184 : decode cX7_convicts 184 = .ok (.invokevirtual 164, 3) := by decide +kernel
theorem dX7_convicts_187 : decode cX7_convicts 187 = .ok (.iload_n 2, 1) := by decide +kernel
theorem dX7_convicts_188 : decode cX7_convicts 188 = .ok (.if_icmp .ne 7, 3) := by decide +kernel
theorem dX7_convicts_191 : decode cX7_convicts 191 = .ok (.iconst 1, 1) := by decide +kernel
theorem dX7_convicts_192 : decode cX7_convicts 192 = .ok (.goto 10, 3) := by decide +kernel
theorem dX7_convicts_195 : decode cX7_convicts 195 = .ok (.aload_n 0, 1) := by decide +kernel
theorem dX7_convicts_196 : decode cX7_convicts 196 = .ok (.getfield 37, 3) := by decide +kernel
theorem dX7_convicts_199 : decode cX7_convicts 199 = .ok (.iload 5, 2) := by decide +kernel
theorem dX7_convicts_201 : decode cX7_convicts 201 = .ok (.iaload, 1) := by decide +kernel
theorem dX7_convicts_202 : decode cX7_convicts 202 = .ok (.iastore, 1) := by decide +kernel
theorem dX7_convicts_203 : decode cX7_convicts 203 = .ok (.iinc 5 1, 3) := by decide +kernel
theorem dX7_convicts_206 : decode cX7_convicts 206 = .ok (.goto (-38), 3) := by decide +kernel
theorem dX7_convicts_209 : decode cX7_convicts 209 = .ok (.return_, 1) := by decide +kernel
theorem dX7_toShorten_0 : decode cX7_toShorten 0 = .ok (.bipush (-4), 2) := by decide +kernel
theorem dX7_toShorten_2 : decode cX7_toShorten 2 = .ok (.istore_n 3, 1) := by decide +kernel
theorem dX7_toShorten_3 : decode cX7_toShorten 3 = .ok (.iconst 0, 1) := by decide +kernel
theorem dX7_toShorten_4 : decode cX7_toShorten 4 = .ok (.istore 4, 2) := by decide +kernel
theorem dX7_toShorten_6 : decode cX7_toShorten 6 = .ok (.iload 4, 2) := by decide +kernel
theorem dX7_toShorten_8 : decode cX7_toShorten 8 = .ok (.aload_n 0, 1) := by decide +kernel
theorem dX7_toShorten_9 : decode cX7_toShorten 9 = .ok (.getfield 199, 3) := by decide +kernel
theorem dX7_toShorten_12 : decode cX7_toShorten 12 = .ok (.if_icmp .ge 76, 3) := by decide +kernel
theorem dX7_toShorten_15 : decode cX7_toShorten 15 = .ok (.aload_n 0, 1) := by decide +kernel
theorem dX7_toShorten_16 : decode cX7_toShorten 16 = .ok (.getfield 43, 3) := by decide +kernel
theorem dX7_toShorten_19 : decode cX7_toShorten 19 = .ok (.iload 4, 2) := by decide +kernel
theorem dX7_toShorten_21 : decode cX7_toShorten 21 = .ok (.iaload, 1) := by decide +kernel
theorem dX7_toShorten_22 : decode cX7_toShorten 22 = .ok (.iload_n 1, 1) := by decide +kernel
theorem dX7_toShorten_23 : decode cX7_toShorten 23 = .ok (.if_icmp .ne 59, 3) := by decide +kernel
theorem dX7_toShorten_26 : decode cX7_toShorten 26 = .ok (.aload_n 0, 1) := by decide +kernel
theorem dX7_toShorten_27 : decode cX7_toShorten 27 = .ok (.getfield 58, 3) := by decide +kernel
theorem dX7_toShorten_30 : decode cX7_toShorten 30 = .ok (.iload 4, 2) := by decide +kernel
theorem dX7_toShorten_32 : decode cX7_toShorten 32 = .ok (.iaload, 1) := by decide +kernel
theorem dX7_toShorten_33 : decode cX7_toShorten 33 = .ok (.ifCond .ne 49, 3) := by decide +kernel
theorem dX7_toShorten_36 : decode cX7_toShorten 36 = .ok (.iload_n 2, 1) := by decide +kernel
theorem dX7_toShorten_37 : decode cX7_toShorten 37 = .ok (.i2l, 1) := by decide +kernel
theorem dX7_toShorten_38 : decode cX7_toShorten 38 = .ok (.aload_n 0, 1) := by decide +kernel
theorem dX7_toShorten_39 : decode cX7_toShorten 39 = .ok (.getfield 46, 3) := by decide +kernel
theorem dX7_toShorten_42 : decode cX7_toShorten 42 = .ok (.iload 4, 2) := by decide +kernel
theorem dX7_toShorten_44 : decode cX7_toShorten 44 = .ok (.iaload, 1) := by decide +kernel
theorem dX7_toShorten_45 : decode cX7_toShorten 45 = .ok (.i2l, 1) := by decide +kernel
theorem dX7_toShorten_46 : decode cX7_toShorten 46 = .ok (.aload_n 0, 1) := by decide +kernel
theorem dX7_toShorten_47 : decode cX7_toShorten 47 = .ok (.iload 4, 2) := by decide +kernel
theorem dX7_toShorten_49 : decode cX7_toShorten 49 = .ok (.invokevirtual 202, 3) := by decide +kernel
theorem dX7_toShorten_52 : decode cX7_toShorten 52 = .ok (.i2l, 1) := by decide +kernel
theorem dX7_toShorten_53 : decode cX7_toShorten 53 = .ok (.invokestatic 79, 3) := by decide +kernel
theorem dX7_toShorten_56 : decode cX7_toShorten 56 = .ok (.ifCond .eq 26, 3) := by decide +kernel
theorem dX7_toShorten_59 : decode cX7_toShorten 59 = .ok (.iload_n 3, 1) := by decide +kernel
theorem dX7_toShorten_60 : decode cX7_toShorten 60 = .ok (.bipush (-4), 2) := by decide +kernel
theorem dX7_toShorten_62 : decode cX7_toShorten 62 = .ok (.if_icmp .eq 17, 3) := by decide +kernel
theorem dX7_toShorten_65 : decode cX7_toShorten 65 = .ok (.aload_n 0, 1) := by decide +kernel
theorem dX7_toShorten_66 : decode cX7_toShorten 66 = .ok (.iload 4, 2) := by decide +kernel
theorem dX7_toShorten_68 : decode cX7_toShorten 68 = .ok (.invokevirtual 202, 3) := by decide +kernel
theorem dX7_toShorten_71 : decode cX7_toShorten 71 = .ok (.aload_n 0, 1) := by decide +kernel
theorem dX7_toShorten_72 : decode cX7_toShorten 72 = .ok (.iload_n 3, 1) := by decide +kernel
theorem dX7_toShorten_73 : decode cX7_toShorten 73 = .ok (.invokevirtual 202, 3) := by decide +kernel
theorem dX7_toShorten_76 : decode cX7_toShorten 76 = .ok (.if_icmp .lt 6, 3) := by decide +kernel
theorem dX7_toShorten_79 : decode cX7_toShorten 79 = .ok (.iload 4, 2) := by decide +kernel
theorem dX7_toShorten_81 : decode cX7_toShorten 81 = .ok (.istore_n 3, 1) := by decide +kernel
theorem dX7_toShorten_82 : decode cX7_toShorten 82 = .ok (.iinc 4 1, 3) := by decide +kernel
theorem dX7_toShorten_85 : decode cX7_toShorten 85 = .ok (.goto (-79), 3) := by decide +kernel
theorem dX7_toShorten_88 : decode cX7_toShorten 88 = .ok (.iload_n 3, 1) := by decide +kernel
theorem dX7_toShorten_89 : decode cX7_toShorten 89 = .ok (.ireturn, 1) := by decide +kernel
theorem dX7_shortens_0 : decode cX7_shortens 0 = .ok (.aload_n 0, 1) := by decide +kernel
theorem dX7_shortens_1 : decode cX7_shortens 1 = .ok (.iload_n 1, 1) := by decide +kernel
theorem dX7_shortens_2 : decode cX7_shortens 2 = .ok (.iconst 1, 1) := by decide +kernel
theorem dX7_shortens_3 : decode cX7_shortens 3 = .ok (.invokevirtual 164, 3) := by decide +kernel
theorem dX7_shortens_6 : decode cX7_shortens 6 = .ok (.istore_n 2, 1) := by decide +kernel
theorem dX7_shortens_7 : decode cX7_shortens 7 = .ok (.aload_n 0, 1) := by decide +kernel
theorem dX7_shortens_8 : decode cX7_shortens 8 = .ok (.aload_n 0, 1) := by decide +kernel
theorem dX7_shortens_9 : decode cX7_shortens 9 = .ok (.iload_n 1, 1) := by decide +kernel
theorem dX7_shortens_10 : decode cX7_shortens 10 = .ok (.iconst 0, 1) := by decide +kernel
theorem dX7_shortens_11 : decode cX7_shortens 11 = .ok (.invokevirtual 164, 3) := by decide +kernel
theorem dX7_shortens_14 : decode cX7_shortens 14 = .ok (.iload_n 2, 1) := by decide +kernel
theorem dX7_shortens_15 : decode cX7_shortens 15 = .ok (.invokevirtual 173, 3) := by decide +kernel
theorem dX7_shortens_18 : decode cX7_shortens 18 = .ok (.istore_n 3, 1) := by decide +kernel
theorem dX7_shortens_19 : decode cX7_shortens 19 = .ok (.aload_n 0, 1) := by decide +kernel
theorem dX7_shortens_20 : decode cX7_shortens 20 = .ok (.getfield 40, 3) := by decide +kernel
theorem dX7_shortens_23 : decode cX7_shortens 23 = .ok (.iload_n 1, 1) := by decide +kernel
theorem dX7_shortens_24 : decode cX7_shortens 24 = .ok (.iload_n 3, 1) := by decide +kernel
theorem dX7_shortens_25 : decode cX7_shortens 25 = .ok (.bipush (-4), 2) := by decide +kernel
theorem dX7_shortens_27 : decode cX7_shortens 27 = .ok (.if_icmp .ne 7, 3) := by decide +kernel
theorem dX7_shortens_30 : decode cX7_shortens 30 = .ok (.iconst 1, 1) := by decide +kernel
theorem dX7_shortens_31 : decode cX7_shortens 31 = .ok (.goto 4, 3) := by decide +kernel
theorem dX7_shortens_34 : decode cX7_shortens 34 = .ok (.iconst 0, 1) := by decide +kernel
theorem dX7_shortens_35 : decode cX7_shortens 35 = .ok (.iastore, 1) := by decide +kernel
theorem dX7_shortens_36 : decode cX7_shortens 36 = .ok (.iload_n 3, 1) := by decide +kernel
theorem dX7_shortens_37 : decode cX7_shortens 37 = .ok (.bipush (-4), 2) := by decide +kernel
theorem dX7_shortens_39 : decode cX7_shortens 39 = .ok (.if_icmp .eq 59, 3) := by decide +kernel
theorem dX7_shortens_42 : decode cX7_shortens 42 = .ok (.aload_n 0, 1) := by decide +kernel
theorem dX7_shortens_43 : decode cX7_shortens 43 = .ok (.getfield 49, 3) := by decide +kernel
theorem dX7_shortens_46 : decode cX7_shortens 46 = .ok (.iload_n 3, 1) := by decide +kernel
theorem dX7_shortens_47 : decode cX7_shortens 47 = .ok (.iaload, 1) := by decide +kernel
theorem dX7_shortens_48 : decode cX7_shortens 48 = .ok (.aload_n 0, 1) := by decide +kernel
theorem dX7_shortens_49 : decode cX7_shortens 49 = .ok (.getfield 49, 3) := by decide +kernel
theorem dX7_shortens_52 : decode cX7_shortens 52 = .ok (.iload_n 3, 1) := by decide +kernel
theorem dX7_shortens_53 : decode cX7_shortens 53 = .ok (.iaload, 1) := by decide +kernel
theorem dX7_shortens_54 : decode cX7_shortens 54 = .ok (.iconst 4, 1) := by decide +kernel
theorem dX7_shortens_55 : decode cX7_shortens 55 = .ok (.idiv, 1) := by decide +kernel
theorem dX7_shortens_56 : decode cX7_shortens 56 = .ok (.isub, 1) := by decide +kernel
theorem dX7_shortens_57 : decode cX7_shortens 57 = .ok (.istore 4, 2) := by decide +kernel
theorem dX7_shortens_59 : decode cX7_shortens 59 = .ok (.iload_n 2, 1) := by decide +kernel
theorem dX7_shortens_60 : decode cX7_shortens 60 = .ok (.aload_n 0, 1) := by decide +kernel
theorem dX7_shortens_61 : decode cX7_shortens 61 = .ok (.getfield 46, 3) := by decide +kernel
theorem dX7_shortens_64 : decode cX7_shortens 64 = .ok (.iload_n 3, 1) := by decide +kernel
theorem dX7_shortens_65 : decode cX7_shortens 65 = .ok (.iaload, 1) := by decide +kernel
theorem dX7_shortens_66 : decode cX7_shortens 66 = .ok (.isub, 1) := by decide +kernel
theorem dX7_shortens_67 : decode cX7_shortens 67 = .ok (.iconst 1, 1) := by decide +kernel
theorem dX7_shortens_68 : decode cX7_shortens 68 = .ok (.iadd, 1) := by decide +kernel
theorem dX7_shortens_69 : decode cX7_shortens 69 = .ok (.istore 5, 2) := by decide +kernel
theorem dX7_shortens_71 : decode cX7_shortens 71 = .ok (.aload_n 0, 1) := by decide +kernel
theorem dX7_shortens_72 : decode cX7_shortens 72 = .ok (.getfield 49, 3) := by decide +kernel
theorem dX7_shortens_75 : decode cX7_shortens 75 = .ok (.iload_n 3, 1) := by decide +kernel
theorem dX7_shortens_76 : decode cX7_shortens 76 = .ok (.iload 4, 2) := by decide +kernel
theorem dX7_shortens_78 : decode cX7_shortens 78 = .ok (.iload 5, 2) := by decide +kernel
theorem dX7_shortens_80 : decode cX7_shortens 80 = .ok (.if_icmp .ge 8, 3) := by decide +kernel
theorem dX7_shortens_83 : decode cX7_shortens 83 = .ok (.iload 5, 2) := by decide +kernel
theorem dX7_shortens_85 : decode cX7_shortens 85 = .ok (.goto 5, 3) := by decide +kernel
theorem dX7_shortens_88 : decode cX7_shortens 88 = .ok (.iload 4, 2) := by decide +kernel
theorem dX7_shortens_90 : decode cX7_shortens 90 = .ok (.iastore, 1) := by decide +kernel
theorem dX7_shortens_91 : decode cX7_shortens 91 = .ok (.aload_n 0, 1) := by decide +kernel
theorem dX7_shortens_92 : decode cX7_shortens 92 = .ok (.getfield 58, 3) := by decide +kernel
theorem dX7_shortens_95 : decode cX7_shortens 95 = .ok (.iload_n 3, 1) := by decide +kernel
theorem dX7_shortens_96 : decode cX7_shortens 96 = .ok (.iconst 1, 1) := by decide +kernel
theorem dX7_shortens_97 : decode cX7_shortens 97 = .ok (.iastore, 1) := by decide +kernel
theorem dX7_shortens_98 : decode cX7_shortens 98 = .ok (.return_, 1) := by decide +kernel
theorem dX7_reckon_0 : decode cX7_reckon 0 = .ok (.aload_n 0, 1) := by decide +kernel
theorem dX7_reckon_1 : decode cX7_reckon 1 = .ok (.iconst 0, 1) := by decide +kernel
theorem dX7_reckon_2 : decode cX7_reckon 2 = .ok (.putfield 199, 3) := by decide +kernel
theorem dX7_reckon_5 : decode cX7_reckon 5 = .ok (.iconst 0, 1) := by decide +kernel
theorem dX7_reckon_6 : decode cX7_reckon 6 = .ok (.istore_n 1, 1) := by decide +kernel
theorem dX7_reckon_7 : decode cX7_reckon 7 = .ok (.iload_n 1, 1) := by decide +kernel
theorem dX7_reckon_8 : decode cX7_reckon 8 = .ok (.aload_n 0, 1) := by decide +kernel
theorem dX7_reckon_9 : decode cX7_reckon 9 = .ok (.getfield 13, 3) := by decide +kernel
theorem dX7_reckon_12 : decode cX7_reckon 12 = .ok (.sipush 334, 3) := by decide +kernel
theorem dX7_reckon_15 : decode cX7_reckon 15 = .ok (.iaload, 1) := by decide +kernel
theorem dX7_reckon_16 : decode cX7_reckon 16 = .ok (.if_icmp .ge 30, 3) := by decide +kernel
theorem dX7_reckon_19 : decode cX7_reckon 19 = .ok (.aload_n 0, 1) := by decide +kernel
theorem dX7_reckon_20 : decode cX7_reckon 20 = .ok (.getfield 34, 3) := by decide +kernel
theorem dX7_reckon_23 : decode cX7_reckon 23 = .ok (.iload_n 1, 1) := by decide +kernel
theorem dX7_reckon_24 : decode cX7_reckon 24 = .ok (.iconst 0, 1) := by decide +kernel
theorem dX7_reckon_25 : decode cX7_reckon 25 = .ok (.iastore, 1) := by decide +kernel
theorem dX7_reckon_26 : decode cX7_reckon 26 = .ok (.aload_n 0, 1) := by decide +kernel
theorem dX7_reckon_27 : decode cX7_reckon 27 = .ok (.getfield 37, 3) := by decide +kernel
theorem dX7_reckon_30 : decode cX7_reckon 30 = .ok (.iload_n 1, 1) := by decide +kernel
theorem dX7_reckon_31 : decode cX7_reckon 31 = .ok (.iconst 0, 1) := by decide +kernel
theorem dX7_reckon_32 : decode cX7_reckon 32 = .ok (.iastore, 1) := by decide +kernel
theorem dX7_reckon_33 : decode cX7_reckon 33 = .ok (.aload_n 0, 1) := by decide +kernel
theorem dX7_reckon_34 : decode cX7_reckon 34 = .ok (.getfield 40, 3) := by decide +kernel
theorem dX7_reckon_37 : decode cX7_reckon 37 = .ok (.iload_n 1, 1) := by decide +kernel
theorem dX7_reckon_38 : decode cX7_reckon 38 = .ok (.iconst 0, 1) := by decide +kernel
theorem dX7_reckon_39 : decode cX7_reckon 39 = .ok (.iastore, 1) := by decide +kernel
theorem dX7_reckon_40 : decode cX7_reckon 40 = .ok (.iinc 1 1, 3) := by decide +kernel
theorem dX7_reckon_43 : decode cX7_reckon 43 = .ok (.goto (-36), 3) := by decide +kernel
theorem dX7_reckon_46 : decode cX7_reckon 46 = .ok (.iconst 0, 1) := by decide +kernel
theorem dX7_reckon_47 : decode cX7_reckon 47 = .ok (.istore_n 1, 1) := by decide +kernel
theorem dX7_reckon_48 : decode cX7_reckon 48 = .ok (.iload_n 1, 1) := by decide +kernel
theorem dX7_reckon_49 : decode cX7_reckon 49 = .ok (.aload_n 0, 1) := by decide +kernel
theorem dX7_reckon_50 : decode cX7_reckon 50 = .ok (.getfield 13, 3) := by decide +kernel
theorem dX7_reckon_53 : decode cX7_reckon 53 = .ok (.sipush 334, 3) := by decide +kernel
theorem dX7_reckon_56 : decode cX7_reckon 56 = .ok (.iaload, 1) := by decide +kernel
theorem dX7_reckon_57 : decode cX7_reckon 57 = .ok (.if_icmp .ge 38, 3) := by decide +kernel
theorem dX7_reckon_60 : decode cX7_reckon 60 = .ok (.aload_n 0, 1) := by decide +kernel
theorem dX7_reckon_61 : decode cX7_reckon 61 = .ok (.iload_n 1, 1) := by decide +kernel
theorem dX7_reckon_62 : decode cX7_reckon 62 = .ok (.iconst 2, 1) := by decide +kernel
theorem dX7_reckon_63 : decode cX7_reckon 63 = .ok (.invokevirtual 164, 3) := by decide +kernel
theorem dX7_reckon_66 : decode cX7_reckon 66 = .ok (.ifCond .ne 8, 3) := by decide +kernel
theorem dX7_reckon_69 : decode cX7_reckon 69 = .ok (.aload_n 0, 1) := by decide +kernel
theorem dX7_reckon_70 : decode cX7_reckon 70 = .ok (.iload_n 1, 1) := by decide +kernel
theorem dX7_reckon_71 : decode cX7_reckon 71 = .ok (.invokevirtual 225, 3) := by decide +kernel
theorem dX7_reckon_74 : decode cX7_reckon 74 = .ok (.aload_n 0, 1) := by decide +kernel
theorem dX7_reckon_75 : decode cX7_reckon 75 = .ok (.iload_n 1, 1) := by decide +kernel
theorem dX7_reckon_76 : decode cX7_reckon 76 = .ok (.iconst 2, 1) := by decide +kernel
theorem dX7_reckon_77 : decode cX7_reckon 77 = .ok (.invokevirtual 164, 3) := by decide +kernel
theorem dX7_reckon_80 : decode cX7_reckon 80 = .ok (.iconst 2, 1) := by decide +kernel
theorem dX7_reckon_81 : decode cX7_reckon 81 = .ok (.if_icmp .ne 8, 3) := by decide +kernel
theorem dX7_reckon_84 : decode cX7_reckon 84 = .ok (.aload_n 0, 1) := by decide +kernel
theorem dX7_reckon_85 : decode cX7_reckon 85 = .ok (.iload_n 1, 1) := by decide +kernel
theorem dX7_reckon_86 : decode cX7_reckon 86 = .ok (.invokevirtual 229, 3) := by decide +kernel
theorem dX7_reckon_89 : decode cX7_reckon 89 = .ok (.iinc 1 1, 3) := by decide +kernel
theorem dX7_reckon_92 : decode cX7_reckon 92 = .ok (.goto (-44), 3) := by decide +kernel
theorem dX7_reckon_95 : decode cX7_reckon 95 = .ok (.return_, 1) := by decide +kernel
theorem dX7_know_0 : decode cX7_know 0 = .ok (.aload_n 0, 1) := by decide +kernel
theorem dX7_know_1 : decode cX7_know 1 = .ok (.getfield 133, 3) := by decide +kernel
theorem dX7_know_4 : decode cX7_know 4 = .ok (.ifCond .ne 12, 3) := by decide +kernel
theorem dX7_know_7 : decode cX7_know 7 = .ok (.aload_n 0, 1) := by decide +kernel
theorem dX7_know_8 : decode cX7_know 8 = .ok (.invokevirtual 232, 3) := by decide +kernel
theorem dX7_know_11 : decode cX7_know 11 = .ok (.aload_n 0, 1) := by decide +kernel
theorem dX7_know_12 : decode cX7_know 12 = .ok (.iconst 1, 1) := by decide +kernel
theorem dX7_know_13 : decode cX7_know 13 = .ok (.putfield 133, 3) := by decide +kernel
theorem dX7_know_16 : decode cX7_know 16 = .ok (.return_, 1) := by decide +kernel
theorem dX7_daysFrom_0 : decode cX7_daysFrom 0 = .ok (.iconst 0, 1) := by decide +kernel
theorem dX7_daysFrom_1 : decode cX7_daysFrom 1 = .ok (.istore 4, 2) := by decide +kernel
theorem dX7_daysFrom_3 : decode cX7_daysFrom 3 = .ok (.iload_n 2, 1) := by decide +kernel
theorem dX7_daysFrom_4 : decode cX7_daysFrom 4 = .ok (.istore 5, 2) := by decide +kernel
theorem dX7_daysFrom_6 : decode cX7_daysFrom 6 = .ok (.iload 5, 2) := by decide +kernel
theorem dX7_daysFrom_8 : decode cX7_daysFrom 8 = .ok (.iload_n 3, 1) := by decide +kernel
theorem dX7_daysFrom_9 : decode cX7_daysFrom 9 = .ok (.if_icmp .gt 29, 3) := by decide +kernel
theorem dX7_daysFrom_12 : decode cX7_daysFrom 12 = .ok (.iload 4, 2) := by decide +kernel
theorem dX7_daysFrom_14 : decode cX7_daysFrom 14 = .ok (.aload_n 0, 1) := by decide +kernel
theorem dX7_daysFrom_15 : decode cX7_daysFrom 15 = .ok (.iload_n 1, 1) := by decide +kernel
theorem dX7_daysFrom_16 : decode cX7_daysFrom 16 = .ok (.iload 5, 2) := by decide +kernel
theorem dX7_daysFrom_18 : decode cX7_daysFrom 18 = .ok (.invokevirtual 209, 3) := by decide +kernel
theorem dX7_daysFrom_21 : decode cX7_daysFrom 21 = .ok (.ifCond .eq 7, 3) := by decide +kernel
theorem dX7_daysFrom_24 : decode cX7_daysFrom 24 = .ok (.iconst 1, 1) := by decide +kernel
theorem dX7_daysFrom_25 : decode cX7_daysFrom 25 = .ok (.goto 4, 3) := by decide +kernel
theorem dX7_daysFrom_28 : decode cX7_daysFrom 28 = .ok (.iconst 0, 1) := by decide +kernel
theorem dX7_daysFrom_29 : decode cX7_daysFrom 29 = .ok (.iadd, 1) := by decide +kernel
theorem dX7_daysFrom_30 : decode cX7_daysFrom 30 = .ok (.istore 4, 2) := by decide +kernel
theorem dX7_daysFrom_32 : decode cX7_daysFrom 32 = .ok (.iinc 5 1, 3) := by decide +kernel
theorem dX7_daysFrom_35 : decode cX7_daysFrom 35 = .ok (.goto (-29), 3) := by decide +kernel
theorem dX7_daysFrom_38 : decode cX7_daysFrom 38 = .ok (.iload 4, 2) := by decide +kernel
theorem dX7_daysFrom_40 : decode cX7_daysFrom 40 = .ok (.ireturn, 1) := by decide +kernel
theorem dX7_endOf_0 : decode cX7_endOf 0 = .ok (.iconst (-1), 1) := by decide +kernel
theorem dX7_endOf_1 : decode cX7_endOf 1 = .ok (.istore_n 2, 1) := by decide +kernel
theorem dX7_endOf_2 : decode cX7_endOf 2 = .ok (.iconst 0, 1) := by decide +kernel
theorem dX7_endOf_3 : decode cX7_endOf 3 = .ok (.istore_n 3, 1) := by decide +kernel
theorem dX7_endOf_4 : decode cX7_endOf 4 = .ok (.iload_n 3, 1) := by decide +kernel
theorem dX7_endOf_5 : decode cX7_endOf 5 = .ok (.aload_n 0, 1) := by decide +kernel
theorem dX7_endOf_6 : decode cX7_endOf 6 = .ok (.getfield 199, 3) := by decide +kernel
theorem dX7_endOf_9 : decode cX7_endOf 9 = .ok (.if_icmp .ge 38, 3) := by decide +kernel
theorem dX7_endOf_12 : decode cX7_endOf 12 = .ok (.aload_n 0, 1) := by decide +kernel
theorem dX7_endOf_13 : decode cX7_endOf 13 = .ok (.getfield 43, 3) := by decide +kernel
theorem dX7_endOf_16 : decode cX7_endOf 16 = .ok (.iload_n 3, 1) := by decide +kernel
theorem dX7_endOf_17 : decode cX7_endOf 17 = .ok (.iaload, 1) := by decide +kernel
theorem dX7_endOf_18 : decode cX7_endOf 18 = .ok (.iload_n 1, 1) := by decide +kernel
theorem dX7_endOf_19 : decode cX7_endOf 19 = .ok (.if_icmp .ne 20, 3) := by decide +kernel
theorem dX7_endOf_22 : decode cX7_endOf 22 = .ok (.aload_n 0, 1) := by decide +kernel
theorem dX7_endOf_23 : decode cX7_endOf 23 = .ok (.iload_n 3, 1) := by decide +kernel
theorem dX7_endOf_24 : decode cX7_endOf 24 = .ok (.invokevirtual 202, 3) := by decide +kernel
theorem dX7_endOf_27 : decode cX7_endOf 27 = .ok (.iload_n 2, 1) := by decide +kernel
theorem dX7_endOf_28 : decode cX7_endOf 28 = .ok (.if_icmp .le 11, 3) := by decide +kernel
theorem dX7_endOf_31 : decode cX7_endOf 31 = .ok (.aload_n 0, 1) := by decide +kernel
theorem dX7_endOf_32 : decode cX7_endOf 32 = .ok (.iload_n 3, 1) := by decide +kernel
theorem dX7_endOf_33 : decode cX7_endOf 33 = .ok (.invokevirtual 202, 3) := by decide +kernel
theorem dX7_endOf_36 : decode cX7_endOf 36 = .ok (.goto 4, 3) := by decide +kernel
theorem dX7_endOf_39 : decode cX7_endOf 39 = .ok (.iload_n 2, 1) := by decide +kernel
theorem dX7_endOf_40 : decode cX7_endOf 40 = .ok (.istore_n 2, 1) := by decide +kernel
theorem dX7_endOf_41 : decode cX7_endOf 41 = .ok (.iinc 3 1, 3) := by decide +kernel
theorem dX7_endOf_44 : decode cX7_endOf 44 = .ok (.goto (-40), 3) := by decide +kernel
theorem dX7_endOf_47 : decode cX7_endOf 47 = .ok (.iload_n 2, 1) := by decide +kernel
theorem dX7_endOf_48 : decode cX7_endOf 48 = .ok (.ireturn, 1) := by decide +kernel
theorem dX7_daysOf_0 : decode cX7_daysOf 0 = .ok (.aload_n 0, 1) := by decide +kernel
theorem dX7_daysOf_1 : decode cX7_daysOf 1 = .ok (.invokevirtual 167, 3) := by decide +kernel
theorem dX7_daysOf_4 : decode cX7_daysOf 4 = .ok (.aload_n 0, 1) := by decide +kernel
theorem dX7_daysOf_5 : decode cX7_daysOf 5 = .ok (.iload_n 1, 1) := by decide +kernel
theorem dX7_daysOf_6 : decode cX7_daysOf 6 = .ok (.iconst 0, 1) := by decide +kernel
theorem dX7_daysOf_7 : decode cX7_daysOf 7 = .ok (.aload_n 0, 1) := by decide +kernel
theorem dX7_daysOf_8 : decode cX7_daysOf 8 = .ok (.iload_n 1, 1) := by decide +kernel
theorem dX7_daysOf_9 : decode cX7_daysOf 9 = .ok (.invokevirtual 235, 3) := by decide +kernel
theorem dX7_daysOf_12 : decode cX7_daysOf 12 = .ok (.invokevirtual 238, 3) := by decide +kernel
theorem dX7_daysOf_15 : decode cX7_daysOf 15 = .ok (.ireturn, 1) := by decide +kernel
theorem dX7_event_0 : decode cX7_event 0 = .ok (.aload_n 0, 1) := by decide +kernel
theorem dX7_event_1 : decode cX7_event 1 = .ok (.iload_n 1, 1) := by decide +kernel
theorem dX7_event_2 : decode cX7_event 2 = .ok (.invokevirtual 176, 3) := by decide +kernel
theorem dX7_event_5 : decode cX7_event 5 = .ok (.ifCond .eq 15, 3) := by decide +kernel
theorem dX7_event_8 : decode cX7_event 8 = .ok (.iload_n 2, 1) := by decide +kernel
theorem dX7_event_9 : decode cX7_event 9 = .ok (.i2l, 1) := by decide +kernel
theorem dX7_event_10 : decode cX7_event 10 = .ok (.lconst 0, 1) := by decide +kernel
theorem dX7_event_11 : decode cX7_event 11 = .ok (.ldc2_w 241, 3) := by decide +kernel
theorem dX7_event_14 : decode cX7_event 14 = .ok (.invokestatic 79, 3) := by decide +kernel
theorem dX7_event_17 : decode cX7_event 17 = .ok (.ifCond .ne 5, 3) := by decide +kernel
theorem dX7_event_20 : decode cX7_event 20 = .ok (.iconst (-1), 1) := by decide +kernel
theorem dX7_event_21 : decode cX7_event 21 = .ok (.ireturn, 1) := by decide +kernel
theorem dX7_event_22 : decode cX7_event 22 = .ok (.aload_n 0, 1) := by decide +kernel
theorem dX7_event_23 : decode cX7_event 23 = .ok (.invokevirtual 167, 3) := by decide +kernel
theorem dX7_event_26 : decode cX7_event 26 = .ok (.iload_n 2, 1) := by decide +kernel
theorem dX7_event_27 : decode cX7_event 27 = .ok (.iconst 3, 1) := by decide +kernel
theorem dX7_event_28 : decode cX7_event 28 = .ok (.if_icmp .ge 10, 3) := by decide +kernel
theorem dX7_event_31 : decode cX7_event 31 = .ok (.aload_n 0, 1) := by decide +kernel
theorem dX7_event_32 : decode cX7_event 32 = .ok (.iload_n 1, 1) := by decide +kernel
theorem dX7_event_33 : decode cX7_event 33 = .ok (.iload_n 2, 1) := by decide +kernel
theorem dX7_event_34 : decode cX7_event 34 = .ok (.invokevirtual 164, 3) := by decide +kernel
theorem dX7_event_37 : decode cX7_event 37 = .ok (.ireturn, 1) := by decide +kernel
theorem dX7_event_38 : decode cX7_event 38 = .ok (.iload_n 2, 1) := by decide +kernel
theorem dX7_event_39 : decode cX7_event 39 = .ok (.bipush 9, 2) := by decide +kernel
theorem dX7_event_41 : decode cX7_event 41 = .ok (.if_icmp .ne 10, 3) := by decide +kernel
theorem dX7_event_44 : decode cX7_event 44 = .ok (.aload_n 0, 1) := by decide +kernel
theorem dX7_event_45 : decode cX7_event 45 = .ok (.getfield 37, 3) := by decide +kernel
theorem dX7_event_48 : decode cX7_event 48 = .ok (.iload_n 1, 1) := by decide +kernel
theorem dX7_event_49 : decode cX7_event 49 = .ok (.iaload, 1) := by decide +kernel
theorem dX7_event_50 : decode cX7_event 50 = .ok (.ireturn, 1) := by decide +kernel
theorem dX7_event_51 : decode cX7_event 51 = .ok (.aload_n 0, 1) := by decide +kernel
theorem dX7_event_52 : decode cX7_event 52 = .ok (.iload_n 1, 1) := by decide +kernel
theorem dX7_event_53 : decode cX7_event 53 = .ok (.iconst 2, 1) := by decide +kernel
theorem dX7_event_54 : decode cX7_event 54 = .ok (.invokevirtual 164, 3) := by decide +kernel
theorem dX7_event_57 : decode cX7_event 57 = .ok (.iload_n 2, 1) := by decide +kernel
theorem dX7_event_58 : decode cX7_event 58 = .ok (.bipush 10, 2) := by decide +kernel
theorem dX7_event_60 : decode cX7_event 60 = .ok (.if_icmp .ne 7, 3) := by decide +kernel
theorem dX7_event_63 : decode cX7_event 63 = .ok (.iconst 2, 1) := by decide +kernel
theorem dX7_event_64 : decode cX7_event 64 = .ok (.goto 4, 3) := by decide +kernel
theorem dX7_event_67 : decode cX7_event 67 = .ok (.iconst 0, 1) := by decide +kernel
theorem dX7_event_68 : decode cX7_event 68 = .ok (.if_icmp .eq 6, 3) := by decide +kernel
theorem dX7_event_71 : decode cX7_event 71 = .ok (.bipush (-4), 2) := by decide +kernel
theorem dX7_event_73 : decode cX7_event 73 = .ok (.ireturn, 1) := by decide +kernel
theorem dX7_event_74 : decode cX7_event 74 = .ok (.iload_n 2, 1) := by decide +kernel
theorem dX7_event_75 : decode cX7_event 75 = .ok (.bipush 10, 2) := by decide +kernel
theorem dX7_event_77 : decode cX7_event 77 = .ok (.if_icmp .ne 12, 3) := by decide +kernel
theorem dX7_event_80 : decode cX7_event 80 = .ok (.aload_n 0, 1) := by decide +kernel
theorem dX7_event_81 : decode cX7_event 81 = .ok (.getfield 40, 3) := by decide +kernel
theorem dX7_event_84 : decode cX7_event 84 = .ok (.iload_n 1, 1) := by decide +kernel
theorem dX7_event_85 : decode cX7_event 85 = .ok (.iaload, 1) := by decide +kernel
theorem dX7_event_86 : decode cX7_event 86 = .ok (.goto 24, 3) := by decide +kernel
theorem dX7_event_89 : decode cX7_event 89 = .ok (.iload_n 2, 1) := by decide +kernel
theorem dX7_event_90 : decode cX7_event 90 = .ok (.bipush 8, 2) := by decide +kernel
theorem dX7_event_92 : decode cX7_event 92 = .ok (.if_icmp .ne 12, 3) := by decide +kernel
theorem dX7_event_95 : decode cX7_event 95 = .ok (.aload_n 0, 1) := by decide +kernel
theorem dX7_event_96 : decode cX7_event 96 = .ok (.getfield 34, 3) := by decide +kernel
theorem dX7_event_99 : decode cX7_event 99 = .ok (.iload_n 1, 1) := by decide +kernel
theorem dX7_event_100 : decode cX7_event 100 = .ok (.iaload, 1) := by decide +kernel
theorem dX7_event_101 : decode cX7_event 101 = .ok (.goto 9, 3) := by decide +kernel
theorem dX7_event_104 : decode cX7_event 104 = .ok (.aload_n 0, 1) := by decide +kernel
theorem dX7_event_105 : decode cX7_event 105 = .ok (.iload_n 1, 1) := by decide +kernel
theorem dX7_event_106 : decode cX7_event 106 = .ok (.iload_n 2, 1) := by decide +kernel
theorem dX7_event_107 : decode cX7_event 107 = .ok (.invokevirtual 164, 3) := by decide +kernel
theorem dX7_event_110 : decode cX7_event 110 = .ok (.ireturn, 1) := by decide +kernel
theorem dX7_sum_0 : decode cX7_sum 0 = .ok (.iload_n 1, 1) := by decide +kernel
theorem dX7_sum_1 : decode cX7_sum 1 = .ok (.invokestatic 157, 3) := by decide +kernel
theorem dX7_sum_4 : decode cX7_sum 4 = .ok (.ifCond .eq 15, 3) := by decide +kernel
theorem dX7_sum_7 : decode cX7_sum 7 = .ok (.iload_n 2, 1) := by decide +kernel
theorem dX7_sum_8 : decode cX7_sum 8 = .ok (.i2l, 1) := by decide +kernel
theorem dX7_sum_9 : decode cX7_sum 9 = .ok (.lconst 0, 1) := by decide +kernel
theorem dX7_sum_10 : decode cX7_sum 10 = .ok (.ldc2_w 155, 3) := by decide +kernel
theorem dX7_sum_13 : decode cX7_sum 13 = .ok (.invokestatic 79, 3) := by decide +kernel
theorem dX7_sum_16 : decode cX7_sum 16 = .ok (.ifCond .ne 5, 3) := by decide +kernel
theorem dX7_sum_19 : decode cX7_sum 19 = .ok (.iconst (-1), 1) := by decide +kernel
theorem dX7_sum_20 : decode cX7_sum 20 = .ok (.ireturn, 1) := by decide +kernel
theorem dX7_sum_21 : decode cX7_sum 21 = .ok (.aload_n 0, 1) := by decide +kernel
theorem dX7_sum_22 : decode cX7_sum 22 = .ok (.invokevirtual 167, 3) := by decide +kernel
theorem dX7_sum_25 : decode cX7_sum 25 = .ok (.aload_n 0, 1) := by decide +kernel
theorem dX7_sum_26 : decode cX7_sum 26 = .ok (.iload_n 1, 1) := by decide +kernel
theorem dX7_sum_27 : decode cX7_sum 27 = .ok (.iload_n 2, 1) := by decide +kernel
theorem dX7_sum_28 : decode cX7_sum 28 = .ok (.aload_n 0, 1) := by decide +kernel
theorem dX7_sum_29 : decode cX7_sum 29 = .ok (.getfield 13, 3) := by decide +kernel
theorem dX7_sum_32 : decode cX7_sum 32 = .ok (.sipush 334, 3) := by decide +kernel
theorem dX7_sum_35 : decode cX7_sum 35 = .ok (.iaload, 1) := by decide +kernel
theorem dX7_sum_36 : decode cX7_sum 36 = .ok (.invokevirtual 216, 3) := by decide +kernel
theorem dX7_sum_39 : decode cX7_sum 39 = .ok (.istore_n 3, 1) := by decide +kernel
theorem dX7_sum_40 : decode cX7_sum 40 = .ok (.iload_n 3, 1) := by decide +kernel
theorem dX7_sum_41 : decode cX7_sum 41 = .ok (.ifCond .ge 7, 3) := by decide +kernel
theorem dX7_sum_44 : decode cX7_sum 44 = .ok (.iconst 0, 1) := by decide +kernel
theorem dX7_sum_45 : decode cX7_sum 45 = .ok (.goto 4, 3) := by decide +kernel
theorem dX7_sum_48 : decode cX7_sum 48 = .ok (.iload_n 3, 1) := by decide +kernel
theorem dX7_sum_49 : decode cX7_sum 49 = .ok (.ireturn, 1) := by decide +kernel
theorem dX7_need_0 : decode cX7_need 0 = .ok (.iload_n 1, 1) := by decide +kernel
theorem dX7_need_1 : decode cX7_need 1 = .ok (.invokestatic 157, 3) := by decide +kernel
theorem dX7_need_4 : decode cX7_need 4 = .ok (.ifCond .ne 5, 3) := by decide +kernel
theorem dX7_need_7 : decode cX7_need 7 = .ok (.iconst (-1), 1) := by decide +kernel
theorem dX7_need_8 : decode cX7_need 8 = .ok (.ireturn, 1) := by decide +kernel
theorem dX7_need_9 : decode cX7_need 9 = .ok (.aload_n 0, 1) := by decide +kernel
theorem dX7_need_10 : decode cX7_need 10 = .ok (.invokevirtual 167, 3) := by decide +kernel
theorem dX7_need_13 : decode cX7_need 13 = .ok (.aload_n 0, 1) := by decide +kernel
theorem dX7_need_14 : decode cX7_need 14 = .ok (.iload_n 1, 1) := by decide +kernel
theorem dX7_need_15 : decode cX7_need 15 = .ok (.aload_n 0, 1) := by decide +kernel
theorem dX7_need_16 : decode cX7_need 16 = .ok (.getfield 130, 3) := by decide +kernel
theorem dX7_need_19 : decode cX7_need 19 = .ok (.aload_n 0, 1) := by decide +kernel
theorem dX7_need_20 : decode cX7_need 20 = .ok (.getfield 13, 3) := by decide +kernel
theorem dX7_need_23 : decode cX7_need 23 = .ok (.sipush 334, 3) := by decide +kernel
theorem dX7_need_26 : decode cX7_need 26 = .ok (.iaload, 1) := by decide +kernel
theorem dX7_need_27 : decode cX7_need 27 = .ok (.invokevirtual 216, 3) := by decide +kernel
theorem dX7_need_30 : decode cX7_need 30 = .ok (.istore_n 2, 1) := by decide +kernel
theorem dX7_need_31 : decode cX7_need 31 = .ok (.aload_n 0, 1) := by decide +kernel
theorem dX7_need_32 : decode cX7_need 32 = .ok (.iload_n 1, 1) := by decide +kernel
theorem dX7_need_33 : decode cX7_need 33 = .ok (.aload_n 0, 1) := by decide +kernel
theorem dX7_need_34 : decode cX7_need 34 = .ok (.getfield 130, 3) := by decide +kernel
theorem dX7_need_37 : decode cX7_need 37 = .ok (.invokevirtual 209, 3) := by decide +kernel
theorem dX7_need_40 : decode cX7_need 40 = .ok (.ifCond .eq 7, 3) := by decide +kernel
theorem dX7_need_43 : decode cX7_need 43 = .ok (.iconst 2, 1) := by decide +kernel
theorem dX7_need_44 : decode cX7_need 44 = .ok (.goto 4, 3) := by decide +kernel
theorem dX7_need_47 : decode cX7_need 47 = .ok (.iconst 1, 1) := by decide +kernel
theorem dX7_need_48 : decode cX7_need 48 = .ok (.istore_n 3, 1) := by decide +kernel
theorem dX7_need_49 : decode cX7_need 49 = .ok (.iconst 1, 1) := by decide +kernel
theorem dX7_need_50 : decode cX7_need 50 = .ok (.istore 4, 2) := by decide +kernel
theorem dX7_need_52 : decode cX7_need 52 = .ok (.iload 4, 2) := by decide +kernel
theorem dX7_need_54 : decode cX7_need 54 = .ok (.bipush 100, 2) := by decide +kernel
theorem dX7_need_56 : decode cX7_need 56 = .ok (.if_icmp .ge 26, 3) := by decide +kernel
theorem dX7_need_59 : decode cX7_need 59 = .ok (.iload_n 2, 1) := by decide +kernel
theorem dX7_need_60 : decode cX7_need 60 = .ok (.iload_n 3, 1) := by decide +kernel
theorem dX7_need_61 : decode cX7_need 61 = .ok (.iload 4, 2) := by decide +kernel
theorem dX7_need_63 : decode cX7_need 63 = .ok (.imul, 1) := by decide +kernel
theorem dX7_need_64 : decode cX7_need 64 = .ok (.iadd, 1) := by decide +kernel
theorem dX7_need_65 : decode cX7_need 65 = .ok (.aload_n 0, 1) := by decide +kernel
theorem dX7_need_66 : decode cX7_need 66 = .ok (.iconst 1, 1) := by decide +kernel
theorem dX7_need_67 : decode cX7_need 67 = .ok (.invokevirtual 145, 3) := by decide +kernel
theorem dX7_need_70 : decode cX7_need 70 = .ok (.if_icmp .lt 6, 3) := by decide +kernel
theorem dX7_need_73 : decode cX7_need 73 = .ok (.iload 4, 2) := by decide +kernel
theorem dX7_need_75 : decode cX7_need 75 = .ok (.ireturn, 1) := by decide +kernel
theorem dX7_need_76 : decode cX7_need 76 = .ok (.iinc 4 1, 3) := by decide +kernel
theorem dX7_need_79 : decode cX7_need 79 = .ok (.goto (-27), 3) := by decide +kernel
theorem dX7_need_82 : decode cX7_need 82 = .ok (.bipush (-4), 2) := by decide +kernel
theorem dX7_need_84 : decode cX7_need 84 = .ok (.ireturn, 1) := by decide +kernel
theorem dX7_would_0 : decode cX7_would 0 = .ok (.iload_n 1, 1) := by decide +kernel
theorem dX7_would_1 : decode cX7_would 1 = .ok (.invokestatic 157, 3) := by decide +kernel
theorem dX7_would_4 : decode cX7_would 4 = .ok (.ifCond .eq 25, 3) := by decide +kernel
theorem dX7_would_7 : decode cX7_would 7 = .ok (.iload_n 2, 1) := by decide +kernel
theorem dX7_would_8 : decode cX7_would 8 = .ok (.i2l, 1) := by decide +kernel
theorem dX7_would_9 : decode cX7_would 9 = .ok (.lconst 0, 1) := by decide +kernel
theorem dX7_would_10 : decode cX7_would 10 = .ok (.aload_n 0, 1) := by decide +kernel
theorem dX7_would_11 : decode cX7_would 11 = .ok (.getfield 130, 3) := by decide +kernel
theorem dX7_would_14 : decode cX7_would 14 = .ok (.i2l, 1) := by decide +kernel
theorem dX7_would_15 : decode cX7_would 15 = .ok (.invokestatic 79, 3) := by decide +kernel
theorem dX7_would_18 : decode cX7_would 18 = .ok (.ifCond .eq 11, 3) := by decide +kernel
theorem dX7_would_21 : decode cX7_would 21 = .ok (.aload_n 0, 1) := by decide +kernel
theorem dX7_would_22 : decode cX7_would 22 = .ok (.iload_n 3, 1) := by decide +kernel
theorem dX7_would_23 : decode cX7_would 23 = .ok (.invokevirtual 151, 3) := by decide +kernel
theorem dX7_would_26 : decode cX7_would 26 = .ok (.ifCond .ne 5, 3) := by decide +kernel
theorem dX7_would_29 : decode cX7_would 29 = .ok (.iconst (-1), 1) := by decide +kernel
theorem dX7_would_30 : decode cX7_would 30 = .ok (.ireturn, 1) := by decide +kernel
theorem dX7_would_31 : decode cX7_would 31 = .ok (.aload_n 0, 1) := by decide +kernel
theorem dX7_would_32 : decode cX7_would 32 = .ok (.iload_n 1, 1) := by decide +kernel
theorem dX7_would_33 : decode cX7_would 33 = .ok (.invokevirtual 179, 3) := by decide +kernel
theorem dX7_would_36 : decode cX7_would 36 = .ok (.istore 4, 2) := by decide +kernel
theorem dX7_would_38 : decode cX7_would 38 = .ok (.aload_n 0, 1) := by decide +kernel
theorem dX7_would_39 : decode cX7_would 39 = .ok (.iload_n 1, 1) := by decide +kernel
theorem dX7_would_40 : decode cX7_would 40 = .ok (.iconst 0, 1) := by decide +kernel
theorem dX7_would_41 : decode cX7_would 41 = .ok (.iload_n 2, 1) := by decide +kernel
theorem dX7_would_42 : decode cX7_would 42 = .ok (.iload_n 3, 1) := by decide +kernel
theorem dX7_would_43 : decode cX7_would 43 = .ok (.iconst 0, 1) := by decide +kernel
theorem dX7_would_44 : decode cX7_would 44 = .ok (.invokevirtual 160, 3) := by decide +kernel
theorem dX7_would_47 : decode cX7_would 47 = .ok (.aload_n 0, 1) := by decide +kernel
theorem dX7_would_48 : decode cX7_would 48 = .ok (.iload_n 1, 1) := by decide +kernel
theorem dX7_would_49 : decode cX7_would 49 = .ok (.invokevirtual 179, 3) := by decide +kernel
theorem dX7_would_52 : decode cX7_would 52 = .ok (.istore 5, 2) := by decide +kernel
theorem dX7_would_54 : decode cX7_would 54 = .ok (.aload_n 0, 1) := by decide +kernel
theorem dX7_would_55 : decode cX7_would 55 = .ok (.getfield 13, 3) := by decide +kernel
theorem dX7_would_58 : decode cX7_would 58 = .ok (.sipush 334, 3) := by decide +kernel
theorem dX7_would_61 : decode cX7_would 61 = .ok (.dup2, 1) := by decide +kernel
theorem dX7_would_62 : decode cX7_would 62 = .ok (.iaload, 1) := by decide +kernel
theorem dX7_would_63 : decode cX7_would 63 = .ok (.iconst 1, 1) := by decide +kernel
theorem dX7_would_64 : decode cX7_would 64 = .ok (.isub, 1) := by decide +kernel
theorem dX7_would_65 : decode cX7_would 65 = .ok (.iastore, 1) := by decide +kernel
theorem dX7_would_66 : decode cX7_would 66 = .ok (.aload_n 0, 1) := by decide +kernel
theorem dX7_would_67 : decode cX7_would 67 = .ok (.iconst 0, 1) := by decide +kernel
theorem dX7_would_68 : decode cX7_would 68 = .ok (.putfield 133, 3) := by decide +kernel
theorem dX7_would_71 : decode cX7_would 71 = .ok (.iload 5, 2) := by decide +kernel
theorem dX7_would_73 : decode cX7_would 73 = .ok (.iload 4, 2) := by decide +kernel
theorem dX7_would_75 : decode cX7_would 75 = .ok (.isub, 1) := by decide +kernel
theorem dX7_would_76 : decode cX7_would 76 = .ok (.ireturn, 1) := by decide +kernel
theorem dX7_banned_0 : decode cX7_banned 0 = .ok (.iload_n 1, 1) := by decide +kernel
theorem dX7_banned_1 : decode cX7_banned 1 = .ok (.invokestatic 157, 3) := by decide +kernel
theorem dX7_banned_4 : decode cX7_banned 4 = .ok (.ifCond .eq 15, 3) := by decide +kernel
theorem dX7_banned_7 : decode cX7_banned 7 = .ok (.iload_n 2, 1) := by decide +kernel
theorem dX7_banned_8 : decode cX7_banned 8 = .ok (.i2l, 1) := by decide +kernel
theorem dX7_banned_9 : decode cX7_banned 9 = .ok (.lconst 0, 1) := by decide +kernel
theorem dX7_banned_10 : decode cX7_banned 10 = .ok (.ldc2_w 243, 3) := by decide +kernel
theorem dX7_banned_13 : decode cX7_banned 13 = .ok (.invokestatic 79, 3) := by decide +kernel
theorem dX7_banned_16 : decode cX7_banned 16 = .ok (.ifCond .ne 5, 3) := by decide +kernel
theorem dX7_banned_19 : decode cX7_banned 19 = .ok (.iconst (-1), 1) := by decide +kernel
theorem dX7_banned_20 : decode cX7_banned 20 = .ok (.ireturn, 1) := by decide +kernel
theorem dX7_banned_21 : decode cX7_banned 21 = .ok (.aload_n 0, 1) := by decide +kernel
theorem dX7_banned_22 : decode cX7_banned 22 = .ok (.invokevirtual 167, 3) := by decide +kernel
theorem dX7_banned_25 : decode cX7_banned 25 = .ok (.aload_n 0, 1) := by decide +kernel
theorem dX7_banned_26 : decode cX7_banned 26 = .ok (.iload_n 1, 1) := by decide +kernel
theorem dX7_banned_27 : decode cX7_banned 27 = .ok (.iload_n 2, 1) := by decide +kernel
theorem dX7_banned_28 : decode cX7_banned 28 = .ok (.invokevirtual 209, 3) := by decide +kernel
theorem dX7_banned_31 : decode cX7_banned 31 = .ok (.ifCond .eq 7, 3) := by decide +kernel
theorem dX7_banned_34 : decode cX7_banned 34 = .ok (.iconst 1, 1) := by decide +kernel
theorem dX7_banned_35 : decode cX7_banned 35 = .ok (.goto 4, 3) := by decide +kernel
theorem dX7_banned_38 : decode cX7_banned 38 = .ok (.iconst 0, 1) := by decide +kernel
theorem dX7_banned_39 : decode cX7_banned 39 = .ok (.ireturn, 1) := by decide +kernel
theorem dX7_days_0 : decode cX7_days 0 = .ok (.iload_n 1, 1) := by decide +kernel
theorem dX7_days_1 : decode cX7_days 1 = .ok (.invokestatic 157, 3) := by decide +kernel
theorem dX7_days_4 : decode cX7_days 4 = .ok (.ifCond .eq 28, 3) := by decide +kernel
theorem dX7_days_7 : decode cX7_days 7 = .ok (.iload_n 2, 1) := by decide +kernel
theorem dX7_days_8 : decode cX7_days 8 = .ok (.i2l, 1) := by decide +kernel
theorem dX7_days_9 : decode cX7_days 9 = .ok (.lconst 0, 1) := by decide +kernel
theorem dX7_days_10 : decode cX7_days 10 = .ok (.ldc2_w 243, 3) := by decide +kernel
theorem dX7_days_13 : decode cX7_days 13 = .ok (.invokestatic 79, 3) := by decide +kernel
theorem dX7_days_16 : decode cX7_days 16 = .ok (.ifCond .eq 16, 3) := by decide +kernel
theorem dX7_days_19 : decode cX7_days 19 = .ok (.iload_n 3, 1) := by decide +kernel
theorem dX7_days_20 : decode cX7_days 20 = .ok (.i2l, 1) := by decide +kernel
theorem dX7_days_21 : decode cX7_days 21 = .ok (.iload_n 2, 1) := by decide +kernel
theorem dX7_days_22 : decode cX7_days 22 = .ok (.i2l, 1) := by decide +kernel
theorem dX7_days_23 : decode cX7_days 23 = .ok (.ldc2_w 243, 3) := by decide +kernel
theorem dX7_days_26 : decode cX7_days 26 = .ok (.invokestatic 79, 3) := by decide +kernel
theorem dX7_days_29 : decode cX7_days 29 = .ok (.ifCond .ne 5, 3) := by decide +kernel
theorem dX7_days_32 : decode cX7_days 32 = .ok (.iconst (-1), 1) := by decide +kernel
theorem dX7_days_33 : decode cX7_days 33 = .ok (.ireturn, 1) := by decide +kernel
theorem dX7_days_34 : decode cX7_days 34 = .ok (.aload_n 0, 1) := by decide +kernel
theorem dX7_days_35 : decode cX7_days 35 = .ok (.invokevirtual 167, 3) := by decide +kernel
theorem dX7_days_38 : decode cX7_days 38 = .ok (.aload_n 0, 1) := by decide +kernel
theorem dX7_days_39 : decode cX7_days 39 = .ok (.iload_n 1, 1) := by decide +kernel
theorem dX7_days_40 : decode cX7_days 40 = .ok (.invokevirtual 235, 3) := by decide +kernel
theorem dX7_days_43 : decode cX7_days 43 = .ok (.istore 4, 2) := by decide +kernel
theorem dX7_days_45 : decode cX7_days 45 = .ok (.aload_n 0, 1) := by decide +kernel
theorem dX7_days_46 : decode cX7_days 46 = .ok (.iload_n 1, 1) := by decide +kernel
theorem dX7_days_47 : decode cX7_days 47 = .ok (.iload_n 2, 1) := by decide +kernel
theorem dX7_days_48 : decode cX7_days 48 = .ok (.iload_n 3, 1) := by decide +kernel
theorem dX7_days_49 : decode cX7_days 49 = .ok (.iload 4, 2) := by decide +kernel
theorem dX7_days_51 : decode cX7_days 51 = .ok (.if_icmp .ge 7, 3) := by decide +kernel
theorem dX7_days_54 : decode cX7_days 54 = .ok (.iload_n 3, 1) := by decide +kernel
theorem dX7_days_55 : decode cX7_days 55 = .ok (.goto 5, 3) := by decide +kernel
theorem dX7_days_58 : decode cX7_days 58 = .ok (.iload 4, 2) := by decide +kernel
theorem dX7_days_60 : decode cX7_days 60 = .ok (.invokevirtual 238, 3) := by decide +kernel
theorem dX7_days_63 : decode cX7_days 63 = .ok (.ireturn, 1) := by decide +kernel
theorem dX7_free_0 : decode cX7_free 0 = .ok (.iload_n 1, 1) := by decide +kernel
theorem dX7_free_1 : decode cX7_free 1 = .ok (.invokestatic 157, 3) := by decide +kernel
theorem dX7_free_4 : decode cX7_free 4 = .ok (.ifCond .ne 5, 3) := by decide +kernel
theorem dX7_free_7 : decode cX7_free 7 = .ok (.iconst (-1), 1) := by decide +kernel
theorem dX7_free_8 : decode cX7_free 8 = .ok (.ireturn, 1) := by decide +kernel
theorem dX7_free_9 : decode cX7_free 9 = .ok (.aload_n 0, 1) := by decide +kernel
theorem dX7_free_10 : decode cX7_free 10 = .ok (.invokevirtual 167, 3) := by decide +kernel
theorem dX7_free_13 : decode cX7_free 13 = .ok (.aload_n 0, 1) := by decide +kernel
theorem dX7_free_14 : decode cX7_free 14 = .ok (.getfield 130, 3) := by decide +kernel
theorem dX7_free_17 : decode cX7_free 17 = .ok (.istore_n 2, 1) := by decide +kernel
theorem dX7_free_18 : decode cX7_free 18 = .ok (.aload_n 0, 1) := by decide +kernel
theorem dX7_free_19 : decode cX7_free 19 = .ok (.iload_n 1, 1) := by decide +kernel
theorem dX7_free_20 : decode cX7_free 20 = .ok (.iload_n 2, 1) := by decide +kernel
theorem dX7_free_21 : decode cX7_free 21 = .ok (.invokevirtual 209, 3) := by decide +kernel
theorem dX7_free_24 : decode cX7_free 24 = .ok (.ifCond .eq 9, 3) := by decide +kernel
theorem dX7_free_27 : decode cX7_free 27 = .ok (.iinc 2 1, 3) := by decide +kernel
theorem dX7_free_30 : decode cX7_free 30 = .ok (.goto (-12), 3) := by decide +kernel
theorem dX7_free_33 : decode cX7_free 33 = .ok (.iload_n 2, 1) := by decide +kernel
theorem dX7_free_34 : decode cX7_free 34 = .ok (.ireturn, 1) := by decide +kernel
theorem dX7_banAt_0 : decode cX7_banAt 0 = .ok (.iconst 0, 1) := by decide +kernel
theorem dX7_banAt_1 : decode cX7_banAt 1 = .ok (.istore_n 3, 1) := by decide +kernel
theorem dX7_banAt_2 : decode cX7_banAt 2 = .ok (.iconst 0, 1) := by decide +kernel
theorem dX7_banAt_3 : decode cX7_banAt 3 = .ok (.istore 4, 2) := by decide +kernel
theorem dX7_banAt_5 : decode cX7_banAt 5 = .ok (.iload 4, 2) := by decide +kernel
theorem dX7_banAt_7 : decode cX7_banAt 7 = .ok (.aload_n 0, 1) := by decide +kernel
theorem dX7_banAt_8 : decode cX7_banAt 8 = .ok (.getfield 199, 3) := by decide +kernel
theorem dX7_banAt_11 : decode cX7_banAt 11 = .ok (.if_icmp .ge 31, 3) := by decide +kernel
theorem dX7_banAt_14 : decode cX7_banAt 14 = .ok (.aload_n 0, 1) := by decide +kernel
theorem dX7_banAt_15 : decode cX7_banAt 15 = .ok (.getfield 43, 3) := by decide +kernel
theorem dX7_banAt_18 : decode cX7_banAt 18 = .ok (.iload 4, 2) := by decide +kernel
theorem dX7_banAt_20 : decode cX7_banAt 20 = .ok (.iaload, 1) := by decide +kernel
theorem dX7_banAt_21 : decode cX7_banAt 21 = .ok (.iload_n 1, 1) := by decide +kernel
theorem dX7_banAt_22 : decode cX7_banAt 22 = .ok (.if_icmp .ne 14, 3) := by decide +kernel
theorem dX7_banAt_25 : decode cX7_banAt 25 = .ok (.iload_n 3, 1) := by decide +kernel
theorem dX7_banAt_26 : decode cX7_banAt 26 = .ok (.iload_n 2, 1) := by decide +kernel
theorem dX7_banAt_27 : decode cX7_banAt 27 = .ok (.if_icmp .ne 6, 3) := by decide +kernel
theorem dX7_banAt_30 : decode cX7_banAt 30 = .ok (.iload 4, 2) := by decide +kernel
theorem dX7_banAt_32 : decode cX7_banAt 32 = .ok (.ireturn, 1) := by decide +kernel
theorem dX7_banAt_33 : decode cX7_banAt 33 = .ok (.iinc 3 1, 3) := by decide +kernel
theorem dX7_banAt_36 : decode cX7_banAt 36 = .ok (.iinc 4 1, 3) := by decide +kernel
theorem dX7_banAt_39 : decode cX7_banAt 39 = .ok (.goto (-34), 3) := by decide +kernel
theorem dX7_banAt_42 : decode cX7_banAt 42 = .ok (.bipush (-4), 2) := by decide +kernel
theorem dX7_banAt_44 : decode cX7_banAt 44 = .ok (.ireturn, 1) := by decide +kernel
theorem dX7_ban_0 : decode cX7_ban 0 = .ok (.iload_n 1, 1) := by decide +kernel
theorem dX7_ban_1 : decode cX7_ban 1 = .ok (.invokestatic 157, 3) := by decide +kernel
theorem dX7_ban_4 : decode cX7_ban 4 = .ok (.ifCond .eq 20, 3) := by decide +kernel
theorem dX7_ban_7 : decode cX7_ban 7 = .ok (.iload_n 2, 1) := by decide +kernel
theorem dX7_ban_8 : decode cX7_ban 8 = .ok (.iconst (-1), 1) := by decide +kernel
theorem dX7_ban_9 : decode cX7_ban 9 = .ok (.if_icmp .lt 15, 3) := by decide +kernel
theorem dX7_ban_12 : decode cX7_ban 12 = .ok (.iload_n 3, 1) := by decide +kernel
theorem dX7_ban_13 : decode cX7_ban 13 = .ok (.i2l, 1) := by decide +kernel
theorem dX7_ban_14 : decode cX7_ban 14 = .ok (.lconst 0, 1) := by decide +kernel
theorem dX7_ban_15 : decode cX7_ban 15 = .ok (.ldc2_w 245, 3) := by decide +kernel
theorem dX7_ban_18 : decode cX7_ban 18 = .ok (.invokestatic 79, 3) := by decide +kernel
theorem dX7_ban_21 : decode cX7_ban 21 = .ok (.ifCond .ne 5, 3) := by decide +kernel
theorem dX7_ban_24 : decode cX7_ban 24 = .ok (.iconst (-1), 1) := by decide +kernel
theorem dX7_ban_25 : decode cX7_ban 25 = .ok (.ireturn, 1) := by decide +kernel
theorem dX7_ban_26 : decode cX7_ban 26 = .ok (.aload_n 0, 1) := by decide +kernel
theorem dX7_ban_27 : decode cX7_ban 27 = .ok (.invokevirtual 167, 3) := by decide +kernel
theorem dX7_ban_30 : decode cX7_ban 30 = .ok (.iload_n 2, 1) := by decide +kernel
theorem dX7_ban_31 : decode cX7_ban 31 = .ok (.ifCond .ge 48, 3) := by decide +kernel
theorem dX7_ban_34 : decode cX7_ban 34 = .ok (.iconst 0, 1) := by decide +kernel
theorem dX7_ban_35 : decode cX7_ban 35 = .ok (.istore 4, 2) := by decide +kernel
theorem dX7_ban_37 : decode cX7_ban 37 = .ok (.iconst 0, 1) := by decide +kernel
theorem dX7_ban_38 : decode cX7_ban 38 = .ok (.istore 5, 2) := by decide +kernel
theorem dX7_ban_40 : decode cX7_ban 40 = .ok (.iload 5, 2) := by decide +kernel
theorem dX7_ban_42 : decode cX7_ban 42 = .ok (.aload_n 0, 1) := by decide +kernel
theorem dX7_ban_43 : decode cX7_ban 43 = .ok (.getfield 199, 3) := by decide +kernel
theorem dX7_ban_46 : decode cX7_ban 46 = .ok (.if_icmp .ge 30, 3) := by decide +kernel
theorem dX7_ban_49 : decode cX7_ban 49 = .ok (.iload 4, 2) := by decide +kernel
theorem dX7_ban_51 : decode cX7_ban 51 = .ok (.aload_n 0, 1) := by decide +kernel
theorem dX7_ban_52 : decode cX7_ban 52 = .ok (.getfield 43, 3) := by decide +kernel
theorem dX7_ban_55 : decode cX7_ban 55 = .ok (.iload 5, 2) := by decide +kernel
theorem dX7_ban_57 : decode cX7_ban 57 = .ok (.iaload, 1) := by decide +kernel
theorem dX7_ban_58 : decode cX7_ban 58 = .ok (.iload_n 1, 1) := by decide +kernel
theorem dX7_ban_59 : decode cX7_ban 59 = .ok (.if_icmp .ne 7, 3) := by decide +kernel
theorem dX7_ban_62 : decode cX7_ban 62 = .ok (.iconst 1, 1) := by decide +kernel
theorem dX7_ban_63 : decode cX7_ban 63 = .ok (.goto 4, 3) := by decide +kernel
theorem dX7_ban_66 : decode cX7_ban 66 = .ok (.iconst 0, 1) := by decide +kernel
theorem dX7_ban_67 : decode cX7_ban 67 = .ok (.iadd, 1) := by decide +kernel
theorem dX7_ban_68 : decode cX7_ban 68 = .ok (.istore 4, 2) := by decide +kernel
theorem dX7_ban_70 : decode cX7_ban 70 = .ok (.iinc 5 1, 3) := by decide +kernel
theorem dX7_ban_73 : decode cX7_ban 73 = .ok (.goto (-33), 3) := by decide +kernel
theorem dX7_ban_76 : decode cX7_ban 76 = .ok (.iload 4, 2) := by decide +kernel
theorem dX7_ban_78 : decode cX7_ban 78 = .ok (.ireturn, 1) := by decide +kernel
theorem dX7_ban_79 : decode cX7_ban 79 = .ok (.aload_n 0, 1) := by decide +kernel
theorem dX7_ban_80 : decode cX7_ban 80 = .ok (.iload_n 1, 1) := by decide +kernel
theorem dX7_ban_81 : decode cX7_ban 81 = .ok (.iload_n 2, 1) := by decide +kernel
theorem dX7_ban_82 : decode cX7_ban 82 = .ok (.invokevirtual 247, 3) := by decide +kernel
theorem dX7_ban_85 : decode cX7_ban 85 = .ok (.istore 4, 2) := by decide +kernel
theorem dX7_ban_87 : decode cX7_ban 87 = .ok (.iload 4, 2) := by decide +kernel
theorem dX7_ban_89 : decode cX7_ban 89 = .ok (.bipush (-4), 2) := by decide +kernel
theorem dX7_ban_91 : decode cX7_ban 91 = .ok (.if_icmp .ne 6, 3) := by decide +kernel
theorem dX7_ban_94 : decode cX7_ban 94 = .ok (.bipush (-4), 2) := by decide +kernel
theorem dX7_ban_96 : decode cX7_ban 96 = .ok (.ireturn, 1) := by decide +kernel
theorem dX7_ban_97 : decode cX7_ban 97 = .ok (.iload_n 3, 1) := by decide +kernel
theorem dX7_ban_98 : decode cX7_ban 98 = .ok (.ifCond .ne 13, 3) := by decide +kernel
theorem dX7_ban_101 : decode cX7_ban 101 = .ok (.aload_n 0, 1) := by decide +kernel
theorem dX7_ban_102 : decode cX7_ban 102 = .ok (.getfield 46, 3) := by decide +kernel
theorem dX7_ban_105 : decode cX7_ban 105 = .ok (.iload 4, 2) := by decide +kernel
theorem dX7_ban_107 : decode cX7_ban 107 = .ok (.iaload, 1) := by decide +kernel
theorem dX7_ban_108 : decode cX7_ban 108 = .ok (.goto 55, 3) := by decide +kernel
theorem dX7_ban_111 : decode cX7_ban 111 = .ok (.iload_n 3, 1) := by decide +kernel
theorem dX7_ban_112 : decode cX7_ban 112 = .ok (.iconst 1, 1) := by decide +kernel
theorem dX7_ban_113 : decode cX7_ban 113 = .ok (.if_icmp .ne 13, 3) := by decide +kernel
theorem dX7_ban_116 : decode cX7_ban 116 = .ok (.aload_n 0, 1) := by decide +kernel
theorem dX7_ban_117 : decode cX7_ban 117 = .ok (.getfield 49, 3) := by decide +kernel
theorem dX7_ban_120 : decode cX7_ban 120 = .ok (.iload 4, 2) := by decide +kernel
theorem dX7_ban_122 : decode cX7_ban 122 = .ok (.iaload, 1) := by decide +kernel
theorem dX7_ban_123 : decode cX7_ban 123 = .ok (.goto 40, 3) := by decide +kernel
theorem dX7_ban_126 : decode cX7_ban 126 = .ok (.iload_n 3, 1) := by decide +kernel
theorem dX7_ban_127 : decode cX7_ban 127 = .ok (.iconst 2, 1) := by decide +kernel
theorem dX7_ban_128 : decode cX7_ban 128 = .ok (.if_icmp .ne 13, 3) := by decide +kernel
theorem dX7_ban_131 : decode cX7_ban 131 = .ok (.aload_n 0, 1) := by decide +kernel
theorem dX7_ban_132 : decode cX7_ban 132 = .ok (.getfield 52, 3) := by decide +kernel
theorem dX7_ban_135 : decode cX7_ban 135 = .ok (.iload 4, 2) := by decide +kernel
theorem dX7_ban_137 : decode cX7_ban 137 = .ok (.iaload, 1) := by decide +kernel
theorem dX7_ban_138 : decode cX7_ban 138 = .ok (.goto 25, 3) := by decide +kernel
theorem dX7_ban_141 : decode cX7_ban 141 = .ok (.iload_n 3, 1) := by decide +kernel
theorem dX7_ban_142 : decode cX7_ban 142 = .ok (.iconst 3, 1) := by decide +kernel
theorem dX7_ban_143 : decode cX7_ban 143 = .ok (.if_icmp .ne 13, 3) := by decide +kernel
theorem dX7_ban_146 : decode cX7_ban 146 = .ok (.aload_n 0, 1) := by decide +kernel
theorem dX7_ban_147 : decode cX7_ban 147 = .ok (.getfield 55, 3) := by decide +kernel
theorem dX7_ban_150 : decode cX7_ban 150 = .ok (.iload 4, 2) := by decide +kernel
theorem dX7_ban_152 : decode cX7_ban 152 = .ok (.iaload, 1) := by decide +kernel
theorem dX7_ban_153 : decode cX7_ban 153 = .ok (.goto 10, 3) := by decide +kernel
theorem dX7_ban_156 : decode cX7_ban 156 = .ok (.aload_n 0, 1) := by decide +kernel
theorem dX7_ban_157 : decode cX7_ban 157 = .ok (.getfield 58, 3) := by decide +kernel
theorem dX7_ban_160 : decode cX7_ban 160 = .ok (.iload 4, 2) := by decide +kernel
theorem dX7_ban_162 : decode cX7_ban 162 = .ok (.iaload, 1) := by decide +kernel
theorem dX7_ban_163 : decode cX7_ban 163 = .ok (.ireturn, 1) := by decide +kernel
theorem dX7_isSeen_0 : decode cX7_isSeen 0 = .ok (.iload_n 1, 1) := by decide +kernel
theorem dX7_isSeen_1 : decode cX7_isSeen 1 = .ok (.ifCond .eq 14, 3) := by decide +kernel
theorem dX7_isSeen_4 : decode cX7_isSeen 4 = .ok (.aload_n 0, 1) := by decide +kernel
theorem dX7_isSeen_5 : decode cX7_isSeen 5 = .ok (.iload_n 2, 1) := by decide +kernel
theorem dX7_isSeen_6 : decode cX7_isSeen 6 = .ok (.bipush 7, 2) := by decide +kernel
theorem dX7_isSeen_8 : decode cX7_isSeen 8 = .ok (.invokevirtual 164, 3) := by decide +kernel
theorem dX7_isSeen_11 : decode cX7_isSeen 11 = .ok (.iconst 1, 1) := by decide +kernel
theorem dX7_isSeen_12 : decode cX7_isSeen 12 = .ok (.if_icmp .ne 13, 3) := by decide +kernel
theorem dX7_isSeen_15 : decode cX7_isSeen 15 = .ok (.iload_n 1, 1) := by decide +kernel
theorem dX7_isSeen_16 : decode cX7_isSeen 16 = .ok (.ifCond .ne 7, 3) := by decide +kernel
theorem dX7_isSeen_19 : decode cX7_isSeen 19 = .ok (.iconst 1, 1) := by decide +kernel
theorem dX7_isSeen_20 : decode cX7_isSeen 20 = .ok (.goto 4, 3) := by decide +kernel
theorem dX7_isSeen_23 : decode cX7_isSeen 23 = .ok (.iconst 0, 1) := by decide +kernel
theorem dX7_isSeen_24 : decode cX7_isSeen 24 = .ok (.ireturn, 1) := by decide +kernel
theorem dX7_isSeen_25 : decode cX7_isSeen 25 = .ok (.iload_n 1, 1) := by decide +kernel
theorem dX7_isSeen_26 : decode cX7_isSeen 26 = .ok (.iconst 1, 1) := by decide +kernel
theorem dX7_isSeen_27 : decode cX7_isSeen 27 = .ok (.if_icmp .eq 58, 3) := by decide +kernel
theorem dX7_isSeen_30 : decode cX7_isSeen 30 = .ok (.iload_n 1, 1) := by decide +kernel
theorem dX7_isSeen_31 : decode cX7_isSeen 31 = .ok (.iconst 2, 1) := by decide +kernel
theorem dX7_isSeen_32 : decode cX7_isSeen 32 = .ok (.if_icmp .ne 25, 3) := by decide +kernel
theorem dX7_isSeen_35 : decode cX7_isSeen 35 = .ok (.aload_n 0, 1) := by decide +kernel
theorem dX7_isSeen_36 : decode cX7_isSeen 36 = .ok (.getfield 130, 3) := by decide +kernel
theorem dX7_isSeen_39 : decode cX7_isSeen 39 = .ok (.aload_n 0, 1) := by decide +kernel
theorem dX7_isSeen_40 : decode cX7_isSeen 40 = .ok (.iload_n 2, 1) := by decide +kernel
theorem dX7_isSeen_41 : decode cX7_isSeen 41 = .ok (.iconst 1, 1) := by decide +kernel
theorem dX7_isSeen_42 : decode cX7_isSeen 42 = .ok (.invokevirtual 164, 3) := by decide +kernel
theorem dX7_isSeen_45 : decode cX7_isSeen 45 = .ok (.isub, 1) := by decide +kernel
theorem dX7_isSeen_46 : decode cX7_isSeen 46 = .ok (.aload_n 0, 1) := by decide +kernel
theorem dX7_isSeen_47 : decode cX7_isSeen 47 = .ok (.iconst 4, 1) := by decide +kernel
theorem dX7_isSeen_48 : decode cX7_isSeen 48 = .ok (.invokevirtual 145, 3) := by decide +kernel
theorem dX7_isSeen_51 : decode cX7_isSeen 51 = .ok (.if_icmp .ge 38, 3) := by decide +kernel
theorem dX7_isSeen_54 : decode cX7_isSeen 54 = .ok (.goto 31, 3) := by decide +kernel
theorem dX7_isSeen_57 : decode cX7_isSeen 57 = .ok (.aload_n 0, 1) := by decide +kernel
theorem dX7_isSeen_58 : decode cX7_isSeen 58 = .ok (.getfield 37, 3) := by decide +kernel
theorem dX7_isSeen_61 : decode cX7_isSeen 61 = .ok (.iload_n 2, 1) := by decide +kernel
theorem dX7_isSeen_62 : decode cX7_isSeen 62 = .ok (.iaload, 1) := by decide +kernel
theorem dX7_isSeen_63 : decode cX7_isSeen 63 = .ok (.ifCond .ne 26, 3) := by decide +kernel
theorem dX7_isSeen_66 : decode cX7_isSeen 66 = .ok (.aload_n 0, 1) := by decide +kernel
theorem dX7_isSeen_67 : decode cX7_isSeen 67 = .ok (.getfield 130, 3) := by decide +kernel
theorem dX7_isSeen_70 : decode cX7_isSeen 70 = .ok (.aload_n 0, 1) := by decide +kernel
theorem dX7_isSeen_71 : decode cX7_isSeen 71 = .ok (.iload_n 2, 1) := by decide +kernel
theorem dX7_isSeen_72 : decode cX7_isSeen 72 = .ok (.iconst 3, 1) := by decide +kernel
theorem dX7_isSeen_73 : decode cX7_isSeen 73 = .ok (.invokevirtual 164, 3) := by decide +kernel
theorem dX7_isSeen_76 : decode cX7_isSeen 76 = .ok (.isub, 1) := by decide +kernel
theorem dX7_isSeen_77 : decode cX7_isSeen 77 = .ok (.aload_n 0, 1) := by decide +kernel
theorem dX7_isSeen_78 : decode cX7_isSeen 78 = .ok (.iconst 5, 1) := by decide +kernel
theorem dX7_isSeen_79 : decode cX7_isSeen 79 = .ok (.invokevirtual 145, 3) := by decide +kernel
theorem dX7_isSeen_82 : decode cX7_isSeen 82 = .ok (.if_icmp .ge 7, 3) := by decide +kernel
theorem dX7_isSeen_85 : decode cX7_isSeen 85 = .ok (.iconst 1, 1) := by decide +kernel
theorem dX7_isSeen_86 : decode cX7_isSeen 86 = .ok (.goto 4, 3) := by decide +kernel
theorem dX7_isSeen_89 : decode cX7_isSeen 89 = .ok (.iconst 0, 1) := by decide +kernel
theorem dX7_isSeen_90 : decode cX7_isSeen 90 = .ok (.ireturn, 1) := by decide +kernel
theorem dX7_seen_0 : decode cX7_seen 0 = .ok (.iload_n 1, 1) := by decide +kernel
theorem dX7_seen_1 : decode cX7_seen 1 = .ok (.i2l, 1) := by decide +kernel
theorem dX7_seen_2 : decode cX7_seen 2 = .ok (.lconst 0, 1) := by decide +kernel
theorem dX7_seen_3 : decode cX7_seen 3 = .ok (.ldc2_w 137, 3) := by decide +kernel
theorem dX7_seen_6 : decode cX7_seen 6 = .ok (.invokestatic 79, 3) := by decide +kernel
theorem dX7_seen_9 : decode cX7_seen 9 = .ok (.ifCond .eq 22, 3) := by decide +kernel
theorem dX7_seen_12 : decode cX7_seen 12 = .ok (.iload_n 2, 1) := by decide +kernel
theorem dX7_seen_13 : decode cX7_seen 13 = .ok (.invokestatic 157, 3) := by decide +kernel
theorem dX7_seen_16 : decode cX7_seen 16 = .ok (.ifCond .eq 15, 3) := by decide +kernel
theorem dX7_seen_19 : decode cX7_seen 19 = .ok (.iload_n 3, 1) := by decide +kernel
theorem dX7_seen_20 : decode cX7_seen 20 = .ok (.i2l, 1) := by decide +kernel
theorem dX7_seen_21 : decode cX7_seen 21 = .ok (.lconst 0, 1) := by decide +kernel
theorem dX7_seen_22 : decode cX7_seen 22 = .ok (.ldc2_w 250, 3) := by decide +kernel
theorem dX7_seen_25 : decode cX7_seen 25 = .ok (.invokestatic 79, 3) := by decide +kernel
theorem dX7_seen_28 : decode cX7_seen 28 = .ok (.ifCond .ne 5, 3) := by decide +kernel
theorem dX7_seen_31 : decode cX7_seen 31 = .ok (.iconst (-1), 1) := by decide +kernel
theorem dX7_seen_32 : decode cX7_seen 32 = .ok (.ireturn, 1) := by decide +kernel
theorem dX7_seen_33 : decode cX7_seen 33 = .ok (.aload_n 0, 1) := by decide +kernel
theorem dX7_seen_34 : decode cX7_seen 34 = .ok (.invokevirtual 167, 3) := by decide +kernel
theorem dX7_seen_37 : decode cX7_seen 37 = .ok (.iconst 0, 1) := by decide +kernel
theorem dX7_seen_38 : decode cX7_seen 38 = .ok (.istore 4, 2) := by decide +kernel
theorem dX7_seen_40 : decode cX7_seen 40 = .ok (.iconst 0, 1) := by decide +kernel
theorem dX7_seen_41 : decode cX7_seen 41 = .ok (.istore 5, 2) := by decide +kernel
theorem dX7_seen_43 : decode cX7_seen 43 = .ok (.bipush (-4), 2) := by decide +kernel
theorem dX7_seen_45 : decode cX7_seen 45 = .ok (.istore 6, 2) := by decide +kernel
theorem dX7_seen_47 : decode cX7_seen 47 = .ok (.iconst 0, 1) := by decide +kernel
theorem dX7_seen_48 : decode cX7_seen 48 = .ok (.istore 7, 2) := by decide +kernel
theorem dX7_seen_50 : decode cX7_seen 50 = .ok (.iload 7, 2) := by decide +kernel
theorem dX7_seen_52 : decode cX7_seen 52 = .ok (.aload_n 0, 1) := by decide +kernel
theorem dX7_seen_53 : decode cX7_seen 53 = .ok (.getfield 13, 3) := by decide +kernel
theorem dX7_seen_56 : decode cX7_seen 56 = .ok (.sipush 334, 3) := by decide +kernel
theorem dX7_seen_59 : decode cX7_seen 59 = .ok (.iaload, 1) := by decide +kernel
theorem dX7_seen_60 : decode cX7_seen 60 = .ok (.if_icmp .ge 59, 3) := by decide +kernel
theorem dX7_seen_63 : decode cX7_seen 63 = .ok (.aload_n 0, 1) := by decide +kernel
theorem dX7_seen_64 : decode cX7_seen 64 = .ok (.iload 7, 2) := by decide +kernel
theorem dX7_seen_66 : decode cX7_seen 66 = .ok (.iconst 0, 1) := by decide +kernel
theorem dX7_seen_67 : decode cX7_seen 67 = .ok (.invokevirtual 164, 3) := by decide +kernel
theorem dX7_seen_70 : decode cX7_seen 70 = .ok (.iload_n 2, 1) := by decide +kernel
theorem dX7_seen_71 : decode cX7_seen 71 = .ok (.if_icmp .ne 42, 3) := by decide +kernel
theorem dX7_seen_74 : decode cX7_seen 74 = .ok (.aload_n 0, 1) := by decide +kernel
theorem dX7_seen_75 : decode cX7_seen 75 = .ok (.iload 7, 2) := by decide +kernel
theorem dX7_seen_77 : decode cX7_seen 77 = .ok (.iconst 2, 1) := by decide +kernel
theorem dX7_seen_78 : decode cX7_seen 78 = .ok (.invokevirtual 164, 3) := by decide +kernel
theorem dX7_seen_81 : decode cX7_seen 81 = .ok (.ifCond .ne 32, 3) := by decide +kernel
theorem dX7_seen_84 : decode cX7_seen 84 = .ok (.aload_n 0, 1) := by decide +kernel
theorem dX7_seen_85 : decode cX7_seen 85 = .ok (.iload_n 1, 1) := by decide +kernel
theorem dX7_seen_86 : decode cX7_seen 86 = .ok (.iload 7, 2) := by decide +kernel
theorem dX7_seen_88 : decode cX7_seen 88 = .ok (.invokevirtual 252, 3) := by decide +kernel
theorem dX7_seen_91 : decode cX7_seen 91 = .ok (.ifCond .eq 22, 3) := by decide +kernel
theorem dX7_seen_94 : decode cX7_seen 94 = .ok (.iinc 4 1, 3) := by decide +kernel
theorem dX7_seen_97 : decode cX7_seen 97 = .ok (.iload 5, 2) := by decide +kernel
theorem dX7_seen_99 : decode cX7_seen 99 = .ok (.aload_n 0, 1) := by decide +kernel
theorem dX7_seen_100 : decode cX7_seen 100 = .ok (.iload 7, 2) := by decide +kernel
theorem dX7_seen_102 : decode cX7_seen 102 = .ok (.iconst 5, 1) := by decide +kernel
theorem dX7_seen_103 : decode cX7_seen 103 = .ok (.invokevirtual 164, 3) := by decide +kernel
theorem dX7_seen_106 : decode cX7_seen 106 = .ok (.iadd, 1) := by decide +kernel
theorem dX7_seen_107 : decode cX7_seen 107 = .ok (.istore 5, 2) := by decide +kernel
theorem dX7_seen_109 : decode cX7_seen 109 = .ok (.iload 7, 2) := by decide +kernel
theorem dX7_seen_111 : decode cX7_seen 111 = .ok (.istore 6, 2) := by decide +kernel
theorem dX7_seen_113 : decode cX7_seen 113 = .ok (.iinc 7 1, 3) := by decide +kernel
theorem dX7_seen_116 : decode cX7_seen 116 = .ok (.goto (-66), 3) := by decide +kernel
theorem dX7_seen_119 : decode cX7_seen 119 = .ok (.iload_n 3, 1) := by decide +kernel
theorem dX7_seen_120 : decode cX7_seen 120 = .ok (.ifCond .ne 8, 3) := by decide +kernel
theorem dX7_seen_123 : decode cX7_seen 123 = .ok (.iload 4, 2) := by decide +kernel
theorem dX7_seen_125 : decode cX7_seen 125 = .ok (.goto 15, 3) := by decide +kernel
theorem dX7_seen_128 : decode cX7_seen 128 = .ok (.iload_n 3, 1) := by decide +kernel
theorem dX7_seen_129 : decode cX7_seen 129 = .ok (.iconst 1, 1) := by decide +kernel
theorem dX7_seen_130 : decode cX7_seen 130 = .ok (.if_icmp .ne 8, 3) := by decide +kernel
theorem dX7_seen_133 : decode cX7_seen 133 = .ok (.iload 5, 2) := by decide +kernel
theorem dX7_seen_135 : decode cX7_seen 135 = .ok (.goto 5, 3) := by decide +kernel
theorem dX7_seen_138 : decode cX7_seen 138 = .ok (.iload 6, 2) := by decide +kernel
theorem dX7_seen_140 : decode cX7_seen 140 = .ok (.ireturn, 1) := by decide +kernel
theorem dX7_count_0 : decode cX7_count 0 = .ok (.iload_n 1, 1) := by decide +kernel
theorem dX7_count_1 : decode cX7_count 1 = .ok (.tableswitch 109 0 11 #[63, 68, 77, 82, 87, 92, 92, 92, 92, 92, 92, 100], 63) := by decide +kernel
theorem dX7_count_64 : decode cX7_count 64 = .ok (.aload_n 0, 1) := by decide +kernel
theorem dX7_count_65 : decode cX7_count 65 = .ok (.getfield 124, 3) := by decide +kernel
theorem dX7_count_68 : decode cX7_count 68 = .ok (.ireturn, 1) := by decide +kernel
theorem dX7_count_69 : decode cX7_count 69 = .ok (.aload_n 0, 1) := by decide +kernel
theorem dX7_count_70 : decode cX7_count 70 = .ok (.getfield 13, 3) := by decide +kernel
theorem dX7_count_73 : decode cX7_count 73 = .ok (.sipush 334, 3) := by decide +kernel
theorem dX7_count_76 : decode cX7_count 76 = .ok (.iaload, 1) := by decide +kernel
theorem dX7_count_77 : decode cX7_count 77 = .ok (.ireturn, 1) := by decide +kernel
theorem dX7_count_78 : decode cX7_count 78 = .ok (.aload_n 0, 1) := by decide +kernel
theorem dX7_count_79 : decode cX7_count 79 = .ok (.getfield 130, 3) := by decide +kernel
theorem dX7_count_82 : decode cX7_count 82 = .ok (.ireturn, 1) := by decide +kernel
theorem dX7_count_83 : decode cX7_count 83 = .ok (.aload_n 0, 1) := by decide +kernel
theorem dX7_count_84 : decode cX7_count 84 = .ok (.getfield 127, 3) := by decide +kernel
theorem dX7_count_87 : decode cX7_count 87 = .ok (.ireturn, 1) := by decide +kernel
theorem dX7_count_88 : decode cX7_count 88 = .ok (.aload_n 0, 1) := by decide +kernel
theorem dX7_count_89 : decode cX7_count 89 = .ok (.getfield 83, 3) := by decide +kernel
theorem dX7_count_92 : decode cX7_count 92 = .ok (.ireturn, 1) := by decide +kernel
theorem dX7_count_93 : decode cX7_count 93 = .ok (.aload_n 0, 1) := by decide +kernel
theorem dX7_count_94 : decode cX7_count 94 = .ok (.iload_n 1, 1) := by decide +kernel
theorem dX7_count_95 : decode cX7_count 95 = .ok (.iconst 5, 1) := by decide +kernel
theorem dX7_count_96 : decode cX7_count 96 = .ok (.isub, 1) := by decide +kernel
theorem dX7_count_97 : decode cX7_count 97 = .ok (.invokevirtual 145, 3) := by decide +kernel
theorem dX7_count_100 : decode cX7_count 100 = .ok (.ireturn, 1) := by decide +kernel
theorem dX7_count_101 : decode cX7_count 101 = .ok (.aload_n 0, 1) := by decide +kernel
theorem dX7_count_102 : decode cX7_count 102 = .ok (.invokevirtual 167, 3) := by decide +kernel
theorem dX7_count_105 : decode cX7_count 105 = .ok (.aload_n 0, 1) := by decide +kernel
theorem dX7_count_106 : decode cX7_count 106 = .ok (.getfield 199, 3) := by decide +kernel
theorem dX7_count_109 : decode cX7_count 109 = .ok (.ireturn, 1) := by decide +kernel
theorem dX7_count_110 : decode cX7_count 110 = .ok (.iconst (-1), 1) := by decide +kernel
theorem dX7_count_111 : decode cX7_count 111 = .ok (.ireturn, 1) := by decide +kernel
end
section
/-! plain helpers -/
def bi (b : Bool) : Int32 := if b then 1 else 0
theorem bi_z {b : Bool} : (bi b = 0) = (b = false) := by cases b <;> decide
theorem bi_nz {b : Bool} : (¬ bi b = 0) = (b = true) := by cases b <;> decide
theorem bi_or (b : Bool) : bi b = 0 ∨ bi b = 1 := by cases b <;> simp [bi]
theorem ti_ne {a b : Int32} (h : ¬ a = b) : a.toInt ≠ b.toInt := fun e => h (Int32.toInt_inj.mp e)
def lp_f {α : Type} (f : Nat → α → α) (a : α) : Nat → α
  | 0 => a
  | n + 1 => f n (lp_f f a n)
def lp_any (p : Nat → Bool) : Nat → Bool
  | 0 => false
  | n + 1 => lp_any p n || p n
theorem lp_any_true {p : Nat → Bool} {j : Nat} (h : p j = true) : ∀ {n : Nat}, j < n → lp_any p n = true
  | 0, hn => by omega
  | n + 1, hn => by
    by_cases e : j = n
    · subst e
      simp [lp_any, h]
    · simp [lp_any, lp_any_true h (n := n) (by omega)]
theorem lp_any_iff {p : Nat → Bool} : ∀ {n : Nat}, lp_any p n = true ↔ ∃ j, j < n ∧ p j = true
  | 0 => by simp [lp_any]
  | n + 1 => by
    constructor
    · intro h
      rw [lp_any, Bool.or_eq_true] at h
      rcases h with h | h
      · obtain ⟨j, h1, h2⟩ := lp_any_iff.mp h
        exact ⟨j, by omega, h2⟩
      · exact ⟨n, by omega, h⟩
    · rintro ⟨j, h1, h2⟩
      exact lp_any_true h2 h1
def lp_find (p : Nat → Bool) : Nat → Nat → Option Nat
  | 0, _ => none
  | k + 1, j => if p j then some j else lp_find p k (j + 1)
theorem nl_lt {j n : Nat} (h : j < n) (hn : n < 2 ^ 31) : ¬ nI n ≤ nI j := nI_ge h hn
theorem mj_q {Q : Option Value → mj_X → Prop} {v z : Int32} {x : mj_X} (h : Q (some (.int z)) x) (e : v = z) : Q (some (.int v)) x := e ▸ h
theorem mj_ls {M : mj_M} {sh : List mj_S} {Q : Option Value → mj_X → Prop} {x : mj_X} {pc : Nat} {ls ls' : List (Option Value)} {st : List Value} (h : mj_V M sh Q x pc ls' st) (e : ls = ls') : mj_V M sh Q x pc ls st := e ▸ h
theorem mj_xl {M : mj_M} {sh : List mj_S} {Q : Option Value → mj_X → Prop} {x x' : mj_X} {pc : Nat} {ls ls' : List (Option Value)} {st : List Value} (h : mj_V M sh Q x' pc ls' st) (ex : x = x') (e : ls = ls') : mj_V M sh Q x pc ls st := by subst ex; subst e; exact h
theorem mj_ss {M : mj_M} {sh : List mj_S} {Q : Option Value → mj_X → Prop} {x : mj_X} {pc : Nat} {ls : List (Option Value)} {st st' : List Value} (h : mj_V M sh Q x pc ls st') (e : st = st') : mj_V M sh Q x pc ls st := e ▸ h
def mj_pk (T : u_T) (N kf : Nat) (ty : FieldType) : Prop := (∃ ty0 : Nat → FieldType, ∀ k, k < N → parseFieldDescriptor (T k).2.2.1 = some (ty0 k)) ∧ (∀ a, a < N → ∀ b, b < N → a ≠ b → (T a).2.1 ≠ (T b).2.1) ∧ (T kf).2.2.2 = false ∧ parseFieldDescriptor (T kf).2.2.1 = some ty
section MJP
variable {M : mj_M} {sh : List mj_S} {Q : Option Value → mj_X → Prop} {x : mj_X} {pc : Nat} {ls : List (Option Value)} {st : List Value} {av : List Value}
theorem mj_puti {ci kf idx c0 : Nat} {C : String} {T : u_T} {N : Nat} {fs : List (Option Nat)} {v : Int32} (hk : mj_fk M.1.cls idx ci kf C T N) (hp : mj_pk T N kf .int) (hd : decode M.2.1 pc = .ok (.putfield idx, 3)) (hsh : sh[c0]? = some (.inl (ci, fs))) (hf : fs[kf]? = some none) (k : mj_V M sh Q (mj_up x c0 kf v) (pc + 3) ls st) : mj_V M sh Q x pc ls (.int v :: .ref c0 :: st) := by
  obtain ⟨⟨ty0, h1⟩, h2, h3, h4⟩ := hp
  exact mj_put hk h1 h2 h3 h4 rfl rfl hd hsh hf k
theorem mj_putz {ci kf idx c0 : Nat} {C : String} {T : u_T} {N : Nat} {fs : List (Option Nat)} {v : Int32} (hk : mj_fk M.1.cls idx ci kf C T N) (hp : mj_pk T N kf .boolean) (hv : v = 0 ∨ v = 1) (hd : decode M.2.1 pc = .ok (.putfield idx, 3)) (hsh : sh[c0]? = some (.inl (ci, fs))) (hf : fs[kf]? = some none) (k : mj_V M sh Q (mj_up x c0 kf v) (pc + 3) ls st) : mj_V M sh Q x pc ls (.int v :: .ref c0 :: st) := by
  obtain ⟨⟨ty0, h1⟩, h2, h3, h4⟩ := hp
  exact mj_put hk h1 h2 h3 h4 (by rcases hv with rfl | rfl <;> rfl) (by rcases hv with rfl | rfl <;> rfl) hd hsh hf k
theorem mj_startP {z : Int32} (hy : plainName M.1.cls = true) (hen : mj_en av M.2.2.1 = ls) (hlen : ls.length = M.2.2.1) (k : ∀ Q : Option Value → mj_X → Prop, Q (some (.int z)) x → mj_V M sh Q x 0 ls []) : mj_CP M sh av x z :=
  mj_start hy hen hlen (k _ ⟨z, rfl, rfl, rfl⟩)
theorem mj_startI {QK : Int32 → mj_X → Prop} (hy : plainName M.1.cls = true) (hen : mj_en av M.2.2.1 = ls) (hlen : ls.length = M.2.2.1) (k : ∀ Q : Option Value → mj_X → Prop, (∀ z x', QK z x' → Q (some (.int z)) x') → mj_V M sh Q x 0 ls []) : mj_CI M sh av x QK :=
  mj_start hy hen hlen (k _ (fun z x' h => ⟨z, rfl, h⟩))
theorem mj_startV {QK : mj_X → Prop} (hy : plainName M.1.cls = true) (hen : mj_en av M.2.2.1 = ls) (hlen : ls.length = M.2.2.1) (k : ∀ Q : Option Value → mj_X → Prop, (∀ x', QK x' → Q none x') → mj_V M sh Q x 0 ls []) : mj_CV M sh av x QK :=
  mj_start hy hen hlen (k _ (fun x' h => ⟨rfl, h⟩))
theorem mj_CP.mono {z z' : Int32} (h : mj_CP M sh av x z) (e : z = z') : mj_CP M sh av x z' := e ▸ h
theorem mj_CI.mono {Q1 Q2 : Int32 → mj_X → Prop} (h : mj_CI M sh av x Q1) (hw : ∀ z x', Q1 z x' → Q2 z x') : mj_CI M sh av x Q2 :=
  mj_weak h (fun r x' ⟨z, e, q⟩ => ⟨z, e, hw z x' q⟩)
theorem mj_CV.mono {Q1 Q2 : mj_X → Prop} (h : mj_CV M sh av x Q1) (hw : ∀ x', Q1 x' → Q2 x') : mj_CV M sh av x Q2 :=
  mj_weak h (fun r x' ⟨e, q⟩ => ⟨e, hw x' q⟩)
end MJP
theorem up_ne {x : mj_X} {k k' i : Nat} {v : Int32} (h : k' ≠ k) : mj_up x k i v k' = x k' := by simp [mj_up, h]
theorem up_eq {x : mj_X} {k i : Nat} {v : Int32} : mj_up x k i v k = upd (x k) i v := by simp [mj_up]
theorem upd_eq {f : Nat → Int32} {i : Nat} {v : Int32} : upd f i v i = v := by simp [upd]
theorem upd_ne {f : Nat → Int32} {i j : Nat} {v : Int32} (h : j ≠ i) : upd f i v j = f j := by simp [upd, h]
theorem up_at {x : mj_X} {k i k' j : Nat} {v : Int32} : mj_up x k i v k' j = if k' = k ∧ j = i then v else x k' j := by
  by_cases h : k' = k
  · subst h
    by_cases h2 : j = i <;> simp [mj_up, upd, h2]
  · simp [mj_up, h]
theorem tl_m10 : (-10 : Int32).toInt = -10 := by decide
theorem tl_m9 : (-9 : Int32).toInt = -9 := by decide
theorem tl_m8 : (-8 : Int32).toInt = -8 := by decide
theorem tl_m7 : (-7 : Int32).toInt = -7 := by decide
theorem tl_m6 : (-6 : Int32).toInt = -6 := by decide
theorem tl_m5 : (-5 : Int32).toInt = -5 := by decide
theorem tl_m4 : (-4 : Int32).toInt = -4 := by decide
theorem tl_m3 : (-3 : Int32).toInt = -3 := by decide
theorem tl_m2 : (-2 : Int32).toInt = -2 := by decide
theorem tl_m1 : (-1 : Int32).toInt = -1 := by decide
theorem tl_0 : (0 : Int32).toInt = 0 := by decide
theorem tl_1 : (1 : Int32).toInt = 1 := by decide
theorem tl_2 : (2 : Int32).toInt = 2 := by decide
theorem tl_3 : (3 : Int32).toInt = 3 := by decide
theorem tl_4 : (4 : Int32).toInt = 4 := by decide
theorem tl_5 : (5 : Int32).toInt = 5 := by decide
theorem tl_6 : (6 : Int32).toInt = 6 := by decide
theorem tl_7 : (7 : Int32).toInt = 7 := by decide
theorem tl_8 : (8 : Int32).toInt = 8 := by decide
theorem tl_9 : (9 : Int32).toInt = 9 := by decide
theorem tl_10 : (10 : Int32).toInt = 10 := by decide
theorem tl_11 : (11 : Int32).toInt = 11 := by decide
theorem tl_12 : (12 : Int32).toInt = 12 := by decide
theorem tl_13 : (13 : Int32).toInt = 13 := by decide
theorem tl_14 : (14 : Int32).toInt = 14 := by decide
theorem tl_15 : (15 : Int32).toInt = 15 := by decide
theorem tl_16 : (16 : Int32).toInt = 16 := by decide
theorem tl_17 : (17 : Int32).toInt = 17 := by decide
theorem tl_18 : (18 : Int32).toInt = 18 := by decide
theorem tl_19 : (19 : Int32).toInt = 19 := by decide
theorem tl_20 : (20 : Int32).toInt = 20 := by decide
theorem tl_21 : (21 : Int32).toInt = 21 := by decide
theorem tl_22 : (22 : Int32).toInt = 22 := by decide
theorem tl_23 : (23 : Int32).toInt = 23 := by decide
theorem tl_24 : (24 : Int32).toInt = 24 := by decide
theorem tl_25 : (25 : Int32).toInt = 25 := by decide
theorem tl_26 : (26 : Int32).toInt = 26 := by decide
theorem tl_27 : (27 : Int32).toInt = 27 := by decide
theorem tl_28 : (28 : Int32).toInt = 28 := by decide
theorem tl_29 : (29 : Int32).toInt = 29 := by decide
theorem tl_30 : (30 : Int32).toInt = 30 := by decide
theorem tl_31 : (31 : Int32).toInt = 31 := by decide
theorem tl_32 : (32 : Int32).toInt = 32 := by decide
theorem tl_33 : (33 : Int32).toInt = 33 := by decide
theorem tl_34 : (34 : Int32).toInt = 34 := by decide
theorem tl_35 : (35 : Int32).toInt = 35 := by decide
theorem tl_36 : (36 : Int32).toInt = 36 := by decide
theorem tl_37 : (37 : Int32).toInt = 37 := by decide
theorem tl_38 : (38 : Int32).toInt = 38 := by decide
theorem tl_39 : (39 : Int32).toInt = 39 := by decide
theorem tl_40 : (40 : Int32).toInt = 40 := by decide
theorem tl_41 : (41 : Int32).toInt = 41 := by decide
theorem tl_42 : (42 : Int32).toInt = 42 := by decide
theorem tl_43 : (43 : Int32).toInt = 43 := by decide
theorem tl_44 : (44 : Int32).toInt = 44 := by decide
theorem tl_45 : (45 : Int32).toInt = 45 := by decide
theorem tl_46 : (46 : Int32).toInt = 46 := by decide
theorem tl_47 : (47 : Int32).toInt = 47 := by decide
theorem tl_48 : (48 : Int32).toInt = 48 := by decide
theorem tl_49 : (49 : Int32).toInt = 49 := by decide
theorem tl_50 : (50 : Int32).toInt = 50 := by decide
theorem tl_51 : (51 : Int32).toInt = 51 := by decide
theorem tl_52 : (52 : Int32).toInt = 52 := by decide
theorem tl_53 : (53 : Int32).toInt = 53 := by decide
theorem tl_54 : (54 : Int32).toInt = 54 := by decide
theorem tl_55 : (55 : Int32).toInt = 55 := by decide
theorem tl_56 : (56 : Int32).toInt = 56 := by decide
theorem tl_57 : (57 : Int32).toInt = 57 := by decide
theorem tl_58 : (58 : Int32).toInt = 58 := by decide
theorem tl_59 : (59 : Int32).toInt = 59 := by decide
theorem tl_81 : (81 : Int32).toInt = 81 := by decide
theorem tl_82 : (82 : Int32).toInt = 82 := by decide
theorem tl_83 : (83 : Int32).toInt = 83 := by decide
theorem tl_99 : (99 : Int32).toInt = 99 := by decide
theorem tl_100 : (100 : Int32).toInt = 100 := by decide
theorem tl_126 : (126 : Int32).toInt = 126 := by decide
theorem tl_200 : (200 : Int32).toInt = 200 := by decide
theorem tl_300 : (300 : Int32).toInt = 300 := by decide
theorem tl_999 : (999 : Int32).toInt = 999 := by decide
theorem tl_9999 : (9999 : Int32).toInt = 9999 := by decide
theorem tl_99999 : (99999 : Int32).toInt = 99999 := by decide
theorem tl_100000 : (100000 : Int32).toInt = 100000 := by decide
theorem pkX0_7 : mj_pk TX0 8 7 .int := ⟨⟨tyX0, tyX0_ok⟩, nmX0, rfl, by decide +kernel⟩
theorem pkX1_3 : mj_pk TX1 7 3 .int := ⟨⟨tyX1, tyX1_ok⟩, nmX1, rfl, by decide +kernel⟩
theorem pkX1_4 : mj_pk TX1 7 4 .int := ⟨⟨tyX1, tyX1_ok⟩, nmX1, rfl, by decide +kernel⟩
theorem pkX1_5 : mj_pk TX1 7 5 .int := ⟨⟨tyX1, tyX1_ok⟩, nmX1, rfl, by decide +kernel⟩
theorem pkX1_6 : mj_pk TX1 7 6 .int := ⟨⟨tyX1, tyX1_ok⟩, nmX1, rfl, by decide +kernel⟩
theorem pkX2_12 : mj_pk TX2 13 12 .int := ⟨⟨tyX2, tyX2_ok⟩, nmX2, rfl, by decide +kernel⟩
theorem pkX3_3 : mj_pk TX3 4 3 .int := ⟨⟨tyX3, tyX3_ok⟩, nmX3, rfl, by decide +kernel⟩
theorem pkX4_1 : mj_pk TX4 5 1 .int := ⟨⟨tyX4, tyX4_ok⟩, nmX4, rfl, by decide +kernel⟩
theorem pkX4_2 : mj_pk TX4 5 2 .int := ⟨⟨tyX4, tyX4_ok⟩, nmX4, rfl, by decide +kernel⟩
theorem pkX4_3 : mj_pk TX4 5 3 .int := ⟨⟨tyX4, tyX4_ok⟩, nmX4, rfl, by decide +kernel⟩
theorem pkX4_4 : mj_pk TX4 5 4 .int := ⟨⟨tyX4, tyX4_ok⟩, nmX4, rfl, by decide +kernel⟩
theorem pkX5_3 : mj_pk TX5 4 3 .int := ⟨⟨tyX5, tyX5_ok⟩, nmX5, rfl, by decide +kernel⟩
theorem pkX6_7 : mj_pk TX6 8 7 .int := ⟨⟨tyX6, tyX6_ok⟩, nmX6, rfl, by decide +kernel⟩
theorem pkX7_0 : mj_pk TX7 26 0 .int := ⟨⟨tyX7, tyX7_ok⟩, nmX7, rfl, by decide +kernel⟩
theorem pkX7_4 : mj_pk TX7 26 4 .int := ⟨⟨tyX7, tyX7_ok⟩, nmX7, rfl, by decide +kernel⟩
theorem pkX7_5 : mj_pk TX7 26 5 .int := ⟨⟨tyX7, tyX7_ok⟩, nmX7, rfl, by decide +kernel⟩
theorem pkX7_6 : mj_pk TX7 26 6 .int := ⟨⟨tyX7, tyX7_ok⟩, nmX7, rfl, by decide +kernel⟩
theorem pkX7_10 : mj_pk TX7 26 10 .int := ⟨⟨tyX7, tyX7_ok⟩, nmX7, rfl, by decide +kernel⟩
theorem pkX7_13 : mj_pk TX7 26 13 .int := ⟨⟨tyX7, tyX7_ok⟩, nmX7, rfl, by decide +kernel⟩
theorem pkX7_14 : mj_pk TX7 26 14 .int := ⟨⟨tyX7, tyX7_ok⟩, nmX7, rfl, by decide +kernel⟩
theorem pkX7_15 : mj_pk TX7 26 15 .boolean := ⟨⟨tyX7, tyX7_ok⟩, nmX7, rfl, by decide +kernel⟩
theorem pkX7_19 : mj_pk TX7 26 19 .int := ⟨⟨tyX7, tyX7_ok⟩, nmX7, rfl, by decide +kernel⟩
end
section
/-! BANS: cell 24 (size at 7), rows 25 driver, 26 first, 27 last, 28 conviction, 29 givenOn, 30 great, 31 shortened -/
def bn_has (x : mj_X) (d day : Int32) (j : Nat) : Bool := decide (x 25 j = d ∧ x 26 j ≤ day ∧ day ≤ x 27 j)
def bn_behF (x : mj_X) (d day : Int32) (j : Nat) (a : Int32) : Int32 := if bn_has x d day j = true then (if a < x 27 j + 1 then x 27 j + 1 else a) else a
def bn_nextF (x : mj_X) (d day : Int32) (j : Nat) (a : Int32) : Int32 := if x 25 j = d ∧ day < x 26 j then (if x 26 j < a then x 26 j else a) else a
def bn_lateF (x : mj_X) (d : Int32) (j : Nat) (a : Int32) : Int32 := if x 25 j = d then (if a < x 27 j then x 27 j else a) else a
def bn_greatF (x : mj_X) (d day : Int32) (j : Nat) (a : Int32) : Int32 := if x 25 j = d ∧ x 30 j = 1 ∧ day ≤ x 29 j then a + 1 else a
def bn_cntF (x : mj_X) (d : Int32) (j : Nat) (a : Int32) : Int32 := if x 25 j = d then a + 1 else a
def bn_shF (x : mj_X) (d t : Int32) (j : Nat) (a : Int32 × Int32) : Int32 × Int32 := if bn_has x d t j = true ∧ x 31 j = 0 ∧ a.2 ≤ x 27 j then (nI j, x 27 j) else a
def bn_beh (x : mj_X) (n : Nat) (d day : Int32) : Int32 := lp_f (bn_behF x d day) day n
def bn_next (x : mj_X) (n : Nat) (d day oth : Int32) : Int32 := lp_f (bn_nextF x d day) oth n
def bn_free (x : mj_X) (n : Nat) (d : Int32) : Nat → Int32 → Int32
  | 0, day => day
  | s + 1, day => if bn_beh x n d day = day then day else bn_free x n d s (bn_beh x n d day)
def bn_days (x : mj_X) (n : Nat) (d to : Int32) : Nat → Int32 → Int32 → Int32
  | 0, tot, _ => tot
  | s + 1, tot, day => if to < day then tot else bn_days x n d to s (tot + ((if to + 1 < bn_free x n d 83 day then to + 1 else bn_free x n d 83 day) - day)) (bn_next x n d (bn_free x n d 83 day) (to + 1))
def bn_placeP (x : mj_X) (d k : Int32) (j : Nat) : Bool := decide (x 25 j = d ∧ lp_f (bn_cntF x d) 0 j = k)
def bn_tell (x : mj_X) (j : Nat) (what : Int32) : Int32 := if what = 0 then x 26 j else if what = 1 then x 27 j - x 26 j + 1 else if what = 2 then x 28 j else if what = 3 then x 30 j else x 31 j
def bn_add (x : mj_X) (n : Nat) (d f many e t g : Int32) : mj_X := mj_up (mj_up (mj_up (mj_up (mj_up (mj_up (mj_up (mj_up x 25 n d) 26 n f) 27 n (f + many - 1)) 28 n e) 29 n t) 30 n g) 31 n 0) 24 7 (nI (n + 1))
def bn_short (x : mj_X) (j : Nat) (t : Int32) : mj_X := mj_up (mj_up x 27 j (if x 27 j - (x 27 j - x 26 j + 1) / 4 < t then t else x 27 j - (x 27 j - x 26 j + 1) / 4)) 31 j 1
set_option maxHeartbeats 1000000 in
theorem c_has (R : List mj_S) (x : mj_X) (j : Nat) (hj : j < 82) (d day : Int32) : mj_CP mX0_has (shX ++ R) [.ref 24, .int (nI j), .int d, .int day] x (bi (bn_has x d day j)) := by
  refine mj_startP (ls := [some (.ref 24), some (.int (nI j)), some (.int d), some (.int day)]) (by decide) rfl rfl (fun Q hQ => ?_)
  refine mj_ildn dX0_has_0 rfl ?_
  refine mj_if_lt (tgt := 44) dX0_has_1 rfl (fun h_1 => False.elim (by exact nI_pos (by omega) h_1)) (fun h_1 => ?_)
  refine mj_ildn dX0_has_4 rfl ?_
  refine mj_bipush dX0_has_5 nb_82 ?_
  refine mj_ic_ge (tgt := 44) dX0_has_7 rfl (fun h_7 => False.elim (by exact nl_lt hj (by decide) h_7)) (fun h_7 => ?_)
  refine mj_aldn dX0_has_10 rfl ?_
  refine mj_getr fkX0_11 dX0_has_11 rfl rfl ?_
  refine mj_ildn dX0_has_14 rfl ?_
  refine mj_iald dX0_has_15 rfl _ (by omega) rfl (by decide) ?_
  refine mj_ildn dX0_has_16 rfl ?_
  refine mj_ic_ne (tgt := 44) dX0_has_17 rfl (fun h_17 => ?_) (fun h_17 => ?_)
  · refine mj_iconst dX0_has_44 ni_0 ?_
    refine mj_retz rfl (by decide) dX0_has_45 ?_
    exact mj_q hQ (by unfold bn_has bi; simp; grind)
  · refine mj_aldn dX0_has_20 rfl ?_
    refine mj_getr fkX0_15 dX0_has_21 rfl rfl ?_
    refine mj_ildn dX0_has_24 rfl ?_
    refine mj_iald dX0_has_25 rfl _ (by omega) rfl (by decide) ?_
    refine mj_ildn dX0_has_26 rfl ?_
    refine mj_ic_gt (tgt := 44) dX0_has_27 rfl (fun h_27 => ?_) (fun h_27 => ?_)
    · refine mj_iconst dX0_has_44 ni_0 ?_
      refine mj_retz rfl (by decide) dX0_has_45 ?_
      exact mj_q hQ (by unfold bn_has bi; simp; grind)
    · refine mj_ildn dX0_has_30 rfl ?_
      refine mj_aldn dX0_has_31 rfl ?_
      refine mj_getr fkX0_18 dX0_has_32 rfl rfl ?_
      refine mj_ildn dX0_has_35 rfl ?_
      refine mj_iald dX0_has_36 rfl _ (by omega) rfl (by decide) ?_
      refine mj_ic_gt (tgt := 44) dX0_has_37 rfl (fun h_37 => ?_) (fun h_37 => ?_)
      · refine mj_iconst dX0_has_44 ni_0 ?_
        refine mj_retz rfl (by decide) dX0_has_45 ?_
        exact mj_q hQ (by unfold bn_has bi; simp; grind)
      · refine mj_iconst dX0_has_40 ni_1 ?_
        refine mj_goto (tgt := 45) dX0_has_41 rfl ?_
        refine mj_retz rfl (by decide) dX0_has_45 ?_
        exact mj_q hQ (by unfold bn_has bi; simp; grind)
set_option maxHeartbeats 1000000 in
theorem c_hold (R : List mj_S) (x : mj_X) (n : Nat) (hn : n ≤ 82) (hsz : x 24 7 = nI n) (d day : Int32) : mj_CP mX0_hold (shX ++ R) [.ref 24, .int d, .int day] x (bi (lp_any (bn_has x d day) n)) := by
  refine mj_startP (ls := [some (.ref 24), some (.int d), some (.int day), none]) (by decide) rfl rfl (fun Q hQ => ?_)
  have loop : ∀ (k j : Nat), j ≤ n → n < j + k → lp_any (bn_has x d day) j = false → mj_V mX0_hold (shX ++ R) Q x 2 [some (.ref 24), some (.int d), some (.int day), some (.int (nI j))] [] := by
    intro k
    induction k with
    | zero => intro j h1 h2; omega
    | succ k ih =>
      intro j h1 h2 hp
      refine mj_ildn dX0_hold_2 rfl ?_
      refine mj_aldn dX0_hold_3 rfl ?_
      refine mj_geti fkX0_33 dX0_hold_4 rfl rfl ?_
      refine mj_ic_ge (tgt := 34) dX0_hold_7 rfl (fun h_7 => ?_) (fun h_7 => ?_)
      · have hj : j = n := by rw [hsz, nI_leI (by omega) (by omega)] at h_7; omega
        subst hj
        refine mj_iconst dX0_hold_34 ni_0 ?_
        refine mj_retz rfl (by decide) dX0_hold_35 ?_
        exact mj_q hQ (by rw [hp]; rfl)
      · have hlt : j < n := by rw [hsz, nI_leI (by omega) (by omega)] at h_7; omega
        refine mj_ildn dX0_hold_10 rfl ?_
        refine mj_bipush dX0_hold_11 nb_82 ?_
        refine mj_ic_ge (tgt := 34) dX0_hold_13 rfl (fun h_13 => False.elim (by exact nl_lt (show j < 82 by omega) (by decide) h_13)) (fun h_13 => ?_)
        refine mj_aldn dX0_hold_16 rfl ?_
        refine mj_ildn dX0_hold_17 rfl ?_
        refine mj_ildn dX0_hold_18 rfl ?_
        refine mj_ildn dX0_hold_19 rfl ?_
        refine mj_cvp (K := mX0_has) (c_has R x j (by omega) d day) ckX0_has lkX0_37 ⟨Nat.le_of_ble_eq_true rfl, Nat.le_of_ble_eq_true rfl⟩ rfl dX0_hold_20 rfl rfl (Nat.le_of_ble_eq_true rfl) ?_
        refine mj_if_eq (tgt := 28) dX0_hold_23 rfl (fun h_23 => ?_) (fun h_23 => ?_)
        · rw [bi_z] at h_23
          refine mj_inc3 dX0_hold_28 ni_1 rfl ?_
          refine mj_goto (tgt := 2) dX0_hold_31 rfl ?_
          exact mj_ls (ih (j + 1) (by omega) (by omega) (by simp [lp_any, hp, h_23])) (by simp [nI_1])
        · rw [bi_nz] at h_23
          refine mj_iconst dX0_hold_26 ni_1 ?_
          refine mj_retz rfl (by decide) dX0_hold_27 ?_
          exact mj_q hQ (by rw [lp_any_true h_23 hlt]; rfl)
  refine mj_iconst dX0_hold_0 ni_0 ?_
  refine mj_istn3 dX0_hold_1 rfl ?_
  exact loop (n + 1) 0 (by omega) (by omega) rfl
set_option maxHeartbeats 1000000 in
theorem c_beh (R : List mj_S) (x : mj_X) (n : Nat) (hn : n ≤ 82) (hsz : x 24 7 = nI n) (d day : Int32) : mj_CP mX0_dayBehindBansOn (shX ++ R) [.ref 24, .int d, .int day] x (bn_beh x n d day) := by
  refine mj_startP (ls := [some (.ref 24), some (.int d), some (.int day), none, none]) (by decide) rfl rfl (fun Q hQ => ?_)
  have loop : ∀ (k j : Nat), j ≤ n → n < j + k → mj_V mX0_dayBehindBansOn (shX ++ R) Q x 5 [some (.ref 24), some (.int d), some (.int day), some (.int (lp_f (bn_behF x d day) day j)), some (.int (nI j))] [] := by
    intro k
    induction k with
    | zero => intro j h1 h2; omega
    | succ k ih =>
      intro j h1 h2 
      refine mj_ild dX0_dayBehindBansOn_5 rfl ?_
      refine mj_aldn dX0_dayBehindBansOn_7 rfl ?_
      refine mj_geti fkX0_33 dX0_dayBehindBansOn_8 rfl rfl ?_
      refine mj_ic_ge (tgt := 52) dX0_dayBehindBansOn_11 rfl (fun h_11 => ?_) (fun h_11 => ?_)
      · have hj : j = n := by rw [hsz, nI_leI (by omega) (by omega)] at h_11; omega
        subst hj
        refine mj_ildn dX0_dayBehindBansOn_52 rfl ?_
        refine mj_ret rfl dX0_dayBehindBansOn_53 ?_
        exact mj_q hQ rfl
      · have hlt : j < n := by rw [hsz, nI_leI (by omega) (by omega)] at h_11; omega
        refine mj_ild dX0_dayBehindBansOn_14 rfl ?_
        refine mj_bipush dX0_dayBehindBansOn_16 nb_82 ?_
        refine mj_ic_ge (tgt := 52) dX0_dayBehindBansOn_18 rfl (fun h_18 => False.elim (by exact nl_lt (show j < 82 by omega) (by decide) h_18)) (fun h_18 => ?_)
        refine mj_aldn dX0_dayBehindBansOn_21 rfl ?_
        refine mj_ild dX0_dayBehindBansOn_22 rfl ?_
        refine mj_ildn dX0_dayBehindBansOn_24 rfl ?_
        refine mj_ildn dX0_dayBehindBansOn_25 rfl ?_
        refine mj_cvp (K := mX0_has) (c_has R x j (by omega) d day) ckX0_has lkX0_37 ⟨Nat.le_of_ble_eq_true rfl, Nat.le_of_ble_eq_true rfl⟩ rfl dX0_dayBehindBansOn_26 rfl rfl (Nat.le_of_ble_eq_true rfl) ?_
        refine mj_if_eq (tgt := 46) dX0_dayBehindBansOn_29 rfl (fun h_29 => ?_) (fun h_29 => ?_)
        · rw [bi_z] at h_29
          refine mj_inc4 dX0_dayBehindBansOn_46 ni_1 rfl ?_
          refine mj_goto (tgt := 5) dX0_dayBehindBansOn_49 rfl ?_
          exact mj_ls (ih (j + 1) (by omega) (by omega)) (by simp [lp_f, nI_1, bn_behF, h_11, h_29])
        · rw [bi_nz] at h_29
          refine mj_ildn dX0_dayBehindBansOn_32 rfl ?_
          refine mj_aldn dX0_dayBehindBansOn_33 rfl ?_
          refine mj_getr fkX0_18 dX0_dayBehindBansOn_34 rfl rfl ?_
          refine mj_ild dX0_dayBehindBansOn_37 rfl ?_
          refine mj_iald dX0_dayBehindBansOn_39 rfl _ (by omega) rfl (by decide) ?_
          refine mj_iconst dX0_dayBehindBansOn_40 ni_1 ?_
          refine mj_iadd dX0_dayBehindBansOn_41 ?_
          refine mj_mx lkX0_45 (Nat.le_of_ble_eq_true rfl) (Nat.le_of_ble_eq_true rfl) (Nat.le_of_ble_eq_true rfl) dX0_dayBehindBansOn_42 ?_
          refine mj_istn3 dX0_dayBehindBansOn_45 rfl ?_
          refine mj_inc4 dX0_dayBehindBansOn_46 ni_1 rfl ?_
          refine mj_goto (tgt := 5) dX0_dayBehindBansOn_49 rfl ?_
          exact mj_ls (ih (j + 1) (by omega) (by omega)) (by simp [lp_f, nI_1, bn_behF, h_11, h_29])
  refine mj_ildn dX0_dayBehindBansOn_0 rfl ?_
  refine mj_istn3 dX0_dayBehindBansOn_1 rfl ?_
  refine mj_iconst dX0_dayBehindBansOn_2 ni_0 ?_
  refine mj_ist4 dX0_dayBehindBansOn_3 rfl ?_
  exact loop (n + 1) 0 (by omega) (by omega)
set_option maxHeartbeats 1000000 in
theorem c_next (R : List mj_S) (x : mj_X) (n : Nat) (hn : n ≤ 82) (hsz : x 24 7 = nI n) (d day oth : Int32) : mj_CP mX0_nextFirstDay (shX ++ R) [.ref 24, .int d, .int day, .int oth] x (bn_next x n d day oth) := by
  refine mj_startP (ls := [some (.ref 24), some (.int d), some (.int day), some (.int oth), none, none]) (by decide) rfl rfl (fun Q hQ => ?_)
  have loop : ∀ (k j : Nat), j ≤ n → n < j + k → mj_V mX0_nextFirstDay (shX ++ R) Q x 6 [some (.ref 24), some (.int d), some (.int day), some (.int oth), some (.int (lp_f (bn_nextF x d day) oth j)), some (.int (nI j))] [] := by
    intro k
    induction k with
    | zero => intro j h1 h2; omega
    | succ k ih =>
      intro j h1 h2 
      refine mj_ild dX0_nextFirstDay_6 rfl ?_
      refine mj_aldn dX0_nextFirstDay_8 rfl ?_
      refine mj_geti fkX0_33 dX0_nextFirstDay_9 rfl rfl ?_
      refine mj_ic_ge (tgt := 64) dX0_nextFirstDay_12 rfl (fun h_12 => ?_) (fun h_12 => ?_)
      · have hj : j = n := by rw [hsz, nI_leI (by omega) (by omega)] at h_12; omega
        subst hj
        refine mj_ild dX0_nextFirstDay_64 rfl ?_
        refine mj_ret rfl dX0_nextFirstDay_66 ?_
        exact mj_q hQ rfl
      · have hlt : j < n := by rw [hsz, nI_leI (by omega) (by omega)] at h_12; omega
        refine mj_ild dX0_nextFirstDay_15 rfl ?_
        refine mj_bipush dX0_nextFirstDay_17 nb_82 ?_
        refine mj_ic_ge (tgt := 64) dX0_nextFirstDay_19 rfl (fun h_19 => False.elim (by exact nl_lt (show j < 82 by omega) (by decide) h_19)) (fun h_19 => ?_)
        refine mj_aldn dX0_nextFirstDay_22 rfl ?_
        refine mj_getr fkX0_11 dX0_nextFirstDay_23 rfl rfl ?_
        refine mj_ild dX0_nextFirstDay_26 rfl ?_
        refine mj_iald dX0_nextFirstDay_28 rfl _ (by omega) rfl (by decide) ?_
        refine mj_ildn dX0_nextFirstDay_29 rfl ?_
        refine mj_ic_ne (tgt := 58) dX0_nextFirstDay_30 rfl (fun h_30 => ?_) (fun h_30 => ?_)
        · refine mj_inc5 dX0_nextFirstDay_58 ni_1 rfl ?_
          refine mj_goto (tgt := 6) dX0_nextFirstDay_61 rfl ?_
          exact mj_ls (ih (j + 1) (by omega) (by omega)) (by simp [lp_f, nI_1, bn_nextF] <;> grind)
        · refine mj_aldn dX0_nextFirstDay_33 rfl ?_
          refine mj_getr fkX0_15 dX0_nextFirstDay_34 rfl rfl ?_
          refine mj_ild dX0_nextFirstDay_37 rfl ?_
          refine mj_iald dX0_nextFirstDay_39 rfl _ (by omega) rfl (by decide) ?_
          refine mj_ildn dX0_nextFirstDay_40 rfl ?_
          refine mj_ic_le (tgt := 58) dX0_nextFirstDay_41 rfl (fun h_41 => ?_) (fun h_41 => ?_)
          · have g_41 : ¬ day < x 26 j := by grind
            refine mj_inc5 dX0_nextFirstDay_58 ni_1 rfl ?_
            refine mj_goto (tgt := 6) dX0_nextFirstDay_61 rfl ?_
            exact mj_ls (ih (j + 1) (by omega) (by omega)) (by simp [lp_f, nI_1, bn_nextF] <;> grind)
          · have g_41 : day < x 26 j := by grind
            refine mj_ild dX0_nextFirstDay_44 rfl ?_
            refine mj_aldn dX0_nextFirstDay_46 rfl ?_
            refine mj_getr fkX0_15 dX0_nextFirstDay_47 rfl rfl ?_
            refine mj_ild dX0_nextFirstDay_50 rfl ?_
            refine mj_iald dX0_nextFirstDay_52 rfl _ (by omega) rfl (by decide) ?_
            refine mj_mn lkX0_53 (Nat.le_of_ble_eq_true rfl) (Nat.le_of_ble_eq_true rfl) (Nat.le_of_ble_eq_true rfl) dX0_nextFirstDay_53 ?_
            refine mj_ist4 dX0_nextFirstDay_56 rfl ?_
            refine mj_inc5 dX0_nextFirstDay_58 ni_1 rfl ?_
            refine mj_goto (tgt := 6) dX0_nextFirstDay_61 rfl ?_
            exact mj_ls (ih (j + 1) (by omega) (by omega)) (by simp [lp_f, nI_1, bn_nextF] <;> grind)
  refine mj_ildn dX0_nextFirstDay_0 rfl ?_
  refine mj_ist4 dX0_nextFirstDay_1 rfl ?_
  refine mj_iconst dX0_nextFirstDay_3 ni_0 ?_
  refine mj_ist5 dX0_nextFirstDay_4 rfl ?_
  exact loop (n + 1) 0 (by omega) (by omega)
set_option maxHeartbeats 1000000 in
theorem c_late (R : List mj_S) (x : mj_X) (n : Nat) (hn : n ≤ 82) (hsz : x 24 7 = nI n) (d : Int32) : mj_CP mX0_latestDay (shX ++ R) [.ref 24, .int d] x (lp_f (bn_lateF x d) (-1) n) := by
  refine mj_startP (ls := [some (.ref 24), some (.int d), none, none]) (by decide) rfl rfl (fun Q hQ => ?_)
  have loop : ∀ (k j : Nat), j ≤ n → n < j + k → mj_V mX0_latestDay (shX ++ R) Q x 4 [some (.ref 24), some (.int d), some (.int (lp_f (bn_lateF x d) (-1) j)), some (.int (nI j))] [] := by
    intro k
    induction k with
    | zero => intro j h1 h2; omega
    | succ k ih =>
      intro j h1 h2 
      refine mj_ildn dX0_latestDay_4 rfl ?_
      refine mj_aldn dX0_latestDay_5 rfl ?_
      refine mj_geti fkX0_33 dX0_latestDay_6 rfl rfl ?_
      refine mj_ic_ge (tgt := 45) dX0_latestDay_9 rfl (fun h_9 => ?_) (fun h_9 => ?_)
      · have hj : j = n := by rw [hsz, nI_leI (by omega) (by omega)] at h_9; omega
        subst hj
        refine mj_ildn dX0_latestDay_45 rfl ?_
        refine mj_ret rfl dX0_latestDay_46 ?_
        exact mj_q hQ rfl
      · have hlt : j < n := by rw [hsz, nI_leI (by omega) (by omega)] at h_9; omega
        refine mj_ildn dX0_latestDay_12 rfl ?_
        refine mj_bipush dX0_latestDay_13 nb_82 ?_
        refine mj_ic_ge (tgt := 45) dX0_latestDay_15 rfl (fun h_15 => False.elim (by exact nl_lt (show j < 82 by omega) (by decide) h_15)) (fun h_15 => ?_)
        refine mj_aldn dX0_latestDay_18 rfl ?_
        refine mj_getr fkX0_11 dX0_latestDay_19 rfl rfl ?_
        refine mj_ildn dX0_latestDay_22 rfl ?_
        refine mj_iald dX0_latestDay_23 rfl _ (by omega) rfl (by decide) ?_
        refine mj_ildn dX0_latestDay_24 rfl ?_
        refine mj_ic_ne (tgt := 39) dX0_latestDay_25 rfl (fun h_25 => ?_) (fun h_25 => ?_)
        · refine mj_inc3 dX0_latestDay_39 ni_1 rfl ?_
          refine mj_goto (tgt := 4) dX0_latestDay_42 rfl ?_
          exact mj_ls (ih (j + 1) (by omega) (by omega)) (by simp [lp_f, nI_1, bn_lateF, h_9, h_25])
        · refine mj_ildn dX0_latestDay_28 rfl ?_
          refine mj_aldn dX0_latestDay_29 rfl ?_
          refine mj_getr fkX0_18 dX0_latestDay_30 rfl rfl ?_
          refine mj_ildn dX0_latestDay_33 rfl ?_
          refine mj_iald dX0_latestDay_34 rfl _ (by omega) rfl (by decide) ?_
          refine mj_mx lkX0_45 (Nat.le_of_ble_eq_true rfl) (Nat.le_of_ble_eq_true rfl) (Nat.le_of_ble_eq_true rfl) dX0_latestDay_35 ?_
          refine mj_istn2 dX0_latestDay_38 rfl ?_
          refine mj_inc3 dX0_latestDay_39 ni_1 rfl ?_
          refine mj_goto (tgt := 4) dX0_latestDay_42 rfl ?_
          exact mj_ls (ih (j + 1) (by omega) (by omega)) (by simp [lp_f, nI_1, bn_lateF, h_9, h_25])
  refine mj_iconst dX0_latestDay_0 ni_m1 ?_
  refine mj_istn2 dX0_latestDay_1 rfl ?_
  refine mj_iconst dX0_latestDay_2 ni_0 ?_
  refine mj_istn3 dX0_latestDay_3 rfl ?_
  exact loop (n + 1) 0 (by omega) (by omega)
set_option maxHeartbeats 1000000 in
theorem c_great (R : List mj_S) (x : mj_X) (n : Nat) (hn : n ≤ 82) (hsz : x 24 7 = nI n) (d day : Int32) : mj_CP mX0_greatSince (shX ++ R) [.ref 24, .int d, .int day] x (lp_f (bn_greatF x d day) 0 n) := by
  refine mj_startP (ls := [some (.ref 24), some (.int d), some (.int day), none, none]) (by decide) rfl rfl (fun Q hQ => ?_)
  have loop : ∀ (k j : Nat), j ≤ n → n < j + k → mj_V mX0_greatSince (shX ++ R) Q x 5 [some (.ref 24), some (.int d), some (.int day), some (.int (lp_f (bn_greatF x d day) 0 j)), some (.int (nI j))] [] := by
    intro k
    induction k with
    | zero => intro j h1 h2; omega
    | succ k ih =>
      intro j h1 h2 
      refine mj_ild dX0_greatSince_5 rfl ?_
      refine mj_aldn dX0_greatSince_7 rfl ?_
      refine mj_geti fkX0_33 dX0_greatSince_8 rfl rfl ?_
      refine mj_ic_ge (tgt := 63) dX0_greatSince_11 rfl (fun h_11 => ?_) (fun h_11 => ?_)
      · have hj : j = n := by rw [hsz, nI_leI (by omega) (by omega)] at h_11; omega
        subst hj
        refine mj_ildn dX0_greatSince_63 rfl ?_
        refine mj_ret rfl dX0_greatSince_64 ?_
        exact mj_q hQ rfl
      · have hlt : j < n := by rw [hsz, nI_leI (by omega) (by omega)] at h_11; omega
        refine mj_ild dX0_greatSince_14 rfl ?_
        refine mj_bipush dX0_greatSince_16 nb_82 ?_
        refine mj_ic_ge (tgt := 63) dX0_greatSince_18 rfl (fun h_18 => False.elim (by exact nl_lt (show j < 82 by omega) (by decide) h_18)) (fun h_18 => ?_)
        refine mj_aldn dX0_greatSince_21 rfl ?_
        refine mj_getr fkX0_11 dX0_greatSince_22 rfl rfl ?_
        refine mj_ild dX0_greatSince_25 rfl ?_
        refine mj_iald dX0_greatSince_27 rfl _ (by omega) rfl (by decide) ?_
        refine mj_ildn dX0_greatSince_28 rfl ?_
        refine mj_ic_ne (tgt := 57) dX0_greatSince_29 rfl (fun h_29 => ?_) (fun h_29 => ?_)
        · refine mj_inc4 dX0_greatSince_57 ni_1 rfl ?_
          refine mj_goto (tgt := 5) dX0_greatSince_60 rfl ?_
          exact mj_ls (ih (j + 1) (by omega) (by omega)) (by simp [lp_f, nI_1, bn_greatF] <;> grind)
        · refine mj_aldn dX0_greatSince_32 rfl ?_
          refine mj_getr fkX0_27 dX0_greatSince_33 rfl rfl ?_
          refine mj_ild dX0_greatSince_36 rfl ?_
          refine mj_iald dX0_greatSince_38 rfl _ (by omega) rfl (by decide) ?_
          refine mj_iconst dX0_greatSince_39 ni_1 ?_
          refine mj_ic_ne (tgt := 57) dX0_greatSince_40 rfl (fun h_40 => ?_) (fun h_40 => ?_)
          · refine mj_inc4 dX0_greatSince_57 ni_1 rfl ?_
            refine mj_goto (tgt := 5) dX0_greatSince_60 rfl ?_
            exact mj_ls (ih (j + 1) (by omega) (by omega)) (by simp [lp_f, nI_1, bn_greatF] <;> grind)
          · refine mj_aldn dX0_greatSince_43 rfl ?_
            refine mj_getr fkX0_24 dX0_greatSince_44 rfl rfl ?_
            refine mj_ild dX0_greatSince_47 rfl ?_
            refine mj_iald dX0_greatSince_49 rfl _ (by omega) rfl (by decide) ?_
            refine mj_ildn dX0_greatSince_50 rfl ?_
            refine mj_ic_lt (tgt := 57) dX0_greatSince_51 rfl (fun h_51 => ?_) (fun h_51 => ?_)
            · refine mj_inc4 dX0_greatSince_57 ni_1 rfl ?_
              refine mj_goto (tgt := 5) dX0_greatSince_60 rfl ?_
              exact mj_ls (ih (j + 1) (by omega) (by omega)) (by simp [lp_f, nI_1, bn_greatF] <;> grind)
            · refine mj_inc3 dX0_greatSince_54 ni_1 rfl ?_
              refine mj_inc4 dX0_greatSince_57 ni_1 rfl ?_
              refine mj_goto (tgt := 5) dX0_greatSince_60 rfl ?_
              exact mj_ls (ih (j + 1) (by omega) (by omega)) (by simp [lp_f, nI_1, bn_greatF] <;> grind)
  refine mj_iconst dX0_greatSince_0 ni_0 ?_
  refine mj_istn3 dX0_greatSince_1 rfl ?_
  refine mj_iconst dX0_greatSince_2 ni_0 ?_
  refine mj_ist4 dX0_greatSince_3 rfl ?_
  exact loop (n + 1) 0 (by omega) (by omega)
set_option maxHeartbeats 1000000 in
theorem c_toSh (R : List mj_S) (x : mj_X) (n : Nat) (hn : n ≤ 82) (hsz : x 24 7 = nI n) (d t : Int32) : mj_CP mX0_toShorten (shX ++ R) [.ref 24, .int d, .int t] x (lp_f (bn_shF x d t) (-1, t) n).1 := by
  refine mj_startP (ls := [some (.ref 24), some (.int d), some (.int t), none, none, none]) (by decide) rfl rfl (fun Q hQ => ?_)
  have loop : ∀ (k j : Nat), j ≤ n → n < j + k → mj_V mX0_toShorten (shX ++ R) Q x 8 [some (.ref 24), some (.int d), some (.int t), some (.int (lp_f (bn_shF x d t) (-1, t) j).1), some (.int (lp_f (bn_shF x d t) (-1, t) j).2), some (.int (nI j))] [] := by
    intro k
    induction k with
    | zero => intro j h1 h2; omega
    | succ k ih =>
      intro j h1 h2 
      refine mj_ild dX0_toShorten_8 rfl ?_
      refine mj_aldn dX0_toShorten_10 rfl ?_
      refine mj_geti fkX0_33 dX0_toShorten_11 rfl rfl ?_
      refine mj_ic_ge (tgt := 75) dX0_toShorten_14 rfl (fun h_14 => ?_) (fun h_14 => ?_)
      · have hj : j = n := by rw [hsz, nI_leI (by omega) (by omega)] at h_14; omega
        subst hj
        refine mj_ildn dX0_toShorten_75 rfl ?_
        refine mj_ret rfl dX0_toShorten_76 ?_
        exact mj_q hQ rfl
      · have hlt : j < n := by rw [hsz, nI_leI (by omega) (by omega)] at h_14; omega
        refine mj_ild dX0_toShorten_17 rfl ?_
        refine mj_bipush dX0_toShorten_19 nb_82 ?_
        refine mj_ic_ge (tgt := 75) dX0_toShorten_21 rfl (fun h_21 => False.elim (by exact nl_lt (show j < 82 by omega) (by decide) h_21)) (fun h_21 => ?_)
        refine mj_aldn dX0_toShorten_24 rfl ?_
        refine mj_ild dX0_toShorten_25 rfl ?_
        refine mj_ildn dX0_toShorten_27 rfl ?_
        refine mj_ildn dX0_toShorten_28 rfl ?_
        refine mj_cvp (K := mX0_has) (c_has R x j (by omega) d t) ckX0_has lkX0_37 ⟨Nat.le_of_ble_eq_true rfl, Nat.le_of_ble_eq_true rfl⟩ rfl dX0_toShorten_29 rfl rfl (Nat.le_of_ble_eq_true rfl) ?_
        refine mj_if_eq (tgt := 69) dX0_toShorten_32 rfl (fun h_32 => ?_) (fun h_32 => ?_)
        · rw [bi_z] at h_32
          refine mj_inc5 dX0_toShorten_69 ni_1 rfl ?_
          refine mj_goto (tgt := 8) dX0_toShorten_72 rfl ?_
          exact mj_ls (ih (j + 1) (by omega) (by omega)) (by simp [lp_f, nI_1, bn_shF] <;> grind)
        · rw [bi_nz] at h_32
          refine mj_aldn dX0_toShorten_35 rfl ?_
          refine mj_getr fkX0_30 dX0_toShorten_36 rfl rfl ?_
          refine mj_ild dX0_toShorten_39 rfl ?_
          refine mj_iald dX0_toShorten_41 rfl _ (by omega) rfl (by decide) ?_
          refine mj_if_ne (tgt := 69) dX0_toShorten_42 rfl (fun h_42 => ?_) (fun h_42 => ?_)
          · refine mj_inc5 dX0_toShorten_69 ni_1 rfl ?_
            refine mj_goto (tgt := 8) dX0_toShorten_72 rfl ?_
            exact mj_ls (ih (j + 1) (by omega) (by omega)) (by simp [lp_f, nI_1, bn_shF] <;> grind)
          · refine mj_aldn dX0_toShorten_45 rfl ?_
            refine mj_getr fkX0_18 dX0_toShorten_46 rfl rfl ?_
            refine mj_ild dX0_toShorten_49 rfl ?_
            refine mj_iald dX0_toShorten_51 rfl _ (by omega) rfl (by decide) ?_
            refine mj_ild dX0_toShorten_52 rfl ?_
            refine mj_ic_lt (tgt := 69) dX0_toShorten_54 rfl (fun h_54 => ?_) (fun h_54 => ?_)
            · refine mj_inc5 dX0_toShorten_69 ni_1 rfl ?_
              refine mj_goto (tgt := 8) dX0_toShorten_72 rfl ?_
              exact mj_ls (ih (j + 1) (by omega) (by omega)) (by simp [lp_f, nI_1, bn_shF] <;> grind)
            · refine mj_ild dX0_toShorten_57 rfl ?_
              refine mj_istn3 dX0_toShorten_59 rfl ?_
              refine mj_aldn dX0_toShorten_60 rfl ?_
              refine mj_getr fkX0_18 dX0_toShorten_61 rfl rfl ?_
              refine mj_ild dX0_toShorten_64 rfl ?_
              refine mj_iald dX0_toShorten_66 rfl _ (by omega) rfl (by decide) ?_
              refine mj_ist4 dX0_toShorten_67 rfl ?_
              refine mj_inc5 dX0_toShorten_69 ni_1 rfl ?_
              refine mj_goto (tgt := 8) dX0_toShorten_72 rfl ?_
              exact mj_ls (ih (j + 1) (by omega) (by omega)) (by simp [lp_f, nI_1, bn_shF] <;> grind)
  refine mj_iconst dX0_toShorten_0 ni_m1 ?_
  refine mj_istn3 dX0_toShorten_1 rfl ?_
  refine mj_ildn dX0_toShorten_2 rfl ?_
  refine mj_ist4 dX0_toShorten_3 rfl ?_
  refine mj_iconst dX0_toShorten_5 ni_0 ?_
  refine mj_ist5 dX0_toShorten_6 rfl ?_
  exact loop (n + 1) 0 (by omega) (by omega)
set_option maxHeartbeats 1000000 in
theorem c_cnt (R : List mj_S) (x : mj_X) (n : Nat) (hn : n ≤ 82) (hsz : x 24 7 = nI n) (d : Int32) : mj_CP mX0_givenTo (shX ++ R) [.ref 24, .int d] x (lp_f (bn_cntF x d) 0 n) := by
  refine mj_startP (ls := [some (.ref 24), some (.int d), none, none]) (by decide) rfl rfl (fun Q hQ => ?_)
  have loop : ∀ (k j : Nat), j ≤ n → n < j + k → mj_V mX0_givenTo (shX ++ R) Q x 4 [some (.ref 24), some (.int d), some (.int (lp_f (bn_cntF x d) 0 j)), some (.int (nI j))] [] := by
    intro k
    induction k with
    | zero => intro j h1 h2; omega
    | succ k ih =>
      intro j h1 h2 
      refine mj_ildn dX0_givenTo_4 rfl ?_
      refine mj_aldn dX0_givenTo_5 rfl ?_
      refine mj_geti fkX0_33 dX0_givenTo_6 rfl rfl ?_
      refine mj_ic_ge (tgt := 37) dX0_givenTo_9 rfl (fun h_9 => ?_) (fun h_9 => ?_)
      · have hj : j = n := by rw [hsz, nI_leI (by omega) (by omega)] at h_9; omega
        subst hj
        refine mj_ildn dX0_givenTo_37 rfl ?_
        refine mj_ret rfl dX0_givenTo_38 ?_
        exact mj_q hQ rfl
      · have hlt : j < n := by rw [hsz, nI_leI (by omega) (by omega)] at h_9; omega
        refine mj_ildn dX0_givenTo_12 rfl ?_
        refine mj_bipush dX0_givenTo_13 nb_82 ?_
        refine mj_ic_ge (tgt := 37) dX0_givenTo_15 rfl (fun h_15 => False.elim (by exact nl_lt (show j < 82 by omega) (by decide) h_15)) (fun h_15 => ?_)
        refine mj_aldn dX0_givenTo_18 rfl ?_
        refine mj_getr fkX0_11 dX0_givenTo_19 rfl rfl ?_
        refine mj_ildn dX0_givenTo_22 rfl ?_
        refine mj_iald dX0_givenTo_23 rfl _ (by omega) rfl (by decide) ?_
        refine mj_ildn dX0_givenTo_24 rfl ?_
        refine mj_ic_ne (tgt := 31) dX0_givenTo_25 rfl (fun h_25 => ?_) (fun h_25 => ?_)
        · refine mj_inc3 dX0_givenTo_31 ni_1 rfl ?_
          refine mj_goto (tgt := 4) dX0_givenTo_34 rfl ?_
          exact mj_ls (ih (j + 1) (by omega) (by omega)) (by simp [lp_f, nI_1, bn_cntF, h_9, h_25])
        · refine mj_inc2 dX0_givenTo_28 ni_1 rfl ?_
          refine mj_inc3 dX0_givenTo_31 ni_1 rfl ?_
          refine mj_goto (tgt := 4) dX0_givenTo_34 rfl ?_
          exact mj_ls (ih (j + 1) (by omega) (by omega)) (by simp [lp_f, nI_1, bn_cntF, h_9, h_25])
  refine mj_iconst dX0_givenTo_0 ni_0 ?_
  refine mj_istn2 dX0_givenTo_1 rfl ?_
  refine mj_iconst dX0_givenTo_2 ni_0 ?_
  refine mj_istn3 dX0_givenTo_3 rfl ?_
  exact loop (n + 1) 0 (by omega) (by omega)
theorem lp_find_no {p : Nat → Bool} : ∀ (k j n : Nat), n = j + k → (∀ i, j ≤ i → i < n → p i = false) → lp_find p k j = none
  | 0, _, _, _, _ => rfl
  | k + 1, j, n, h, hp => by rw [lp_find, hp j (by omega) (by omega), lp_find_no k (j + 1) n (by omega) (fun i h1 h2 => hp i (by omega) h2)]; rfl
theorem lp_find_yes {p : Nat → Bool} {i : Nat} (hi : p i = true) : ∀ (k j : Nat), j ≤ i → i < j + k → (∀ l, j ≤ l → l < i → p l = false) → lp_find p k j = some i
  | 0, j, h1, h2, _ => by omega
  | k + 1, j, h1, h2, hp => by
    by_cases e : j = i
    · subst e; rw [lp_find, hi]; rfl
    · rw [lp_find, hp j (by omega) (by omega), lp_find_yes hi k (j + 1) (by omega) (by omega) (fun l a b => hp l (by omega) b)]; rfl
def bn_place (x : mj_X) (n : Nat) (d k : Int32) : Int32 := match lp_find (bn_placeP x d k) n 0 with
  | some j => nI j
  | none => -1
set_option maxHeartbeats 1000000 in
theorem c_place (R : List mj_S) (x : mj_X) (n : Nat) (hn : n ≤ 82) (hsz : x 24 7 = nI n) (d k0 : Int32) : mj_CP mX0_placeOf (shX ++ R) [.ref 24, .int d, .int k0] x (bn_place x n d k0) := by
  refine mj_startP (ls := [some (.ref 24), some (.int d), some (.int k0), none, none]) (by decide) rfl rfl (fun Q hQ => ?_)
  have loop : ∀ (k j : Nat), j ≤ n → n < j + k → (∀ i, i < j → bn_placeP x d k0 i = false) → mj_V mX0_placeOf (shX ++ R) Q x 5 [some (.ref 24), some (.int d), some (.int k0), some (.int (lp_f (bn_cntF x d) 0 j)), some (.int (nI j))] [] := by
    intro k
    induction k with
    | zero => intro j h1 h2; omega
    | succ k ih =>
      intro j h1 h2 hp
      refine mj_ild dX0_placeOf_5 rfl ?_
      refine mj_aldn dX0_placeOf_7 rfl ?_
      refine mj_geti fkX0_33 dX0_placeOf_8 rfl rfl ?_
      refine mj_ic_ge (tgt := 49) dX0_placeOf_11 rfl (fun h_11 => ?_) (fun h_11 => ?_)
      · have hj : j = n := by rw [hsz, nI_leI (by omega) (by omega)] at h_11; omega
        subst hj
        refine mj_iconst dX0_placeOf_49 ni_m1 ?_
        refine mj_ret rfl dX0_placeOf_50 ?_
        exact mj_q hQ (by unfold bn_place; rw [lp_find_no j 0 j (by omega) (fun i _ h => hp i h)])
      · have hlt : j < n := by rw [hsz, nI_leI (by omega) (by omega)] at h_11; omega
        refine mj_ild dX0_placeOf_14 rfl ?_
        refine mj_bipush dX0_placeOf_16 nb_82 ?_
        refine mj_ic_ge (tgt := 49) dX0_placeOf_18 rfl (fun h_18 => False.elim (by exact nl_lt (show j < 82 by omega) (by decide) h_18)) (fun h_18 => ?_)
        refine mj_aldn dX0_placeOf_21 rfl ?_
        refine mj_getr fkX0_11 dX0_placeOf_22 rfl rfl ?_
        refine mj_ild dX0_placeOf_25 rfl ?_
        refine mj_iald dX0_placeOf_27 rfl _ (by omega) rfl (by decide) ?_
        refine mj_ildn dX0_placeOf_28 rfl ?_
        refine mj_ic_ne (tgt := 43) dX0_placeOf_29 rfl (fun h_29 => ?_) (fun h_29 => ?_)
        · refine mj_inc4 dX0_placeOf_43 ni_1 rfl ?_
          refine mj_goto (tgt := 5) dX0_placeOf_46 rfl ?_
          exact mj_ls (ih (j + 1) (by omega) (by omega) (lt_s hp (by simp [bn_placeP, h_11, h_29]))) (by simp [lp_f, nI_1, bn_cntF, h_11, h_29])
        · refine mj_ildn dX0_placeOf_32 rfl ?_
          refine mj_ildn dX0_placeOf_33 rfl ?_
          refine mj_ic_ne (tgt := 40) dX0_placeOf_34 rfl (fun h_34 => ?_) (fun h_34 => ?_)
          · refine mj_inc3 dX0_placeOf_40 ni_1 rfl ?_
            refine mj_inc4 dX0_placeOf_43 ni_1 rfl ?_
            refine mj_goto (tgt := 5) dX0_placeOf_46 rfl ?_
            exact mj_ls (ih (j + 1) (by omega) (by omega) (lt_s hp (by simp [bn_placeP, h_11, h_29, h_34]))) (by simp [lp_f, nI_1, bn_cntF, h_11, h_29, h_34])
          · refine mj_ild dX0_placeOf_37 rfl ?_
            refine mj_ret rfl dX0_placeOf_39 ?_
            exact mj_q hQ (by unfold bn_place; rw [lp_find_yes (i := j) (by simp [bn_placeP, h_29, h_34]) n 0 (by omega) (by omega) (fun l _ h => hp l h)])
  refine mj_iconst dX0_placeOf_0 ni_0 ?_
  refine mj_istn3 dX0_placeOf_1 rfl ?_
  refine mj_iconst dX0_placeOf_2 ni_0 ?_
  refine mj_ist4 dX0_placeOf_3 rfl ?_
  exact loop (n + 1) 0 (by omega) (by omega) (fun i hi => by omega)
set_option maxHeartbeats 1000000 in
theorem c_btell (R : List mj_S) (x : mj_X) (j : Nat) (hj : j < 82) (what : Int32) : mj_CP mX0_tellOf (shX ++ R) [.ref 24, .int (nI j), .int what] x (bn_tell x j what) := by
  refine mj_startP (ls := [some (.ref 24), some (.int (nI j)), some (.int what)]) (by decide) rfl rfl (fun Q hQ => ?_)
  refine mj_ildn dX0_tellOf_0 rfl ?_
  refine mj_if_lt (tgt := 10) dX0_tellOf_1 rfl (fun h_1 => False.elim (by exact nI_pos (by omega) h_1)) (fun h_1 => ?_)
  refine mj_ildn dX0_tellOf_4 rfl ?_
  refine mj_bipush dX0_tellOf_5 nb_82 ?_
  refine mj_ic_lt (tgt := 13) dX0_tellOf_7 rfl (fun h_7 => ?_) (fun h_7 => False.elim (by exact h_7 (nI_lt hj (by decide))))
  refine mj_ildn dX0_tellOf_13 rfl ?_
  by_cases s14_0 : what = 0
  · subst s14_0
    refine mj_tableIn (off := 30) (tgt := 44) dX0_tellOf_14 (by decide) (by decide) (by decide) rfl ?_
    refine mj_aldn dX0_tellOf_44 rfl ?_
    refine mj_getr fkX0_15 dX0_tellOf_45 rfl rfl ?_
    refine mj_ildn dX0_tellOf_48 rfl ?_
    refine mj_iald dX0_tellOf_49 rfl _ (by omega) rfl (by decide) ?_
    refine mj_ret rfl dX0_tellOf_50 ?_
    exact mj_q hQ (by simp [bn_tell])
  by_cases s14_1 : what = 1
  · subst s14_1
    refine mj_tableIn (off := 37) (tgt := 51) dX0_tellOf_14 (by decide) (by decide) (by decide) rfl ?_
    refine mj_aldn dX0_tellOf_51 rfl ?_
    refine mj_getr fkX0_18 dX0_tellOf_52 rfl rfl ?_
    refine mj_ildn dX0_tellOf_55 rfl ?_
    refine mj_iald dX0_tellOf_56 rfl _ (by omega) rfl (by decide) ?_
    refine mj_aldn dX0_tellOf_57 rfl ?_
    refine mj_getr fkX0_15 dX0_tellOf_58 rfl rfl ?_
    refine mj_ildn dX0_tellOf_61 rfl ?_
    refine mj_iald dX0_tellOf_62 rfl _ (by omega) rfl (by decide) ?_
    refine mj_isub dX0_tellOf_63 ?_
    refine mj_iconst dX0_tellOf_64 ni_1 ?_
    refine mj_iadd dX0_tellOf_65 ?_
    refine mj_ret rfl dX0_tellOf_66 ?_
    exact mj_q hQ (by simp [bn_tell, s14_0])
  by_cases s14_2 : what = 2
  · subst s14_2
    refine mj_tableIn (off := 53) (tgt := 67) dX0_tellOf_14 (by decide) (by decide) (by decide) rfl ?_
    refine mj_aldn dX0_tellOf_67 rfl ?_
    refine mj_getr fkX0_21 dX0_tellOf_68 rfl rfl ?_
    refine mj_ildn dX0_tellOf_71 rfl ?_
    refine mj_iald dX0_tellOf_72 rfl _ (by omega) rfl (by decide) ?_
    refine mj_ret rfl dX0_tellOf_73 ?_
    exact mj_q hQ (by simp [bn_tell, s14_0, s14_1])
  by_cases s14_3 : what = 3
  · subst s14_3
    refine mj_tableIn (off := 60) (tgt := 74) dX0_tellOf_14 (by decide) (by decide) (by decide) rfl ?_
    refine mj_aldn dX0_tellOf_74 rfl ?_
    refine mj_getr fkX0_27 dX0_tellOf_75 rfl rfl ?_
    refine mj_ildn dX0_tellOf_78 rfl ?_
    refine mj_iald dX0_tellOf_79 rfl _ (by omega) rfl (by decide) ?_
    refine mj_ret rfl dX0_tellOf_80 ?_
    exact mj_q hQ (by simp [bn_tell, s14_0, s14_1, s14_2])
  refine mj_tableOut (tgt := 81) dX0_tellOf_14 (by have u0 := ti_ne s14_0; rw [tl_0] at u0; have u1 := ti_ne s14_1; rw [tl_1] at u1; have u2 := ti_ne s14_2; rw [tl_2] at u2; have u3 := ti_ne s14_3; rw [tl_3] at u3; omega) rfl ?_
  refine mj_aldn dX0_tellOf_81 rfl ?_
  refine mj_getr fkX0_30 dX0_tellOf_82 rfl rfl ?_
  refine mj_ildn dX0_tellOf_85 rfl ?_
  refine mj_iald dX0_tellOf_86 rfl _ (by omega) rfl (by decide) ?_
  refine mj_ret rfl dX0_tellOf_87 ?_
  exact mj_q hQ (by simp [bn_tell, s14_0, s14_1, s14_2, s14_3])
set_option maxHeartbeats 1000000 in
theorem c_badd (R : List mj_S) (x : mj_X) (n : Nat) (hn : n < 82) (hsz : x 24 7 = nI n) (d f many e t g : Int32) : mj_CV mX0_add (shX ++ R) [.ref 24, .int d, .int f, .int many, .int e, .int t, .int g] x (fun x1 => x1 = bn_add x n d f many e t g) := by
  refine mj_startV (ls := [some (.ref 24), some (.int d), some (.int f), some (.int many), some (.int e), some (.int t), some (.int g)]) (by decide) rfl rfl (fun Q hQ => ?_)
  refine mj_aldn dX0_add_0 rfl ?_
  refine mj_geti fkX0_33 dX0_add_1 rfl rfl ?_
  refine mj_if_lt (tgt := 16) dX0_add_4 rfl (fun h_4 => False.elim (by rw [hsz] at h_4; exact nI_pos (by omega) h_4)) (fun h_4 => ?_)
  refine mj_aldn dX0_add_7 rfl ?_
  refine mj_geti fkX0_33 dX0_add_8 rfl rfl ?_
  refine mj_bipush dX0_add_11 nb_82 ?_
  refine mj_ic_lt (tgt := 17) dX0_add_13 rfl (fun h_13 => ?_) (fun h_13 => False.elim (by rw [hsz] at h_13; exact h_13 (nI_lt hn (by decide))))
  refine mj_aldn dX0_add_17 rfl ?_
  refine mj_getr fkX0_11 dX0_add_18 rfl rfl ?_
  refine mj_aldn dX0_add_21 rfl ?_
  refine mj_geti fkX0_33 dX0_add_22 rfl rfl ?_
  refine mj_ildn dX0_add_25 rfl ?_
  refine mj_iast dX0_add_26 rfl n hn hsz (by decide) ?_
  refine mj_aldn dX0_add_27 rfl ?_
  refine mj_getr fkX0_15 dX0_add_28 rfl rfl ?_
  refine mj_aldn dX0_add_31 rfl ?_
  refine mj_geti fkX0_33 dX0_add_32 rfl rfl ?_
  refine mj_ildn dX0_add_35 rfl ?_
  refine mj_iast dX0_add_36 rfl n hn hsz (by decide) ?_
  refine mj_aldn dX0_add_37 rfl ?_
  refine mj_getr fkX0_18 dX0_add_38 rfl rfl ?_
  refine mj_aldn dX0_add_41 rfl ?_
  refine mj_geti fkX0_33 dX0_add_42 rfl rfl ?_
  refine mj_ildn dX0_add_45 rfl ?_
  refine mj_ildn dX0_add_46 rfl ?_
  refine mj_iadd dX0_add_47 ?_
  refine mj_iconst dX0_add_48 ni_1 ?_
  refine mj_isub dX0_add_49 ?_
  refine mj_iast dX0_add_50 rfl n hn hsz (by decide) ?_
  refine mj_aldn dX0_add_51 rfl ?_
  refine mj_getr fkX0_21 dX0_add_52 rfl rfl ?_
  refine mj_aldn dX0_add_55 rfl ?_
  refine mj_geti fkX0_33 dX0_add_56 rfl rfl ?_
  refine mj_ild dX0_add_59 rfl ?_
  refine mj_iast dX0_add_61 rfl n hn hsz (by decide) ?_
  refine mj_aldn dX0_add_62 rfl ?_
  refine mj_getr fkX0_24 dX0_add_63 rfl rfl ?_
  refine mj_aldn dX0_add_66 rfl ?_
  refine mj_geti fkX0_33 dX0_add_67 rfl rfl ?_
  refine mj_ild dX0_add_70 rfl ?_
  refine mj_iast dX0_add_72 rfl n hn hsz (by decide) ?_
  refine mj_aldn dX0_add_73 rfl ?_
  refine mj_getr fkX0_27 dX0_add_74 rfl rfl ?_
  refine mj_aldn dX0_add_77 rfl ?_
  refine mj_geti fkX0_33 dX0_add_78 rfl rfl ?_
  refine mj_ild dX0_add_81 rfl ?_
  refine mj_iast dX0_add_83 rfl n hn hsz (by decide) ?_
  refine mj_aldn dX0_add_84 rfl ?_
  refine mj_getr fkX0_30 dX0_add_85 rfl rfl ?_
  refine mj_aldn dX0_add_88 rfl ?_
  refine mj_geti fkX0_33 dX0_add_89 rfl rfl ?_
  refine mj_iconst dX0_add_92 ni_0 ?_
  refine mj_iast dX0_add_93 rfl n hn hsz (by decide) ?_
  refine mj_aldn dX0_add_94 rfl ?_
  refine mj_dupr dX0_add_95 ?_
  refine mj_geti fkX0_33 dX0_add_96 rfl rfl ?_
  refine mj_iconst dX0_add_99 ni_1 ?_
  refine mj_iadd dX0_add_100 ?_
  refine mj_puti fkX0_33 pkX0_7 dX0_add_101 rfl rfl ?_
  refine mj_retv rfl dX0_add_104 ?_
  exact hQ _ (by unfold bn_add; rw [← nI_1, ← hsz]; rfl)
set_option maxHeartbeats 1000000 in
theorem c_short (R : List mj_S) (x : mj_X) (j : Nat) (hj : j < 82) (t : Int32) : mj_CV mX0_shorten (shX ++ R) [.ref 24, .int (nI j), .int t] x (fun x1 => x1 = bn_short x j t) := by
  refine mj_startV (ls := [some (.ref 24), some (.int (nI j)), some (.int t), none]) (by decide) rfl rfl (fun Q hQ => ?_)
  refine mj_ildn dX0_shorten_0 rfl ?_
  refine mj_if_lt (tgt := 53) dX0_shorten_1 rfl (fun h_1 => False.elim (by exact nI_pos (by omega) h_1)) (fun h_1 => ?_)
  refine mj_ildn dX0_shorten_4 rfl ?_
  refine mj_bipush dX0_shorten_5 nb_82 ?_
  refine mj_ic_ge (tgt := 53) dX0_shorten_7 rfl (fun h_7 => False.elim (by exact nl_lt hj (by decide) h_7)) (fun h_7 => ?_)
  refine mj_aldn dX0_shorten_10 rfl ?_
  refine mj_getr fkX0_18 dX0_shorten_11 rfl rfl ?_
  refine mj_ildn dX0_shorten_14 rfl ?_
  refine mj_iald dX0_shorten_15 rfl _ (by omega) rfl (by decide) ?_
  refine mj_aldn dX0_shorten_16 rfl ?_
  refine mj_getr fkX0_15 dX0_shorten_17 rfl rfl ?_
  refine mj_ildn dX0_shorten_20 rfl ?_
  refine mj_iald dX0_shorten_21 rfl _ (by omega) rfl (by decide) ?_
  refine mj_isub dX0_shorten_22 ?_
  refine mj_iconst dX0_shorten_23 ni_1 ?_
  refine mj_iadd dX0_shorten_24 ?_
  refine mj_istn3 dX0_shorten_25 rfl ?_
  refine mj_aldn dX0_shorten_26 rfl ?_
  refine mj_getr fkX0_18 dX0_shorten_27 rfl rfl ?_
  refine mj_ildn dX0_shorten_30 rfl ?_
  refine mj_aldn dX0_shorten_31 rfl ?_
  refine mj_getr fkX0_18 dX0_shorten_32 rfl rfl ?_
  refine mj_ildn dX0_shorten_35 rfl ?_
  refine mj_iald dX0_shorten_36 rfl _ (by omega) rfl (by decide) ?_
  refine mj_ildn dX0_shorten_37 rfl ?_
  refine mj_iconst dX0_shorten_38 ni_4 ?_
  refine mj_idiv dX0_shorten_39 (by decide) ?_
  refine mj_isub dX0_shorten_40 ?_
  refine mj_ildn dX0_shorten_41 rfl ?_
  refine mj_mx lkX0_45 (Nat.le_of_ble_eq_true rfl) (Nat.le_of_ble_eq_true rfl) (Nat.le_of_ble_eq_true rfl) dX0_shorten_42 ?_
  refine mj_iast dX0_shorten_45 rfl _ (by omega) rfl (by decide) ?_
  refine mj_aldn dX0_shorten_46 rfl ?_
  refine mj_getr fkX0_30 dX0_shorten_47 rfl rfl ?_
  refine mj_ildn dX0_shorten_50 rfl ?_
  refine mj_iconst dX0_shorten_51 ni_1 ?_
  refine mj_iast dX0_shorten_52 rfl _ (by omega) rfl (by decide) ?_
  refine mj_retv rfl dX0_shorten_53 ?_
  exact hQ _ rfl
set_option maxHeartbeats 1000000 in
theorem c_free (R : List mj_S) (x : mj_X) (n : Nat) (hn : n ≤ 82) (hsz : x 24 7 = nI n) (d day : Int32) : mj_CP mX0_firstFree (shX ++ R) [.ref 24, .int d, .int day] x (bn_free x n d 83 day) := by
  refine mj_startP (ls := [some (.ref 24), some (.int d), some (.int day), none, none, none]) (by decide) rfl rfl (fun Q hQ => ?_)
  have loop : ∀ (k j : Nat) (a : Int32) (w : Option Value), j + k = 83 → bn_free x n d k a = bn_free x n d 83 day → mj_V mX0_firstFree (shX ++ R) Q x 5 [some (.ref 24), some (.int d), some (.int day), some (.int a), some (.int (nI j)), w] [] := by
    intro k
    induction k with
    | zero =>
      intro j a w h1 h2
      have hj : j = 83 := by omega
      subst hj
      refine mj_ild dX0_firstFree_5 rfl ?_
      refine mj_bipush dX0_firstFree_7 nb_82 ?_
      refine mj_ic_gt (tgt := 37) dX0_firstFree_9 rfl (fun h_9 => ?_) (fun h_9 => False.elim (by exact h_9 (by decide)))
      refine mj_ildn dX0_firstFree_37 rfl ?_
      refine mj_ret rfl dX0_firstFree_38 ?_
      exact mj_q hQ h2
    | succ k ih =>
      intro j a w h1 h2
      refine mj_ild dX0_firstFree_5 rfl ?_
      refine mj_bipush dX0_firstFree_7 nb_82 ?_
      refine mj_ic_gt (tgt := 37) dX0_firstFree_9 rfl (fun h_9 => False.elim (by exact absurd h_9 (nI_nlt (a := 82) (b := j) (by omega) (by omega)))) (fun h_9 => ?_)
      refine mj_aldn dX0_firstFree_12 rfl ?_
      refine mj_ildn dX0_firstFree_13 rfl ?_
      refine mj_ildn dX0_firstFree_14 rfl ?_
      refine mj_cvp (K := mX0_dayBehindBansOn) (c_beh R x n hn hsz d a) ckX0_dayBehindBansOn lkX0_41 ⟨Nat.le_of_ble_eq_true rfl, Nat.le_of_ble_eq_true rfl⟩ rfl dX0_firstFree_15 rfl rfl (Nat.le_of_ble_eq_true rfl) ?_
      refine mj_ist5 dX0_firstFree_18 rfl ?_
      refine mj_ild dX0_firstFree_20 rfl ?_
      refine mj_ildn dX0_firstFree_22 rfl ?_
      refine mj_ic_ne (tgt := 28) dX0_firstFree_23 rfl (fun h_23 => ?_) (fun h_23 => ?_)
      · refine mj_ild dX0_firstFree_28 rfl ?_
        refine mj_istn3 dX0_firstFree_30 rfl ?_
        refine mj_inc4 dX0_firstFree_31 ni_1 rfl ?_
        refine mj_goto (tgt := 5) dX0_firstFree_34 rfl ?_
        exact mj_ls (ih (j + 1) (bn_beh x n d a) _ (by omega) (by rw [← h2, bn_free, if_neg h_23])) (by rw [nI_1])
      · refine mj_ildn dX0_firstFree_26 rfl ?_
        refine mj_ret rfl dX0_firstFree_27 ?_
        exact mj_q hQ (by rw [← h2, bn_free, if_pos h_23])
  refine mj_ildn dX0_firstFree_0 rfl ?_
  refine mj_istn3 dX0_firstFree_1 rfl ?_
  refine mj_iconst dX0_firstFree_2 ni_0 ?_
  refine mj_ist4 dX0_firstFree_3 rfl ?_
  exact loop 83 0 day _ (by omega) rfl
set_option maxHeartbeats 1000000 in
theorem c_days (R : List mj_S) (x : mj_X) (n : Nat) (hn : n ≤ 82) (hsz : x 24 7 = nI n) (d fr to : Int32) : mj_CP mX0_daysBetween (shX ++ R) [.ref 24, .int d, .int fr, .int to] x (bn_days x n d to 84 0 fr) := by
  refine mj_startP (ls := [some (.ref 24), some (.int d), some (.int fr), some (.int to), none, none, none, none]) (by decide) rfl rfl (fun Q hQ => ?_)
  have loop : ∀ (k j : Nat) (tot a : Int32) (w : Option Value), j + k = 84 → bn_days x n d to k tot a = bn_days x n d to 84 0 fr → mj_V mX0_daysBetween (shX ++ R) Q x 9 [some (.ref 24), some (.int d), some (.int fr), some (.int to), some (.int tot), some (.int a), some (.int (nI j)), w] [] := by
    intro k
    induction k with
    | zero =>
      intro j tot a w h1 h2
      have hj : j = 84 := by omega
      subst hj
      refine mj_ild dX0_daysBetween_9 rfl ?_
      refine mj_bipush dX0_daysBetween_11 nb_83 ?_
      refine mj_ic_gt (tgt := 65) dX0_daysBetween_13 rfl (fun h_13 => ?_) (fun h_13 => False.elim (by exact h_13 (by decide)))
      refine mj_ild dX0_daysBetween_65 rfl ?_
      refine mj_ret rfl dX0_daysBetween_67 ?_
      exact mj_q hQ h2
    | succ k ih =>
      intro j tot a w h1 h2
      refine mj_ild dX0_daysBetween_9 rfl ?_
      refine mj_bipush dX0_daysBetween_11 nb_83 ?_
      refine mj_ic_gt (tgt := 65) dX0_daysBetween_13 rfl (fun h_13 => False.elim (by exact absurd h_13 (nI_nlt (a := 83) (b := j) (by omega) (by omega)))) (fun h_13 => ?_)
      refine mj_ild dX0_daysBetween_16 rfl ?_
      refine mj_ildn dX0_daysBetween_18 rfl ?_
      refine mj_ic_gt (tgt := 65) dX0_daysBetween_19 rfl (fun h_19 => ?_) (fun h_19 => ?_)
      · refine mj_ild dX0_daysBetween_65 rfl ?_
        refine mj_ret rfl dX0_daysBetween_67 ?_
        exact mj_q hQ (by rw [← h2, bn_days, if_pos h_19])
      · refine mj_aldn dX0_daysBetween_22 rfl ?_
        refine mj_ildn dX0_daysBetween_23 rfl ?_
        refine mj_ild dX0_daysBetween_24 rfl ?_
        refine mj_cvp (K := mX0_firstFree) (c_free R x n hn hsz d a) ckX0_firstFree lkX0_50 ⟨Nat.le_of_ble_eq_true rfl, Nat.le_of_ble_eq_true rfl⟩ rfl dX0_daysBetween_26 rfl rfl (Nat.le_of_ble_eq_true rfl) ?_
        refine mj_ist7 dX0_daysBetween_29 rfl ?_
        refine mj_ild dX0_daysBetween_31 rfl ?_
        refine mj_ild dX0_daysBetween_33 rfl ?_
        refine mj_ildn dX0_daysBetween_35 rfl ?_
        refine mj_iconst dX0_daysBetween_36 ni_1 ?_
        refine mj_iadd dX0_daysBetween_37 ?_
        refine mj_mn lkX0_53 (Nat.le_of_ble_eq_true rfl) (Nat.le_of_ble_eq_true rfl) (Nat.le_of_ble_eq_true rfl) dX0_daysBetween_38 ?_
        refine mj_ild dX0_daysBetween_41 rfl ?_
        refine mj_isub dX0_daysBetween_43 ?_
        refine mj_iadd dX0_daysBetween_44 ?_
        refine mj_ist4 dX0_daysBetween_45 rfl ?_
        refine mj_aldn dX0_daysBetween_47 rfl ?_
        refine mj_ildn dX0_daysBetween_48 rfl ?_
        refine mj_ild dX0_daysBetween_49 rfl ?_
        refine mj_ildn dX0_daysBetween_51 rfl ?_
        refine mj_iconst dX0_daysBetween_52 ni_1 ?_
        refine mj_iadd dX0_daysBetween_53 ?_
        refine mj_cvp (K := mX0_nextFirstDay) (c_next R x n hn hsz d (bn_free x n d 83 a) (to + 1)) ckX0_nextFirstDay lkX0_56 ⟨Nat.le_of_ble_eq_true rfl, Nat.le_of_ble_eq_true rfl⟩ rfl dX0_daysBetween_54 rfl rfl (Nat.le_of_ble_eq_true rfl) ?_
        refine mj_ist5 dX0_daysBetween_57 rfl ?_
        refine mj_inc6 dX0_daysBetween_59 ni_1 rfl ?_
        refine mj_goto (tgt := 9) dX0_daysBetween_62 rfl ?_
        exact mj_ls (ih (j + 1) _ _ _ (by omega) (by rw [← h2, bn_days, if_neg h_19])) (by rw [nI_1])
  refine mj_iconst dX0_daysBetween_0 ni_0 ?_
  refine mj_ist4 dX0_daysBetween_1 rfl ?_
  refine mj_ildn dX0_daysBetween_3 rfl ?_
  refine mj_ist5 dX0_daysBetween_4 rfl ?_
  refine mj_iconst dX0_daysBetween_6 ni_0 ?_
  refine mj_ist6 dX0_daysBetween_7 rfl ?_
  exact loop 84 0 0 fr _ (by omega) rfl
end
section
/-! RULES: object c, rows c + 1 numbers, c + 2 codePoints, c + 3 codeBans, codes at 3 -/
theorem ix_of {a : Int32} {n : Nat} (hn : n < 2 ^ 31) (h0 : 0 ≤ a) (h1 : a < nI n) : ∃ j, j < n ∧ a = nI j := by
  obtain ⟨j, hj, rfl⟩ := nI_of (x := a) (by grind)
  exact ⟨j, (nI_ltI hj hn).mp h1, rfl⟩
def ru_sh (sh : List mj_S) (c : Nat) : Prop := sh[c]? = some (.inl (5, [some (c + 1), some (c + 2), some (c + 3), none])) ∧ sh[c + 1]? = some (.inr 6) ∧ sh[c + 2]? = some (.inr 6) ∧ sh[c + 3]? = some (.inr 6)
theorem ru_sh3 (R : List mj_S) : ru_sh (shX ++ R) 3 := ⟨rfl, rfl, rfl, rfl⟩
theorem ru_sh7 (R : List mj_S) : ru_sh (shX ++ R) 7 := ⟨rfl, rfl, rfl, rfl⟩
def ru_is (a : Int32) : Bool := decide (0 ≤ a ∧ a < 6)
def ru_ok (a v : Int32) : Bool := decide (0 ≤ a ∧ a < 6 ∧ mj_st0 a.toNatClampNeg ≤ v ∧ v ≤ mj_st1 a.toNatClampNeg)
def ru_hc (k : Nat) (a : Int32) : Bool := decide (0 ≤ a ∧ a < nI k)
set_option maxHeartbeats 1000000 in
theorem c_isRule (sh : List mj_S) (x : mj_X) (a : Int32) : mj_CP mX5_isRule sh [.int a] x (bi (ru_is a)) := by
  refine mj_startP (ls := [some (.int a)]) (by decide) rfl rfl (fun Q hQ => ?_)
  refine mj_ildn dX5_isRule_0 rfl ?_
  refine mj_if_lt (tgt := 14) dX5_isRule_1 rfl (fun h_1 => ?_) (fun h_1 => ?_)
  · refine mj_iconst dX5_isRule_14 ni_0 ?_
    refine mj_retz rfl (by decide) dX5_isRule_15 ?_
    exact mj_q hQ (by unfold ru_is bi; simp; grind)
  · refine mj_ildn dX5_isRule_4 rfl ?_
    refine mj_bipush dX5_isRule_5 nb_6 ?_
    refine mj_ic_ge (tgt := 14) dX5_isRule_7 rfl (fun h_7 => ?_) (fun h_7 => ?_)
    · refine mj_iconst dX5_isRule_14 ni_0 ?_
      refine mj_retz rfl (by decide) dX5_isRule_15 ?_
      exact mj_q hQ (by unfold ru_is bi; simp; grind)
    · refine mj_iconst dX5_isRule_10 ni_1 ?_
      refine mj_goto (tgt := 15) dX5_isRule_11 rfl ?_
      refine mj_retz rfl (by decide) dX5_isRule_15 ?_
      exact mj_q hQ (by unfold ru_is bi; simp; grind)
set_option maxHeartbeats 1000000 in
theorem c_allows (sh : List mj_S) (c : Nat) (hs : ru_sh sh c) (x : mj_X) (a v : Int32) : mj_CP mX5_allows sh [.ref c, .int a, .int v] x (bi (ru_ok a v)) := by
  refine mj_startP (ls := [some (.ref c), some (.int a), some (.int v)]) (by decide) rfl rfl (fun Q hQ => ?_)
  refine mj_ildn dX5_allows_0 rfl ?_
  refine mj_csp (K := mX5_isRule) (c_isRule sh x a) ckX5_isRule lkX5_28 ⟨Nat.le_of_ble_eq_true rfl, Nat.le_of_ble_eq_true rfl⟩ rfl dX5_allows_1 (Nat.le_of_ble_eq_true rfl) ?_
  refine mj_if_eq (tgt := 29) dX5_allows_4 rfl (fun h_4 => ?_) (fun h_4 => ?_)
  · rw [bi_z] at h_4; simp only [ru_is, decide_eq_false_iff_not] at h_4
    refine mj_iconst dX5_allows_29 ni_0 ?_
    refine mj_retz rfl (by decide) dX5_allows_30 ?_
    exact mj_q hQ (by unfold ru_ok bi; simp; grind)
  · rw [bi_nz] at h_4; simp only [ru_is, decide_eq_true_eq] at h_4
    obtain ⟨j, hj, rfl⟩ := ix_of (n := 6) (by decide) h_4.1 h_4.2
    have ec := nI_clamp (n := j) (by omega)
    refine mj_ildn dX5_allows_7 rfl ?_
    refine mj_sta (c0 := 100) skX5_32 (by simp) dX5_allows_8 ?_
    refine mj_ildn dX5_allows_11 rfl ?_
    refine mj_stald (f := mj_st0) (by simp) dX5_allows_12 j hj rfl ?_
    refine mj_ic_lt (tgt := 29) dX5_allows_13 rfl (fun h_13 => ?_) (fun h_13 => ?_)
    · refine mj_iconst dX5_allows_29 ni_0 ?_
      refine mj_retz rfl (by decide) dX5_allows_30 ?_
      exact mj_q hQ (by unfold ru_ok bi; simp; grind)
    · refine mj_ildn dX5_allows_16 rfl ?_
      refine mj_sta (c0 := 101) skX5_35 (by simp) dX5_allows_17 ?_
      refine mj_ildn dX5_allows_20 rfl ?_
      refine mj_stald (f := mj_st1) (by simp) dX5_allows_21 j hj rfl ?_
      refine mj_ic_gt (tgt := 29) dX5_allows_22 rfl (fun h_22 => ?_) (fun h_22 => ?_)
      · refine mj_iconst dX5_allows_29 ni_0 ?_
        refine mj_retz rfl (by decide) dX5_allows_30 ?_
        exact mj_q hQ (by unfold ru_ok bi; simp; grind)
      · refine mj_iconst dX5_allows_25 ni_1 ?_
        refine mj_goto (tgt := 30) dX5_allows_26 rfl ?_
        refine mj_retz rfl (by decide) dX5_allows_30 ?_
        exact mj_q hQ (by unfold ru_ok bi; simp; grind)
set_option maxHeartbeats 1000000 in
theorem c_get (sh : List mj_S) (c : Nat) (hs : ru_sh sh c) (x : mj_X) (j : Nat) (hj : j < 6) : mj_CP mX5_get sh [.ref c, .int (nI j)] x (x (c + 1) j) := by
  refine mj_startP (ls := [some (.ref c), some (.int (nI j))]) (by decide) rfl rfl (fun Q hQ => ?_)
  refine mj_ildn dX5_get_0 rfl ?_
  refine mj_csp (K := mX5_isRule) (c_isRule sh x (nI j)) ckX5_isRule lkX5_28 ⟨Nat.le_of_ble_eq_true rfl, Nat.le_of_ble_eq_true rfl⟩ rfl dX5_get_1 (Nat.le_of_ble_eq_true rfl) ?_
  refine mj_if_eq (tgt := 16) dX5_get_4 rfl (fun h_4 => False.elim (by rw [bi_z] at h_4; simp only [ru_is, decide_eq_false_iff_not] at h_4; exact h_4 ⟨nI_pos' (by omega), nI_lt hj (by decide)⟩)) (fun h_4 => ?_)
  refine mj_aldn dX5_get_7 rfl ?_
  refine mj_getr fkX5_9 dX5_get_8 hs.1 rfl ?_
  refine mj_ildn dX5_get_11 rfl ?_
  refine mj_iald dX5_get_12 hs.2.1 j hj rfl (by decide) ?_
  refine mj_goto (tgt := 17) dX5_get_13 rfl ?_
  refine mj_ret rfl dX5_get_17 ?_
  exact hQ
set_option maxHeartbeats 1000000 in
theorem c_put (sh : List mj_S) (c : Nat) (hs : ru_sh sh c) (x : mj_X) (j : Nat) (hj : j < 6) (v : Int32) : mj_CV mX5_put sh [.ref c, .int (nI j), .int v] x (fun x1 => x1 = mj_up x (c + 1) j v) := by
  refine mj_startV (ls := [some (.ref c), some (.int (nI j)), some (.int v)]) (by decide) rfl rfl (fun Q hQ => ?_)
  refine mj_ildn dX5_put_0 rfl ?_
  refine mj_csp (K := mX5_isRule) (c_isRule sh x (nI j)) ckX5_isRule lkX5_28 ⟨Nat.le_of_ble_eq_true rfl, Nat.le_of_ble_eq_true rfl⟩ rfl dX5_put_1 (Nat.le_of_ble_eq_true rfl) ?_
  refine mj_if_eq (tgt := 14) dX5_put_4 rfl (fun h_4 => False.elim (by rw [bi_z] at h_4; simp only [ru_is, decide_eq_false_iff_not] at h_4; exact h_4 ⟨nI_pos' (by omega), nI_lt hj (by decide)⟩)) (fun h_4 => ?_)
  refine mj_aldn dX5_put_7 rfl ?_
  refine mj_getr fkX5_9 dX5_put_8 hs.1 rfl ?_
  refine mj_ildn dX5_put_11 rfl ?_
  refine mj_ildn dX5_put_12 rfl ?_
  refine mj_iast dX5_put_13 hs.2.1 j hj rfl (by decide) ?_
  refine mj_retv rfl dX5_put_14 ?_
  exact hQ _ rfl
set_option maxHeartbeats 1000000 in
theorem c_hasCode (sh : List mj_S) (c : Nat) (hs : ru_sh sh c) (x : mj_X) (k : Nat) (hk : k ≤ 6) (hsz : x c 3 = nI k) (a : Int32) : mj_CP mX5_hasCode sh [.ref c, .int a] x (bi (ru_hc k a)) := by
  refine mj_startP (ls := [some (.ref c), some (.int a)]) (by decide) rfl rfl (fun Q hQ => ?_)
  refine mj_ildn dX5_hasCode_0 rfl ?_
  refine mj_if_lt (tgt := 22) dX5_hasCode_1 rfl (fun h_1 => ?_) (fun h_1 => ?_)
  · refine mj_iconst dX5_hasCode_22 ni_0 ?_
    refine mj_retz rfl (by decide) dX5_hasCode_23 ?_
    exact mj_q hQ (by unfold ru_hc bi; simp; grind)
  · refine mj_ildn dX5_hasCode_4 rfl ?_
    refine mj_aldn dX5_hasCode_5 rfl ?_
    refine mj_geti fkX5_24 dX5_hasCode_6 hs.1 rfl ?_
    refine mj_ic_ge (tgt := 22) dX5_hasCode_9 rfl (fun h_9 => ?_) (fun h_9 => ?_)
    · rw [hsz] at h_9
      refine mj_iconst dX5_hasCode_22 ni_0 ?_
      refine mj_retz rfl (by decide) dX5_hasCode_23 ?_
      exact mj_q hQ (by unfold ru_hc bi; simp; grind)
    · rw [hsz] at h_9
      obtain ⟨j, hj, rfl⟩ := ix_of (n := k) (a := a) (by omega) (by grind) (by grind)
      refine mj_ildn dX5_hasCode_12 rfl ?_
      refine mj_bipush dX5_hasCode_13 nb_6 ?_
      refine mj_ic_ge (tgt := 22) dX5_hasCode_15 rfl (fun h_15 => False.elim (by exact nl_lt (show j < 6 by omega) (by decide) h_15)) (fun h_15 => ?_)
      refine mj_iconst dX5_hasCode_18 ni_1 ?_
      refine mj_goto (tgt := 23) dX5_hasCode_19 rfl ?_
      refine mj_retz rfl (by decide) dX5_hasCode_23 ?_
      exact mj_q hQ (by unfold ru_hc bi; simp; grind)
set_option maxHeartbeats 1000000 in
theorem c_pts (sh : List mj_S) (c : Nat) (hs : ru_sh sh c) (x : mj_X) (k : Nat) (hk : k ≤ 6) (hsz : x c 3 = nI k) (j : Nat) (hj : j < k) : mj_CP mX5_pointsOf sh [.ref c, .int (nI j)] x (x (c + 2) j) := by
  refine mj_startP (ls := [some (.ref c), some (.int (nI j))]) (by decide) rfl rfl (fun Q hQ => ?_)
  refine mj_aldn dX5_pointsOf_0 rfl ?_
  refine mj_ildn dX5_pointsOf_1 rfl ?_
  refine mj_cvp (K := mX5_hasCode) (c_hasCode sh c hs x k hk hsz (nI j)) ckX5_hasCode lkX5_38 ⟨Nat.le_of_ble_eq_true rfl, Nat.le_of_ble_eq_true rfl⟩ rfl dX5_pointsOf_2 hs.1 rfl (Nat.le_of_ble_eq_true rfl) ?_
  refine mj_if_eq (tgt := 17) dX5_pointsOf_5 rfl (fun h_5 => False.elim (by rw [bi_z] at h_5; simp only [ru_hc, decide_eq_false_iff_not] at h_5; exact h_5 ⟨nI_pos' (by omega), nI_lt hj (by omega)⟩)) (fun h_5 => ?_)
  refine mj_aldn dX5_pointsOf_8 rfl ?_
  refine mj_getr fkX5_15 dX5_pointsOf_9 hs.1 rfl ?_
  refine mj_ildn dX5_pointsOf_12 rfl ?_
  refine mj_iald dX5_pointsOf_13 hs.2.2.1 j (by omega) rfl (by decide) ?_
  refine mj_goto (tgt := 18) dX5_pointsOf_14 rfl ?_
  refine mj_ret rfl dX5_pointsOf_18 ?_
  exact hQ
set_option maxHeartbeats 1000000 in
theorem c_own (sh : List mj_S) (c : Nat) (hs : ru_sh sh c) (x : mj_X) (k : Nat) (hk : k ≤ 6) (hsz : x c 3 = nI k) (j : Nat) (hj : j < k) : mj_CP mX5_ownBanOf sh [.ref c, .int (nI j)] x (x (c + 3) j) := by
  refine mj_startP (ls := [some (.ref c), some (.int (nI j))]) (by decide) rfl rfl (fun Q hQ => ?_)
  refine mj_aldn dX5_ownBanOf_0 rfl ?_
  refine mj_ildn dX5_ownBanOf_1 rfl ?_
  refine mj_cvp (K := mX5_hasCode) (c_hasCode sh c hs x k hk hsz (nI j)) ckX5_hasCode lkX5_38 ⟨Nat.le_of_ble_eq_true rfl, Nat.le_of_ble_eq_true rfl⟩ rfl dX5_ownBanOf_2 hs.1 rfl (Nat.le_of_ble_eq_true rfl) ?_
  refine mj_if_eq (tgt := 17) dX5_ownBanOf_5 rfl (fun h_5 => False.elim (by rw [bi_z] at h_5; simp only [ru_hc, decide_eq_false_iff_not] at h_5; exact h_5 ⟨nI_pos' (by omega), nI_lt hj (by omega)⟩)) (fun h_5 => ?_)
  refine mj_aldn dX5_ownBanOf_8 rfl ?_
  refine mj_getr fkX5_18 dX5_ownBanOf_9 hs.1 rfl ?_
  refine mj_ildn dX5_ownBanOf_12 rfl ?_
  refine mj_iald dX5_ownBanOf_13 hs.2.2.2 j (by omega) rfl (by decide) ?_
  refine mj_goto (tgt := 18) dX5_ownBanOf_14 rfl ?_
  refine mj_ret rfl dX5_ownBanOf_18 ?_
  exact hQ
set_option maxHeartbeats 1000000 in
theorem c_addCode (sh : List mj_S) (c : Nat) (hs : ru_sh sh c) (x : mj_X) (k : Nat) (hk : k < 6) (hsz : x c 3 = nI k) (p b : Int32) : mj_CV mX5_addCode sh [.ref c, .int p, .int b] x (fun x1 => x1 = mj_up (mj_up (mj_up x (c + 2) k p) (c + 3) k b) c 3 (nI (k + 1))) := by
  have e1 : ∀ v, mj_up x (c + 2) k v c 3 = nI k := fun v => by rw [up_ne (by omega)]; exact hsz
  have e2 : ∀ v w, mj_up (mj_up x (c + 2) k v) (c + 3) k w c 3 = nI k := fun v w => by rw [up_ne (by omega), up_ne (by omega)]; exact hsz
  refine mj_startV (ls := [some (.ref c), some (.int p), some (.int b)]) (by decide) rfl rfl (fun Q hQ => ?_)
  refine mj_aldn dX5_addCode_0 rfl ?_
  refine mj_geti fkX5_24 dX5_addCode_1 hs.1 rfl ?_
  refine mj_if_lt (tgt := 46) dX5_addCode_4 rfl (fun h_4 => False.elim (by rw [hsz] at h_4; exact nI_pos (by omega) h_4)) (fun h_4 => ?_)
  refine mj_aldn dX5_addCode_7 rfl ?_
  refine mj_geti fkX5_24 dX5_addCode_8 hs.1 rfl ?_
  refine mj_bipush dX5_addCode_11 nb_6 ?_
  refine mj_ic_ge (tgt := 46) dX5_addCode_13 rfl (fun h_13 => False.elim (by rw [hsz] at h_13; exact nl_lt hk (by decide) h_13)) (fun h_13 => ?_)
  refine mj_aldn dX5_addCode_16 rfl ?_
  refine mj_getr fkX5_15 dX5_addCode_17 hs.1 rfl ?_
  refine mj_aldn dX5_addCode_20 rfl ?_
  refine mj_geti fkX5_24 dX5_addCode_21 hs.1 rfl ?_
  refine mj_ildn dX5_addCode_24 rfl ?_
  refine mj_iast dX5_addCode_25 hs.2.2.1 k hk hsz (by decide) ?_
  refine mj_aldn dX5_addCode_26 rfl ?_
  refine mj_getr fkX5_18 dX5_addCode_27 hs.1 rfl ?_
  refine mj_aldn dX5_addCode_30 rfl ?_
  refine mj_geti fkX5_24 dX5_addCode_31 hs.1 rfl ?_
  refine mj_ildn dX5_addCode_34 rfl ?_
  refine mj_iast dX5_addCode_35 hs.2.2.2 k hk (e1 p) (by decide) ?_
  refine mj_aldn dX5_addCode_36 rfl ?_
  refine mj_dupr dX5_addCode_37 ?_
  refine mj_geti fkX5_24 dX5_addCode_38 hs.1 rfl ?_
  refine mj_iconst dX5_addCode_41 ni_1 ?_
  refine mj_iadd dX5_addCode_42 ?_
  refine mj_puti fkX5_24 pkX5_3 dX5_addCode_43 hs.1 rfl ?_
  refine mj_retv rfl dX5_addCode_46 ?_
  exact hQ _ (by rw [← nI_1, ← e2 p b])
def ru_re (x y : mj_X) (c j : Nat) : Prop := (∀ i, i < j → y (c + 1) i = mj_st2 i) ∧ ∀ k, k ≠ c → k ≠ c + 1 → y k = x k
set_option maxHeartbeats 1000000 in
theorem c_reset (sh : List mj_S) (c : Nat) (hs : ru_sh sh c) (x : mj_X) : mj_CV mX5_reset sh [.ref c] x (fun y => ru_re x y c 6 ∧ y c 3 = 0) := by
  refine mj_startV (ls := [some (.ref c), none]) (by decide) rfl rfl (fun Q hQ => ?_)
  have loop : ∀ (k j : Nat) (y : mj_X), j ≤ 6 → 6 < j + k → ru_re x y c j → mj_V mX5_reset sh Q y 2 [some (.ref c), some (.int (nI j))] [] := by
    intro k
    induction k with
    | zero => intro j y h1 h2; omega
    | succ k ih =>
      intro j y h1 h2 hi
      refine mj_ildn dX5_reset_2 rfl ?_
      refine mj_bipush dX5_reset_3 nb_6 ?_
      refine mj_ic_ge (tgt := 25) dX5_reset_5 rfl (fun h_5 => ?_) (fun h_5 => ?_)
      · have hj : j = 6 := by have := (nI_leI (a := 6) (b := j) (by decide) (by omega)).mp h_5; omega
        subst hj
        refine mj_aldn dX5_reset_25 rfl ?_
        refine mj_iconst dX5_reset_26 ni_0 ?_
        refine mj_puti fkX5_24 pkX5_3 dX5_reset_27 hs.1 rfl ?_
        refine mj_retv rfl dX5_reset_30 ?_
        exact hQ _ ⟨⟨fun i h => by rw [up_ne (by omega)]; exact hi.1 i h, fun k a b => by rw [up_ne a]; exact hi.2 k a b⟩, by rw [up_eq, upd_eq]⟩
      · have hj : j < 6 := by have := mt (nI_leI (a := 6) (b := j) (by decide) (by omega)).mpr h_5; omega
        refine mj_aldn dX5_reset_8 rfl ?_
        refine mj_getr fkX5_9 dX5_reset_9 hs.1 rfl ?_
        refine mj_ildn dX5_reset_12 rfl ?_
        refine mj_sta (c0 := 102) skX5_21 (by simp) dX5_reset_13 ?_
        refine mj_ildn dX5_reset_16 rfl ?_
        refine mj_stald (f := mj_st2) (by simp) dX5_reset_17 j hj rfl ?_
        refine mj_iast dX5_reset_18 hs.2.1 j hj rfl (by decide) ?_
        refine mj_inc1 dX5_reset_19 ni_1 rfl ?_
        refine mj_goto (tgt := 2) dX5_reset_22 rfl ?_
        exact mj_ls (ih (j + 1) _ (by omega) (by omega) ⟨lt_s (fun a h => by rw [up_eq, upd_ne (by omega)]; exact hi.1 a h) (by rw [up_eq, upd_eq]), fun k a b => by rw [up_ne b]; exact hi.2 k a b⟩) (by simp [nI_1])
  refine mj_iconst dX5_reset_0 ni_0 ?_
  refine mj_istn1 dX5_reset_1 rfl ?_
  exact loop 7 0 x (by omega) (by omega) ⟨fun i h => by omega, fun _ _ _ => rfl⟩
/-- Rules.copy: 3 out of 7 -/
def ru_cp (x y : mj_X) (a b c : Nat) : Prop := (∀ i, i < a → y 4 i = x 8 i) ∧ (∀ i, i < b → y 5 i = x 9 i) ∧ (∀ i, i < c → y 6 i = x 10 i) ∧ ∀ k, k ≠ 3 → k ≠ 4 → k ≠ 5 → k ≠ 6 → y k = x k
set_option maxHeartbeats 1000000 in
theorem c_copy (R : List mj_S) (x : mj_X) : mj_CV mX5_copy (shX ++ R) [.ref 3, .ref 7] x (fun y => ru_cp x y 6 6 6 ∧ y 3 3 = x 7 3) := by
  refine mj_startV (ls := [some (.ref 3), some (.ref 7), none]) (by decide) rfl rfl (fun Q hQ => ?_)
  have loop2 : ∀ (k j : Nat) (y : mj_X), j ≤ 6 → 6 < j + k → ru_cp x y 6 j j → mj_V mX5_copy (shX ++ R) Q y 28 [some (.ref 3), some (.ref 7), some (.int (nI j))] [] := by
    intro k
    induction k with
    | zero => intro j y h1 h2; omega
    | succ k ih =>
      intro j y h1 h2 hi
      refine mj_ildn dX5_copy_28 rfl ?_
      refine mj_bipush dX5_copy_29 nb_6 ?_
      refine mj_ic_ge (tgt := 64) dX5_copy_31 rfl (fun h_31 => ?_) (fun h_31 => ?_)
      · have hj : j = 6 := by have := (nI_leI (a := 6) (b := j) (by decide) (by omega)).mp h_31; omega
        subst hj
        refine mj_aldn dX5_copy_64 rfl ?_
        refine mj_aldn dX5_copy_65 rfl ?_
        refine mj_geti fkX5_24 dX5_copy_66 rfl rfl ?_
        refine mj_puti fkX5_24 pkX5_3 dX5_copy_69 rfl rfl ?_
        refine mj_retv rfl dX5_copy_72 ?_
        exact hQ _ ⟨⟨fun i h => by rw [up_ne (by decide)]; exact hi.1 i h, fun i h => by rw [up_ne (by decide)]; exact hi.2.1 i h, fun i h => by rw [up_ne (by decide)]; exact hi.2.2.1 i h, fun k a b c d => by rw [up_ne a]; exact hi.2.2.2 k a b c d⟩, by rw [up_eq, upd_eq, hi.2.2.2 7 (by decide) (by decide) (by decide) (by decide)]⟩
      · have hj : j < 6 := by have := mt (nI_leI (a := 6) (b := j) (by decide) (by omega)).mpr h_31; omega
        refine mj_aldn dX5_copy_34 rfl ?_
        refine mj_getr fkX5_15 dX5_copy_35 rfl rfl ?_
        refine mj_ildn dX5_copy_38 rfl ?_
        refine mj_aldn dX5_copy_39 rfl ?_
        refine mj_getr fkX5_15 dX5_copy_40 rfl rfl ?_
        refine mj_ildn dX5_copy_43 rfl ?_
        refine mj_iald dX5_copy_44 rfl j hj rfl (by decide) ?_
        refine mj_iast dX5_copy_45 rfl j hj rfl (by decide) ?_
        refine mj_aldn dX5_copy_46 rfl ?_
        refine mj_getr fkX5_18 dX5_copy_47 rfl rfl ?_
        refine mj_ildn dX5_copy_50 rfl ?_
        refine mj_aldn dX5_copy_51 rfl ?_
        refine mj_getr fkX5_18 dX5_copy_52 rfl rfl ?_
        refine mj_ildn dX5_copy_55 rfl ?_
        refine mj_iald dX5_copy_56 rfl j hj rfl (by decide) ?_
        refine mj_iast dX5_copy_57 rfl j hj rfl (by decide) ?_
        refine mj_inc2 dX5_copy_58 ni_1 rfl ?_
        refine mj_goto (tgt := 28) dX5_copy_61 rfl ?_
        have e9 : y 9 j = x 9 j := by rw [hi.2.2.2 9 (by decide) (by decide) (by decide) (by decide)]
        have e10 : y 10 j = x 10 j := by rw [hi.2.2.2 10 (by decide) (by decide) (by decide) (by decide)]
        refine mj_ls (ih (j + 1) _ (by omega) (by omega) ⟨fun i h => ?_, lt_s (fun i h => ?_) ?_, lt_s (fun i h => ?_) ?_, fun k a b c d => ?_⟩) (by simp [nI_1])
        · rw [up_ne (by decide), up_ne (by decide)]; exact hi.1 i h
        · rw [up_ne (by decide), up_eq, upd_ne (by omega)]; exact hi.2.1 i h
        · rw [up_ne (by decide), up_eq, upd_eq]; exact e9
        · rw [up_eq, upd_ne (by omega), up_ne (by decide)]; exact hi.2.2.1 i h
        · rw [up_eq, upd_eq, up_ne (by decide)]; exact e10
        · rw [up_ne d, up_ne c]; exact hi.2.2.2 k a b c d
  have loop : ∀ (k j : Nat) (y : mj_X), j ≤ 6 → 6 < j + k → ru_cp x y j 0 0 → mj_V mX5_copy (shX ++ R) Q y 2 [some (.ref 3), some (.ref 7), some (.int (nI j))] [] := by
    intro k
    induction k with
    | zero => intro j y h1 h2; omega
    | succ k ih =>
      intro j y h1 h2 hi
      refine mj_ildn dX5_copy_2 rfl ?_
      refine mj_bipush dX5_copy_3 nb_6 ?_
      refine mj_ic_ge (tgt := 26) dX5_copy_5 rfl (fun h_5 => ?_) (fun h_5 => ?_)
      · have hj : j = 6 := by have := (nI_leI (a := 6) (b := j) (by decide) (by omega)).mp h_5; omega
        subst hj
        refine mj_iconst dX5_copy_26 ni_0 ?_
        refine mj_istn2 dX5_copy_27 rfl ?_
        exact loop2 7 0 _ (by omega) (by omega) hi
      · have hj : j < 6 := by have := mt (nI_leI (a := 6) (b := j) (by decide) (by omega)).mpr h_5; omega
        refine mj_aldn dX5_copy_8 rfl ?_
        refine mj_getr fkX5_9 dX5_copy_9 rfl rfl ?_
        refine mj_ildn dX5_copy_12 rfl ?_
        refine mj_aldn dX5_copy_13 rfl ?_
        refine mj_getr fkX5_9 dX5_copy_14 rfl rfl ?_
        refine mj_ildn dX5_copy_17 rfl ?_
        refine mj_iald dX5_copy_18 rfl j hj rfl (by decide) ?_
        refine mj_iast dX5_copy_19 rfl j hj rfl (by decide) ?_
        refine mj_inc2 dX5_copy_20 ni_1 rfl ?_
        refine mj_goto (tgt := 2) dX5_copy_23 rfl ?_
        have e8 : y 8 j = x 8 j := by rw [hi.2.2.2 8 (by decide) (by decide) (by decide) (by decide)]
        refine mj_ls (ih (j + 1) _ (by omega) (by omega) ⟨lt_s (fun i h => ?_) ?_, fun i h => by omega, fun i h => by omega, fun k a b c d => ?_⟩) (by simp [nI_1])
        · rw [up_eq, upd_ne (by omega)]; exact hi.1 i h
        · rw [up_eq, upd_eq]; exact e8
        · rw [up_ne b]; exact hi.2.2.2 k a b c d
  refine mj_iconst dX5_copy_0 ni_0 ?_
  refine mj_istn2 dX5_copy_1 rfl ?_
  exact loop 7 0 x (by omega) (by omega) ⟨fun i h => by omega, fun i h => by omega, fun i h => by omega, fun _ _ _ _ _ => rfl⟩
/-! CHANGES: cell 33 (size 3, dropped 4 5 6), rows 34 kind, 35 where, 36 was -/
def ch_fo (x y : mj_X) (j : Nat) : Prop := (∀ i, i < j → y 34 i = x 34 (i + 1) ∧ y 35 i = x 35 (i + 1) ∧ y 36 i = x 36 (i + 1)) ∧ (∀ i, j ≤ i → y 34 i = x 34 i ∧ y 35 i = x 35 i ∧ y 36 i = x 36 i) ∧ ∀ k, k ≠ 33 → k ≠ 34 → k ≠ 35 → k ≠ 36 → y k = x k
set_option maxHeartbeats 1000000 in
theorem c_forget (R : List mj_S) (x : mj_X) : mj_CV mX1_forgetOldest (shX ++ R) [.ref 33] x (fun y => ch_fo x y 5 ∧ y 33 3 = nI 5) := by
  refine mj_startV (ls := [some (.ref 33), none]) (by decide) rfl rfl (fun Q hQ => ?_)
  have loop : ∀ (k j : Nat) (y : mj_X), j ≤ 5 → 5 < j + k → ch_fo x y j → mj_V mX1_forgetOldest (shX ++ R) Q y 2 [some (.ref 33), some (.int (nI (j + 1)))] [] := by
    intro k
    induction k with
    | zero => intro j y h1 h2; omega
    | succ k ih =>
      intro j y h1 h2 hi
      have es : nI (j + 1) - 1 = nI j := nI_pred j
      refine mj_ildn dX1_forgetOldest_2 rfl ?_
      refine mj_bipush dX1_forgetOldest_3 nb_6 ?_
      refine mj_ic_ge (tgt := 56) dX1_forgetOldest_5 rfl (fun h_5 => ?_) (fun h_5 => ?_)
      · have hj : j = 5 := by have := (nI_leI (a := 6) (b := j + 1) (by decide) (by omega)).mp h_5; omega
        subst hj
        refine mj_aldn dX1_forgetOldest_56 rfl ?_
        refine mj_iconst dX1_forgetOldest_57 ni_5 ?_
        refine mj_puti fkX1_21 pkX1_3 dX1_forgetOldest_58 rfl rfl ?_
        refine mj_retv rfl dX1_forgetOldest_61 ?_
        exact hQ _ ⟨⟨fun i h => by rw [up_ne (by decide), up_ne (by decide), up_ne (by decide)]; exact hi.1 i h, fun i h => by rw [up_ne (by decide), up_ne (by decide), up_ne (by decide)]; exact hi.2.1 i h, fun k a b c d => by rw [up_ne a]; exact hi.2.2 k a b c d⟩, by rw [up_eq, upd_eq]; rfl⟩
      · have hj : j < 5 := by have := mt (nI_leI (a := 6) (b := j + 1) (by decide) (by omega)).mpr h_5; omega
        refine mj_aldn dX1_forgetOldest_8 rfl ?_
        refine mj_getr fkX1_9 dX1_forgetOldest_9 rfl rfl ?_
        refine mj_ildn dX1_forgetOldest_12 rfl ?_
        refine mj_iconst dX1_forgetOldest_13 ni_1 ?_
        refine mj_isub dX1_forgetOldest_14 ?_
        refine mj_aldn dX1_forgetOldest_15 rfl ?_
        refine mj_getr fkX1_9 dX1_forgetOldest_16 rfl rfl ?_
        refine mj_ildn dX1_forgetOldest_19 rfl ?_
        refine mj_iald dX1_forgetOldest_20 rfl (j + 1) (by omega) rfl (by decide) ?_
        refine mj_iast dX1_forgetOldest_21 rfl j (by omega) es (by decide) ?_
        refine mj_aldn dX1_forgetOldest_22 rfl ?_
        refine mj_getr fkX1_15 dX1_forgetOldest_23 rfl rfl ?_
        refine mj_ildn dX1_forgetOldest_26 rfl ?_
        refine mj_iconst dX1_forgetOldest_27 ni_1 ?_
        refine mj_isub dX1_forgetOldest_28 ?_
        refine mj_aldn dX1_forgetOldest_29 rfl ?_
        refine mj_getr fkX1_15 dX1_forgetOldest_30 rfl rfl ?_
        refine mj_ildn dX1_forgetOldest_33 rfl ?_
        refine mj_iald dX1_forgetOldest_34 rfl (j + 1) (by omega) rfl (by decide) ?_
        refine mj_iast dX1_forgetOldest_35 rfl j (by omega) es (by decide) ?_
        refine mj_aldn dX1_forgetOldest_36 rfl ?_
        refine mj_getr fkX1_18 dX1_forgetOldest_37 rfl rfl ?_
        refine mj_ildn dX1_forgetOldest_40 rfl ?_
        refine mj_iconst dX1_forgetOldest_41 ni_1 ?_
        refine mj_isub dX1_forgetOldest_42 ?_
        refine mj_aldn dX1_forgetOldest_43 rfl ?_
        refine mj_getr fkX1_18 dX1_forgetOldest_44 rfl rfl ?_
        refine mj_ildn dX1_forgetOldest_47 rfl ?_
        refine mj_iald dX1_forgetOldest_48 rfl (j + 1) (by omega) rfl (by decide) ?_
        refine mj_iast dX1_forgetOldest_49 rfl j (by omega) es (by decide) ?_
        refine mj_inc1 dX1_forgetOldest_50 ni_1 rfl ?_
        refine mj_goto (tgt := 2) dX1_forgetOldest_53 rfl ?_
        refine mj_ls (ih (j + 1) _ (by omega) (by omega) ⟨fun i h => ?_, fun i h => ?_, fun k a b c d => ?_⟩) (by simp [nI_1])
        · by_cases e : i = j
          · subst e
            have := hi.2.1 (i + 1) (by omega)
            simp [up_at, this]
          · have := hi.1 i (by omega)
            simp [up_at, e, this]
        · have := hi.2.1 i (by omega)
          simp [up_at, this, show i ≠ j by omega]
        · rw [up_ne d, up_ne c, up_ne b]; exact hi.2.2 k a b c d
  refine mj_iconst dX1_forgetOldest_0 ni_1 ?_
  refine mj_istn1 dX1_forgetOldest_1 rfl ?_
  exact loop 6 0 x (by omega) (by omega) ⟨fun i h => by omega, fun i h => ⟨rfl, rfl, rfl⟩, fun _ _ _ _ _ => rfl⟩
/-- a change is noted: s were there; the oldest goes where there are six -/
def ch_no (x y : mj_X) (s : Nat) (a b c : Int32) : Prop :=
  y 33 3 = nI ((if s < 6 then s else 5) + 1) ∧ (∀ i, i < (if s < 6 then s else 5) → y 34 i = x 34 (i + (if s < 6 then 0 else 1)) ∧ y 35 i = x 35 (i + (if s < 6 then 0 else 1)) ∧ y 36 i = x 36 (i + (if s < 6 then 0 else 1))) ∧
  (y 34 (if s < 6 then s else 5) = a ∧ y 35 (if s < 6 then s else 5) = b ∧ y 36 (if s < 6 then s else 5) = c) ∧ ∀ k, k ≠ 33 → k ≠ 34 → k ≠ 35 → k ≠ 36 → y k = x k
set_option maxHeartbeats 1000000 in
theorem c_note (R : List mj_S) (x : mj_X) (s : Nat) (hs : s ≤ 6) (hsz : x 33 3 = nI s) (a b c : Int32) : mj_CV mX1_note (shX ++ R) [.ref 33, .int a, .int b, .int c] x (fun y => ch_no x y s a b c) := by
  refine mj_startV (ls := [some (.ref 33), some (.int a), some (.int b), some (.int c)]) (by decide) rfl rfl (fun Q hQ => ?_)
  have tail : ∀ (y : mj_X) (s9 : Nat), s9 < 6 → y 33 3 = nI s9 → (∀ z : mj_X, z 33 3 = nI (s9 + 1) ∧ (∀ i, i < s9 → z 34 i = y 34 i ∧ z 35 i = y 35 i ∧ z 36 i = y 36 i) ∧ (z 34 s9 = a ∧ z 35 s9 = b ∧ z 36 s9 = c) ∧ (∀ k, k ≠ 33 → k ≠ 34 → k ≠ 35 → k ≠ 36 → z k = y k) → Q none z) → mj_V mX1_note (shX ++ R) Q y 13 [some (.ref 33), some (.int a), some (.int b), some (.int c)] [] := by
    intro y s9 h9 hs9 hQ9
    refine mj_aldn dX1_note_13 rfl ?_
    refine mj_geti fkX1_21 dX1_note_14 rfl rfl ?_
    refine mj_if_lt (tgt := 69) dX1_note_17 rfl (fun h_17 => False.elim (by rw [hs9] at h_17; exact nI_pos (by omega) h_17)) (fun h_17 => ?_)
    refine mj_aldn dX1_note_20 rfl ?_
    refine mj_geti fkX1_21 dX1_note_21 rfl rfl ?_
    refine mj_bipush dX1_note_24 nb_6 ?_
    refine mj_ic_ge (tgt := 69) dX1_note_26 rfl (fun h_26 => False.elim (by rw [hs9] at h_26; exact nl_lt h9 (by decide) h_26)) (fun h_26 => ?_)
    refine mj_aldn dX1_note_29 rfl ?_
    refine mj_getr fkX1_9 dX1_note_30 rfl rfl ?_
    refine mj_aldn dX1_note_33 rfl ?_
    refine mj_geti fkX1_21 dX1_note_34 rfl rfl ?_
    refine mj_ildn dX1_note_37 rfl ?_
    refine mj_iast dX1_note_38 rfl s9 (by omega) hs9 (by decide) ?_
    refine mj_aldn dX1_note_39 rfl ?_
    refine mj_getr fkX1_15 dX1_note_40 rfl rfl ?_
    refine mj_aldn dX1_note_43 rfl ?_
    refine mj_geti fkX1_21 dX1_note_44 rfl rfl ?_
    refine mj_ildn dX1_note_47 rfl ?_
    refine mj_iast dX1_note_48 rfl s9 (by omega) hs9 (by decide) ?_
    refine mj_aldn dX1_note_49 rfl ?_
    refine mj_getr fkX1_18 dX1_note_50 rfl rfl ?_
    refine mj_aldn dX1_note_53 rfl ?_
    refine mj_geti fkX1_21 dX1_note_54 rfl rfl ?_
    refine mj_ildn dX1_note_57 rfl ?_
    refine mj_iast dX1_note_58 rfl s9 (by omega) hs9 (by decide) ?_
    refine mj_aldn dX1_note_59 rfl ?_
    refine mj_dupr dX1_note_60 ?_
    refine mj_geti fkX1_21 dX1_note_61 rfl rfl ?_
    refine mj_iconst dX1_note_64 ni_1 ?_
    refine mj_iadd dX1_note_65 ?_
    refine mj_puti fkX1_21 pkX1_3 dX1_note_66 rfl rfl ?_
    refine mj_retv rfl dX1_note_69 ?_
    refine hQ9 _ ⟨?_, fun i h => ?_, ?_, fun k a b c d => ?_⟩
    · rw [up_eq, upd_eq, ← nI_1]; exact congrArg (· + 1) hs9
    · simp [up_at, show i ≠ s9 by omega]
    · simp [up_at]
    · rw [up_ne a, up_ne d, up_ne c, up_ne b]
  refine mj_aldn dX1_note_0 rfl ?_
  refine mj_geti fkX1_21 dX1_note_1 rfl rfl ?_
  refine mj_bipush dX1_note_4 nb_6 ?_
  refine mj_ic_lt (tgt := 13) dX1_note_6 rfl (fun h_6 => ?_) (fun h_6 => ?_)
  · rw [hsz] at h_6
    have hlt : s < 6 := (nI_ltI (a := s) (b := 6) (by omega) (by decide)).mp h_6
    refine tail x s hlt hsz (fun z hz => hQ _ ?_)
    unfold ch_no
    simp only [hlt, if_true, Nat.add_zero]
    exact hz
  · rw [hsz] at h_6
    have hge : ¬ s < 6 := fun h => h_6 (nI_lt h (by decide))
    refine mj_aldn dX1_note_9 rfl ?_
    refine mj_cvv (K := mX1_forgetOldest) (c_forget R x) ckX1_forgetOldest lkX1_25 ⟨Nat.le_of_ble_eq_true rfl, Nat.le_of_ble_eq_true rfl⟩ rfl dX1_note_10 rfl rfl (Nat.le_of_ble_eq_true rfl) (fun x_10 q_10 => ?_)
    refine tail x_10 5 (by omega) q_10.2 (fun z hz => hQ _ ?_)
    unfold ch_no
    simp only [hge, if_false]
    refine ⟨hz.1, fun i h => ?_, hz.2.2.1, fun k a b c d => by rw [hz.2.2.2 k a b c d]; exact q_10.1.2.2 k a b c d⟩
    have h1 := hz.2.1 i h
    have h2 := q_10.1.1 i h
    exact ⟨h1.1.trans h2.1, h1.2.1.trans h2.2.1, h1.2.2.trans h2.2.2⟩
set_option maxHeartbeats 1000000 in
theorem c_chdrop0 (R : List mj_S) (x : mj_X) (hsz : x 33 3 = nI 0) : mj_CP mX1_dropLast (shX ++ R) [.ref 33] x 0 := by
  refine mj_startP (ls := [some (.ref 33)]) (by decide) rfl rfl (fun Q hQ => ?_)
  refine mj_aldn dX1_dropLast_0 rfl ?_
  refine mj_geti fkX1_21 dX1_dropLast_1 rfl rfl ?_
  refine mj_iconst dX1_dropLast_4 ni_1 ?_
  refine mj_ic_lt (tgt := 17) dX1_dropLast_5 rfl (fun h_5 => ?_) (fun h_5 => False.elim (by rw [hsz] at h_5; exact h_5 (by decide)))
  refine mj_iconst dX1_dropLast_17 ni_0 ?_
  refine mj_retz rfl (by decide) dX1_dropLast_18 ?_
  exact hQ
def ch_dr (x : mj_X) (s : Nat) : mj_X := mj_up (mj_up (mj_up (mj_up x 33 3 (nI s)) 33 4 (x 34 s)) 33 5 (x 35 s)) 33 6 (x 36 s)
set_option maxHeartbeats 1000000 in
theorem c_chdrop (R : List mj_S) (x : mj_X) (s : Nat) (hs : s < 6) (hsz : x 33 3 = nI (s + 1)) : mj_CI mX1_dropLast (shX ++ R) [.ref 33] x (fun z y => z = 1 ∧ y = ch_dr x s) := by
  have es : x 33 3 - 1 = nI s := by rw [hsz]; exact nI_pred s
  refine mj_startI (ls := [some (.ref 33)]) (by decide) rfl rfl (fun Q hQ => ?_)
  refine mj_aldn dX1_dropLast_0 rfl ?_
  refine mj_geti fkX1_21 dX1_dropLast_1 rfl rfl ?_
  refine mj_iconst dX1_dropLast_4 ni_1 ?_
  refine mj_ic_lt (tgt := 17) dX1_dropLast_5 rfl (fun h_5 => False.elim (by rw [hsz] at h_5; exact absurd h_5 (nI_nlt (a := s + 1) (b := 1) (by omega) (by omega)))) (fun h_5 => ?_)
  refine mj_aldn dX1_dropLast_8 rfl ?_
  refine mj_geti fkX1_21 dX1_dropLast_9 rfl rfl ?_
  refine mj_bipush dX1_dropLast_12 nb_6 ?_
  refine mj_ic_le (tgt := 19) dX1_dropLast_14 rfl (fun h_14 => ?_) (fun h_14 => False.elim (by rw [hsz] at h_14; exact h_14 (nI_le (a := s + 1) (b := 6) (by omega) (by decide))))
  refine mj_aldn dX1_dropLast_19 rfl ?_
  refine mj_dupr dX1_dropLast_20 ?_
  refine mj_geti fkX1_21 dX1_dropLast_21 rfl rfl ?_
  refine mj_iconst dX1_dropLast_24 ni_1 ?_
  refine mj_isub dX1_dropLast_25 ?_
  refine mj_puti fkX1_21 pkX1_3 dX1_dropLast_26 rfl rfl ?_
  refine mj_aldn dX1_dropLast_29 rfl ?_
  refine mj_aldn dX1_dropLast_30 rfl ?_
  refine mj_getr fkX1_9 dX1_dropLast_31 rfl rfl ?_
  refine mj_aldn dX1_dropLast_34 rfl ?_
  refine mj_geti fkX1_21 dX1_dropLast_35 rfl rfl ?_
  refine mj_iald dX1_dropLast_38 rfl s hs es (by decide) ?_
  refine mj_puti fkX1_28 pkX1_4 dX1_dropLast_39 rfl rfl ?_
  refine mj_aldn dX1_dropLast_42 rfl ?_
  refine mj_aldn dX1_dropLast_43 rfl ?_
  refine mj_getr fkX1_15 dX1_dropLast_44 rfl rfl ?_
  refine mj_aldn dX1_dropLast_47 rfl ?_
  refine mj_geti fkX1_21 dX1_dropLast_48 rfl rfl ?_
  refine mj_iald dX1_dropLast_51 rfl s hs es (by decide) ?_
  refine mj_puti fkX1_31 pkX1_5 dX1_dropLast_52 rfl rfl ?_
  refine mj_aldn dX1_dropLast_55 rfl ?_
  refine mj_aldn dX1_dropLast_56 rfl ?_
  refine mj_getr fkX1_18 dX1_dropLast_57 rfl rfl ?_
  refine mj_aldn dX1_dropLast_60 rfl ?_
  refine mj_geti fkX1_21 dX1_dropLast_61 rfl rfl ?_
  refine mj_iald dX1_dropLast_64 rfl s hs es (by decide) ?_
  refine mj_puti fkX1_34 pkX1_6 dX1_dropLast_65 rfl rfl ?_
  refine mj_iconst dX1_dropLast_68 ni_1 ?_
  refine mj_retz rfl (by decide) dX1_dropLast_69 ?_
  exact hQ _ _ ⟨rfl, by unfold ch_dr; rw [← es]; rfl⟩
end
section
/-! EVENTS: cell 11 (size at 12), rows 12 driver, 13 day, 14 kind, 15 offence, 16 code, 17 points, 18 special, 19 struck, 20 twice, 21 spent, 22 idle, 23 weight -/
def ev_is (n : Nat) (a : Int32) : Bool := decide (0 ≤ a ∧ a < nI n)
def ev_isC (x : mj_X) (n : Nat) (a : Int32) : Bool := decide (0 ≤ a ∧ a < nI n ∧ x 14 a.toNatClampNeg = 0)
def ev_light (x : mj_X) (d lim : Int32) (j : Nat) : Bool := decide (x 12 j = d ∧ x 14 j = 1 ∧ lim < x 13 j)
def ev_addC (x : mj_X) (n : Nat) (d t o k p r : Int32) : mj_X := mj_up (mj_up (mj_up (mj_up (mj_up (mj_up (mj_up (mj_up (mj_up x 12 n d) 13 n t) 14 n 0) 15 n o) 16 n k) 17 n p) 18 n r) 19 n 0) 11 12 (nI (n + 1))
def ev_addK (x : mj_X) (n : Nat) (d t w : Int32) : mj_X := mj_up (mj_up (mj_up (mj_up (mj_up x 12 n d) 13 n t) 14 n w) 15 n t) 11 12 (nI (n + 1))
def ev_tc (ch : Int32) : Nat := if ch = 1 then 19 else if ch = 2 then 17 else if ch = 3 then 15 else 18
def ev_tellC (x : mj_X) (j : Nat) (w : Int32) : Int32 := if w = 3 then x 15 j else if w = 4 then x 16 j else if w = 5 then x 17 j else if w = 6 then x 18 j else if w = 7 then x 19 j else if w = 8 then x 20 j else -4
def ev_tell (x : mj_X) (j : Nat) (w : Int32) : Int32 := if w = 0 then x 12 j else if w = 1 then x 13 j else if w = 2 then x 14 j else if w = 9 then x 21 j else if w = 10 then (if x 14 j = 2 then x 22 j else -4) else if x 14 j = 0 then ev_tellC x j w else -4
def ev_clear (x : mj_X) (j : Nat) : mj_X := mj_up (mj_up (mj_up (mj_up x 20 j 0) 21 j 0) 22 j 0) 23 j (if x 14 j = 1 then -3 else 0)
def ev_spend (x : mj_X) (d : Int32) (u : Nat) : mj_X := fun c => if c = 21 then (fun e => if e < u ∧ x 12 e = d then 1 else x 21 e) else if c = 23 then (fun e => if e < u ∧ x 12 e = d then 0 else x 23 e) else x c
def ev_wF (x : mj_X) (d s w : Int32) (j : Nat) (a : Int32) : Int32 := if x 12 j = d ∧ 0 ≤ x 15 j - s ∧ x 15 j - s < w then a + x 23 j else a
theorem ev_spend_0 (x : mj_X) (d : Int32) : ev_spend x d 0 = x := by
  funext c
  by_cases h1 : c = 21
  · subst h1; simp [ev_spend]
  · by_cases h2 : c = 23
    · subst h2; simp [ev_spend]
    · simp [ev_spend, h1, h2]
theorem ev_spend_yes {x : mj_X} {d : Int32} {j : Nat} (h : x 12 j = d) : mj_up (mj_up (ev_spend x d j) 21 j 1) 23 j 0 = ev_spend x d (j + 1) := by
  funext c e
  simp only [up_at, ev_spend]
  by_cases h1 : c = 21
  · subst h1
    by_cases he : e = j
    · subst he; simp [h]
    · simp [he, show (e < j + 1) = (e < j) by simp; omega]
  · by_cases h2 : c = 23
    · subst h2
      by_cases he : e = j
      · subst he; simp [h]
      · simp [he, show (e < j + 1) = (e < j) by simp; omega]
    · simp [h1, h2]
theorem ev_spend_no {x : mj_X} {d : Int32} {j : Nat} (h : ¬ x 12 j = d) : ev_spend x d j = ev_spend x d (j + 1) := by
  funext c
  simp only [ev_spend]
  have key : ∀ e, (e < j ∧ x 12 e = d) = (e < j + 1 ∧ x 12 e = d) := fun e => by
    by_cases he : e = j
    · subst he; simp [h]
    · simp; omega
  simp only [key]
set_option maxHeartbeats 1000000 in
theorem c_isThere (R : List mj_S) (x : mj_X) (n : Nat) (hn : n ≤ 41) (hsz : x 11 12 = nI n) (a : Int32) : mj_CP mX2_isThere (shX ++ R) [.ref 11, .int a] x (bi (ev_is n a)) := by
  refine mj_startP (ls := [some (.ref 11), some (.int a)]) (by decide) rfl rfl (fun Q hQ => ?_)
  refine mj_ildn dX2_isThere_0 rfl ?_
  refine mj_if_lt (tgt := 22) dX2_isThere_1 rfl (fun h_1 => ?_) (fun h_1 => ?_)
  · refine mj_iconst dX2_isThere_22 ni_0 ?_
    refine mj_retz rfl (by decide) dX2_isThere_23 ?_
    exact mj_q hQ (by unfold ev_is bi; simp; grind)
  · refine mj_ildn dX2_isThere_4 rfl ?_
    refine mj_aldn dX2_isThere_5 rfl ?_
    refine mj_geti fkX2_48 dX2_isThere_6 rfl rfl ?_
    refine mj_ic_ge (tgt := 22) dX2_isThere_9 rfl (fun h_9 => ?_) (fun h_9 => ?_)
    · rw [hsz] at h_9
      refine mj_iconst dX2_isThere_22 ni_0 ?_
      refine mj_retz rfl (by decide) dX2_isThere_23 ?_
      exact mj_q hQ (by unfold ev_is bi; simp; grind)
    · rw [hsz] at h_9
      obtain ⟨j, hj, rfl⟩ := ix_of (n := n) (a := a) (by omega) (by grind) (by grind)
      refine mj_ildn dX2_isThere_12 rfl ?_
      refine mj_bipush dX2_isThere_13 nb_41 ?_
      refine mj_ic_ge (tgt := 22) dX2_isThere_15 rfl (fun h_15 => False.elim (by exact nl_lt (show j < 41 by omega) (by decide) h_15)) (fun h_15 => ?_)
      refine mj_iconst dX2_isThere_18 ni_1 ?_
      refine mj_goto (tgt := 23) dX2_isThere_19 rfl ?_
      refine mj_retz rfl (by decide) dX2_isThere_23 ?_
      exact mj_q hQ (by unfold ev_is bi; simp; grind)
set_option maxHeartbeats 1000000 in
theorem c_isC (R : List mj_S) (x : mj_X) (n : Nat) (hn : n ≤ 41) (hsz : x 11 12 = nI n) (a : Int32) : mj_CP mX2_isConviction (shX ++ R) [.ref 11, .int a] x (bi (ev_isC x n a)) := by
  refine mj_startP (ls := [some (.ref 11), some (.int a)]) (by decide) rfl rfl (fun Q hQ => ?_)
  refine mj_aldn dX2_isConviction_0 rfl ?_
  refine mj_ildn dX2_isConviction_1 rfl ?_
  refine mj_cvp (K := mX2_isThere) (c_isThere R x n hn hsz a) ckX2_isThere lkX2_52 ⟨Nat.le_of_ble_eq_true rfl, Nat.le_of_ble_eq_true rfl⟩ rfl dX2_isConviction_2 rfl rfl (Nat.le_of_ble_eq_true rfl) ?_
  refine mj_if_eq (tgt := 21) dX2_isConviction_5 rfl (fun h_5 => ?_) (fun h_5 => ?_)
  · rw [bi_z] at h_5; simp only [ev_is, decide_eq_false_iff_not] at h_5
    refine mj_iconst dX2_isConviction_21 ni_0 ?_
    refine mj_retz rfl (by decide) dX2_isConviction_22 ?_
    exact mj_q hQ (by unfold ev_isC bi; simp; grind)
  · rw [bi_nz] at h_5; simp only [ev_is, decide_eq_true_eq] at h_5
    obtain ⟨j, hj, rfl⟩ := ix_of (n := n) (a := a) (by omega) h_5.1 h_5.2
    have ec := nI_clamp (n := j) (by omega)
    refine mj_aldn dX2_isConviction_8 rfl ?_
    refine mj_getr fkX2_18 dX2_isConviction_9 rfl rfl ?_
    refine mj_ildn dX2_isConviction_12 rfl ?_
    refine mj_iald dX2_isConviction_13 rfl j (by omega) rfl (by decide) ?_
    refine mj_if_ne (tgt := 21) dX2_isConviction_14 rfl (fun h_14 => ?_) (fun h_14 => ?_)
    · refine mj_iconst dX2_isConviction_21 ni_0 ?_
      refine mj_retz rfl (by decide) dX2_isConviction_22 ?_
      exact mj_q hQ (by unfold ev_isC bi; simp; grind)
    · refine mj_iconst dX2_isConviction_17 ni_1 ?_
      refine mj_goto (tgt := 22) dX2_isConviction_18 rfl ?_
      refine mj_retz rfl (by decide) dX2_isConviction_22 ?_
      exact mj_q hQ (by unfold ev_isC bi; simp; grind)
set_option maxHeartbeats 1000000 in
theorem c_addC (R : List mj_S) (x : mj_X) (n : Nat) (hn : n < 41) (hsz : x 11 12 = nI n) (d t o k p r : Int32) : mj_CV mX2_addConviction (shX ++ R) [.ref 11, .int d, .int t, .int o, .int k, .int p, .int r] x (fun y => y = ev_addC x n d t o k p r) := by
  refine mj_startV (ls := [some (.ref 11), some (.int d), some (.int t), some (.int o), some (.int k), some (.int p), some (.int r)]) (by decide) rfl rfl (fun Q hQ => ?_)
  refine mj_aldn dX2_addConviction_0 rfl ?_
  refine mj_geti fkX2_48 dX2_addConviction_1 rfl rfl ?_
  refine mj_if_lt (tgt := 16) dX2_addConviction_4 rfl (fun h_4 => False.elim (by rw [hsz] at h_4; exact nI_pos (by omega) h_4)) (fun h_4 => ?_)
  refine mj_aldn dX2_addConviction_7 rfl ?_
  refine mj_geti fkX2_48 dX2_addConviction_8 rfl rfl ?_
  refine mj_bipush dX2_addConviction_11 nb_41 ?_
  refine mj_ic_lt (tgt := 17) dX2_addConviction_13 rfl (fun h_13 => ?_) (fun h_13 => False.elim (by rw [hsz] at h_13; exact h_13 (nI_lt hn (by decide))))
  refine mj_aldn dX2_addConviction_17 rfl ?_
  refine mj_getr fkX2_11 dX2_addConviction_18 rfl rfl ?_
  refine mj_aldn dX2_addConviction_21 rfl ?_
  refine mj_geti fkX2_48 dX2_addConviction_22 rfl rfl ?_
  refine mj_ildn dX2_addConviction_25 rfl ?_
  refine mj_iast dX2_addConviction_26 rfl n hn hsz (by decide) ?_
  refine mj_aldn dX2_addConviction_27 rfl ?_
  refine mj_getr fkX2_15 dX2_addConviction_28 rfl rfl ?_
  refine mj_aldn dX2_addConviction_31 rfl ?_
  refine mj_geti fkX2_48 dX2_addConviction_32 rfl rfl ?_
  refine mj_ildn dX2_addConviction_35 rfl ?_
  refine mj_iast dX2_addConviction_36 rfl n hn hsz (by decide) ?_
  refine mj_aldn dX2_addConviction_37 rfl ?_
  refine mj_getr fkX2_18 dX2_addConviction_38 rfl rfl ?_
  refine mj_aldn dX2_addConviction_41 rfl ?_
  refine mj_geti fkX2_48 dX2_addConviction_42 rfl rfl ?_
  refine mj_iconst dX2_addConviction_45 ni_0 ?_
  refine mj_iast dX2_addConviction_46 rfl n hn hsz (by decide) ?_
  refine mj_aldn dX2_addConviction_47 rfl ?_
  refine mj_getr fkX2_21 dX2_addConviction_48 rfl rfl ?_
  refine mj_aldn dX2_addConviction_51 rfl ?_
  refine mj_geti fkX2_48 dX2_addConviction_52 rfl rfl ?_
  refine mj_ildn dX2_addConviction_55 rfl ?_
  refine mj_iast dX2_addConviction_56 rfl n hn hsz (by decide) ?_
  refine mj_aldn dX2_addConviction_57 rfl ?_
  refine mj_getr fkX2_24 dX2_addConviction_58 rfl rfl ?_
  refine mj_aldn dX2_addConviction_61 rfl ?_
  refine mj_geti fkX2_48 dX2_addConviction_62 rfl rfl ?_
  refine mj_ild dX2_addConviction_65 rfl ?_
  refine mj_iast dX2_addConviction_67 rfl n hn hsz (by decide) ?_
  refine mj_aldn dX2_addConviction_68 rfl ?_
  refine mj_getr fkX2_27 dX2_addConviction_69 rfl rfl ?_
  refine mj_aldn dX2_addConviction_72 rfl ?_
  refine mj_geti fkX2_48 dX2_addConviction_73 rfl rfl ?_
  refine mj_ild dX2_addConviction_76 rfl ?_
  refine mj_iast dX2_addConviction_78 rfl n hn hsz (by decide) ?_
  refine mj_aldn dX2_addConviction_79 rfl ?_
  refine mj_getr fkX2_30 dX2_addConviction_80 rfl rfl ?_
  refine mj_aldn dX2_addConviction_83 rfl ?_
  refine mj_geti fkX2_48 dX2_addConviction_84 rfl rfl ?_
  refine mj_ild dX2_addConviction_87 rfl ?_
  refine mj_iast dX2_addConviction_89 rfl n hn hsz (by decide) ?_
  refine mj_aldn dX2_addConviction_90 rfl ?_
  refine mj_getr fkX2_33 dX2_addConviction_91 rfl rfl ?_
  refine mj_aldn dX2_addConviction_94 rfl ?_
  refine mj_geti fkX2_48 dX2_addConviction_95 rfl rfl ?_
  refine mj_iconst dX2_addConviction_98 ni_0 ?_
  refine mj_iast dX2_addConviction_99 rfl n hn hsz (by decide) ?_
  refine mj_aldn dX2_addConviction_100 rfl ?_
  refine mj_dupr dX2_addConviction_101 ?_
  refine mj_geti fkX2_48 dX2_addConviction_102 rfl rfl ?_
  refine mj_iconst dX2_addConviction_105 ni_1 ?_
  refine mj_iadd dX2_addConviction_106 ?_
  refine mj_puti fkX2_48 pkX2_12 dX2_addConviction_107 rfl rfl ?_
  refine mj_retv rfl dX2_addConviction_110 ?_
  exact hQ _ (by unfold ev_addC; rw [← nI_1, ← hsz]; rfl)
set_option maxHeartbeats 1000000 in
theorem c_addK (R : List mj_S) (x : mj_X) (n : Nat) (hn : n < 41) (hsz : x 11 12 = nI n) (d t w : Int32) : mj_CV mX2_addCourse (shX ++ R) [.ref 11, .int d, .int t, .int w] x (fun y => y = ev_addK x n d t w) := by
  refine mj_startV (ls := [some (.ref 11), some (.int d), some (.int t), some (.int w)]) (by decide) rfl rfl (fun Q hQ => ?_)
  refine mj_aldn dX2_addCourse_0 rfl ?_
  refine mj_geti fkX2_48 dX2_addCourse_1 rfl rfl ?_
  refine mj_if_lt (tgt := 16) dX2_addCourse_4 rfl (fun h_4 => False.elim (by rw [hsz] at h_4; exact nI_pos (by omega) h_4)) (fun h_4 => ?_)
  refine mj_aldn dX2_addCourse_7 rfl ?_
  refine mj_geti fkX2_48 dX2_addCourse_8 rfl rfl ?_
  refine mj_bipush dX2_addCourse_11 nb_41 ?_
  refine mj_ic_lt (tgt := 17) dX2_addCourse_13 rfl (fun h_13 => ?_) (fun h_13 => False.elim (by rw [hsz] at h_13; exact h_13 (nI_lt hn (by decide))))
  refine mj_aldn dX2_addCourse_17 rfl ?_
  refine mj_getr fkX2_11 dX2_addCourse_18 rfl rfl ?_
  refine mj_aldn dX2_addCourse_21 rfl ?_
  refine mj_geti fkX2_48 dX2_addCourse_22 rfl rfl ?_
  refine mj_ildn dX2_addCourse_25 rfl ?_
  refine mj_iast dX2_addCourse_26 rfl n hn hsz (by decide) ?_
  refine mj_aldn dX2_addCourse_27 rfl ?_
  refine mj_getr fkX2_15 dX2_addCourse_28 rfl rfl ?_
  refine mj_aldn dX2_addCourse_31 rfl ?_
  refine mj_geti fkX2_48 dX2_addCourse_32 rfl rfl ?_
  refine mj_ildn dX2_addCourse_35 rfl ?_
  refine mj_iast dX2_addCourse_36 rfl n hn hsz (by decide) ?_
  refine mj_aldn dX2_addCourse_37 rfl ?_
  refine mj_getr fkX2_18 dX2_addCourse_38 rfl rfl ?_
  refine mj_aldn dX2_addCourse_41 rfl ?_
  refine mj_geti fkX2_48 dX2_addCourse_42 rfl rfl ?_
  refine mj_ildn dX2_addCourse_45 rfl ?_
  refine mj_iast dX2_addCourse_46 rfl n hn hsz (by decide) ?_
  refine mj_aldn dX2_addCourse_47 rfl ?_
  refine mj_getr fkX2_21 dX2_addCourse_48 rfl rfl ?_
  refine mj_aldn dX2_addCourse_51 rfl ?_
  refine mj_geti fkX2_48 dX2_addCourse_52 rfl rfl ?_
  refine mj_ildn dX2_addCourse_55 rfl ?_
  refine mj_iast dX2_addCourse_56 rfl n hn hsz (by decide) ?_
  refine mj_aldn dX2_addCourse_57 rfl ?_
  refine mj_dupr dX2_addCourse_58 ?_
  refine mj_geti fkX2_48 dX2_addCourse_59 rfl rfl ?_
  refine mj_iconst dX2_addCourse_62 ni_1 ?_
  refine mj_iadd dX2_addCourse_63 ?_
  refine mj_puti fkX2_48 pkX2_12 dX2_addCourse_64 rfl rfl ?_
  refine mj_retv rfl dX2_addCourse_67 ?_
  exact hQ _ (by unfold ev_addK; rw [← nI_1, ← hsz]; rfl)
set_option maxHeartbeats 1000000 in
theorem c_evdrop (R : List mj_S) (x : mj_X) (n : Nat) (hn : n < 41) (hsz : x 11 12 = nI (n + 1)) : mj_CV mX2_dropLast (shX ++ R) [.ref 11] x (fun y => y = mj_up x 11 12 (nI n)) := by
  have es : x 11 12 - 1 = nI n := by rw [hsz]; exact nI_pred n
  refine mj_startV (ls := [some (.ref 11)]) (by decide) rfl rfl (fun Q hQ => ?_)
  refine mj_aldn dX2_dropLast_0 rfl ?_
  refine mj_geti fkX2_48 dX2_dropLast_1 rfl rfl ?_
  refine mj_if_le (tgt := 17) dX2_dropLast_4 rfl (fun h_4 => False.elim (by rw [hsz] at h_4; exact nI_nle (by omega) (by omega) h_4)) (fun h_4 => ?_)
  refine mj_aldn dX2_dropLast_7 rfl ?_
  refine mj_dupr dX2_dropLast_8 ?_
  refine mj_geti fkX2_48 dX2_dropLast_9 rfl rfl ?_
  refine mj_iconst dX2_dropLast_12 ni_1 ?_
  refine mj_isub dX2_dropLast_13 ?_
  refine mj_puti fkX2_48 pkX2_12 dX2_dropLast_14 rfl rfl ?_
  refine mj_retv rfl dX2_dropLast_17 ?_
  exact hQ _ (by rw [← es])
set_option maxHeartbeats 1000000 in
theorem c_light (R : List mj_S) (x : mj_X) (n : Nat) (hn : n ≤ 41) (hsz : x 11 12 = nI n) (d lim : Int32) : mj_CP mX2_hasLightAfter (shX ++ R) [.ref 11, .int d, .int lim] x (bi (lp_any (ev_light x d lim) n)) := by
  refine mj_startP (ls := [some (.ref 11), some (.int d), some (.int lim), none]) (by decide) rfl rfl (fun Q hQ => ?_)
  have loop : ∀ (k j : Nat), j ≤ n → n < j + k → lp_any (ev_light x d lim) j = false → mj_V mX2_hasLightAfter (shX ++ R) Q x 2 [some (.ref 11), some (.int d), some (.int lim), some (.int (nI j))] [] := by
    intro k
    induction k with
    | zero => intro j h1 h2; omega
    | succ k ih =>
      intro j h1 h2 hp
      refine mj_ildn dX2_hasLightAfter_2 rfl ?_
      refine mj_aldn dX2_hasLightAfter_3 rfl ?_
      refine mj_geti fkX2_48 dX2_hasLightAfter_4 rfl rfl ?_
      refine mj_ic_ge (tgt := 54) dX2_hasLightAfter_7 rfl (fun h_7 => ?_) (fun h_7 => ?_)
      · have hj : j = n := by rw [hsz, nI_leI (by omega) (by omega)] at h_7; omega
        subst hj
        refine mj_iconst dX2_hasLightAfter_54 ni_0 ?_
        refine mj_retz rfl (by decide) dX2_hasLightAfter_55 ?_
        exact mj_q hQ (by rw [hp]; rfl)
      · have hlt : j < n := by rw [hsz, nI_leI (by omega) (by omega)] at h_7; omega
        refine mj_ildn dX2_hasLightAfter_10 rfl ?_
        refine mj_bipush dX2_hasLightAfter_11 nb_41 ?_
        refine mj_ic_ge (tgt := 54) dX2_hasLightAfter_13 rfl (fun h_13 => False.elim (by exact nl_lt (show j < 41 by omega) (by decide) h_13)) (fun h_13 => ?_)
        refine mj_aldn dX2_hasLightAfter_16 rfl ?_
        refine mj_getr fkX2_11 dX2_hasLightAfter_17 rfl rfl ?_
        refine mj_ildn dX2_hasLightAfter_20 rfl ?_
        refine mj_iald dX2_hasLightAfter_21 rfl _ (by omega) rfl (by decide) ?_
        refine mj_ildn dX2_hasLightAfter_22 rfl ?_
        refine mj_ic_ne (tgt := 48) dX2_hasLightAfter_23 rfl (fun h_23 => ?_) (fun h_23 => ?_)
        · refine mj_inc3 dX2_hasLightAfter_48 ni_1 rfl ?_
          refine mj_goto (tgt := 2) dX2_hasLightAfter_51 rfl ?_
          exact mj_ls (ih (j + 1) (by omega) (by omega) (by simp [lp_any, hp, ev_light] <;> grind)) (by simp [nI_1])
        · refine mj_aldn dX2_hasLightAfter_26 rfl ?_
          refine mj_getr fkX2_18 dX2_hasLightAfter_27 rfl rfl ?_
          refine mj_ildn dX2_hasLightAfter_30 rfl ?_
          refine mj_iald dX2_hasLightAfter_31 rfl _ (by omega) rfl (by decide) ?_
          refine mj_iconst dX2_hasLightAfter_32 ni_1 ?_
          refine mj_ic_ne (tgt := 48) dX2_hasLightAfter_33 rfl (fun h_33 => ?_) (fun h_33 => ?_)
          · refine mj_inc3 dX2_hasLightAfter_48 ni_1 rfl ?_
            refine mj_goto (tgt := 2) dX2_hasLightAfter_51 rfl ?_
            exact mj_ls (ih (j + 1) (by omega) (by omega) (by simp [lp_any, hp, ev_light] <;> grind)) (by simp [nI_1])
          · refine mj_aldn dX2_hasLightAfter_36 rfl ?_
            refine mj_getr fkX2_15 dX2_hasLightAfter_37 rfl rfl ?_
            refine mj_ildn dX2_hasLightAfter_40 rfl ?_
            refine mj_iald dX2_hasLightAfter_41 rfl _ (by omega) rfl (by decide) ?_
            refine mj_ildn dX2_hasLightAfter_42 rfl ?_
            refine mj_ic_le (tgt := 48) dX2_hasLightAfter_43 rfl (fun h_43 => ?_) (fun h_43 => ?_)
            · refine mj_inc3 dX2_hasLightAfter_48 ni_1 rfl ?_
              refine mj_goto (tgt := 2) dX2_hasLightAfter_51 rfl ?_
              exact mj_ls (ih (j + 1) (by omega) (by omega) (by simp [lp_any, hp, ev_light] <;> grind)) (by simp [nI_1])
            · refine mj_iconst dX2_hasLightAfter_46 ni_1 ?_
              refine mj_retz rfl (by decide) dX2_hasLightAfter_47 ?_
              exact mj_q hQ (by rw [lp_any_true (j := j) (by simp [ev_light, h_23, h_33]; grind) hlt]; rfl)
  refine mj_iconst dX2_hasLightAfter_0 ni_0 ?_
  refine mj_istn3 dX2_hasLightAfter_1 rfl ?_
  exact loop (n + 1) 0 (by omega) (by omega) rfl
set_option maxHeartbeats 1000000 in
theorem c_swap (sh : List mj_S) (r : Nat) (hr : sh[r]? = some (.inr 41)) (x : mj_X) (j : Nat) (hj : j < 41) (v : Int32) : mj_CI mX2_swap sh [.ref 11, .ref r, .int (nI j), .int v] x (fun z y => z = x r j ∧ y = mj_up x r j v) := by
  refine mj_startI (ls := [some (.ref 11), some (.ref r), some (.int (nI j)), some (.int v), none]) (by decide) rfl rfl (fun Q hQ => ?_)
  refine mj_ildn dX2_swap_0 rfl ?_
  refine mj_if_lt (tgt := 10) dX2_swap_1 rfl (fun h_1 => False.elim (by exact nI_pos (by omega) h_1)) (fun h_1 => ?_)
  refine mj_ildn dX2_swap_4 rfl ?_
  refine mj_aldn dX2_swap_5 rfl ?_
  refine mj_alen dX2_swap_6 hr ?_
  refine mj_ic_lt (tgt := 12) dX2_swap_7 rfl (fun h_7 => ?_) (fun h_7 => False.elim (by exact h_7 (nI_lt hj (by decide))))
  refine mj_aldn dX2_swap_12 rfl ?_
  refine mj_ildn dX2_swap_13 rfl ?_
  refine mj_iald dX2_swap_14 hr j hj rfl (by decide) ?_
  refine mj_ist4 dX2_swap_15 rfl ?_
  refine mj_aldn dX2_swap_17 rfl ?_
  refine mj_ildn dX2_swap_18 rfl ?_
  refine mj_ildn dX2_swap_19 rfl ?_
  refine mj_iast dX2_swap_20 hr j hj rfl (by decide) ?_
  refine mj_ild dX2_swap_21 rfl ?_
  refine mj_ret rfl dX2_swap_23 ?_
  exact hQ _ _ ⟨rfl, rfl⟩
set_option maxHeartbeats 1000000 in
theorem c_evtell (R : List mj_S) (x : mj_X) (n : Nat) (hn : n ≤ 41) (hsz : x 11 12 = nI n) (j : Nat) (hj : j < n) (ch v : Int32) (hch : ch = 1 ∨ ch = 2 ∨ ch = 3 ∨ ch = 4) : mj_CI mX2_tell (shX ++ R) [.ref 11, .int ch, .int (nI j), .int v] x (fun z y => z = x (ev_tc ch) j ∧ y = mj_up x (ev_tc ch) j v) := by
  refine mj_startI (ls := [some (.ref 11), some (.int ch), some (.int (nI j)), some (.int v)]) (by decide) rfl rfl (fun Q hQ => ?_)
  refine mj_aldn dX2_tell_0 rfl ?_
  refine mj_ildn dX2_tell_1 rfl ?_
  refine mj_cvp (K := mX2_isThere) (c_isThere R x n hn hsz (nI j)) ckX2_isThere lkX2_52 ⟨Nat.le_of_ble_eq_true rfl, Nat.le_of_ble_eq_true rfl⟩ rfl dX2_tell_2 rfl rfl (Nat.le_of_ble_eq_true rfl) ?_
  refine mj_if_ne (tgt := 10) dX2_tell_5 rfl (fun h_5 => ?_) (fun h_5 => False.elim (by rw [bi_z] at h_5; simp only [ev_is, decide_eq_false_iff_not] at h_5; exact h_5 ⟨nI_pos' (by omega), nI_lt hj (by omega)⟩))
  refine mj_ildn dX2_tell_10 rfl ?_
  by_cases s11_0 : ch = 1
  · subst s11_0
    refine mj_tableIn (off := 29) (tgt := 40) dX2_tell_11 (by decide) (by decide) (by decide) rfl ?_
    refine mj_aldn dX2_tell_40 rfl ?_
    refine mj_aldn dX2_tell_41 rfl ?_
    refine mj_getr fkX2_33 dX2_tell_42 rfl rfl ?_
    refine mj_ildn dX2_tell_45 rfl ?_
    refine mj_ildn dX2_tell_46 rfl ?_
    refine mj_cvi (K := mX2_swap) (c_swap _ 19 rfl x j (by omega) v) ckX2_swap lkX2_56 ⟨Nat.le_of_ble_eq_true rfl, Nat.le_of_ble_eq_true rfl⟩ rfl dX2_tell_47 rfl rfl (Nat.le_of_ble_eq_true rfl) (fun z_47 x_47 q_47 => ?_)
    refine mj_ret rfl dX2_tell_50 ?_
    exact hQ _ _ q_47
  by_cases s11_1 : ch = 2
  · subst s11_1
    refine mj_tableIn (off := 40) (tgt := 51) dX2_tell_11 (by decide) (by decide) (by decide) rfl ?_
    refine mj_aldn dX2_tell_51 rfl ?_
    refine mj_aldn dX2_tell_52 rfl ?_
    refine mj_getr fkX2_27 dX2_tell_53 rfl rfl ?_
    refine mj_ildn dX2_tell_56 rfl ?_
    refine mj_ildn dX2_tell_57 rfl ?_
    refine mj_cvi (K := mX2_swap) (c_swap _ 17 rfl x j (by omega) v) ckX2_swap lkX2_56 ⟨Nat.le_of_ble_eq_true rfl, Nat.le_of_ble_eq_true rfl⟩ rfl dX2_tell_58 rfl rfl (Nat.le_of_ble_eq_true rfl) (fun z_58 x_58 q_58 => ?_)
    refine mj_ret rfl dX2_tell_61 ?_
    exact hQ _ _ q_58
  by_cases s11_2 : ch = 3
  · subst s11_2
    refine mj_tableIn (off := 51) (tgt := 62) dX2_tell_11 (by decide) (by decide) (by decide) rfl ?_
    refine mj_aldn dX2_tell_62 rfl ?_
    refine mj_aldn dX2_tell_63 rfl ?_
    refine mj_getr fkX2_21 dX2_tell_64 rfl rfl ?_
    refine mj_ildn dX2_tell_67 rfl ?_
    refine mj_ildn dX2_tell_68 rfl ?_
    refine mj_cvi (K := mX2_swap) (c_swap _ 15 rfl x j (by omega) v) ckX2_swap lkX2_56 ⟨Nat.le_of_ble_eq_true rfl, Nat.le_of_ble_eq_true rfl⟩ rfl dX2_tell_69 rfl rfl (Nat.le_of_ble_eq_true rfl) (fun z_69 x_69 q_69 => ?_)
    refine mj_ret rfl dX2_tell_72 ?_
    exact hQ _ _ q_69
  by_cases s11_3 : ch = 4
  · subst s11_3
    refine mj_tableIn (off := 62) (tgt := 73) dX2_tell_11 (by decide) (by decide) (by decide) rfl ?_
    refine mj_aldn dX2_tell_73 rfl ?_
    refine mj_aldn dX2_tell_74 rfl ?_
    refine mj_getr fkX2_30 dX2_tell_75 rfl rfl ?_
    refine mj_ildn dX2_tell_78 rfl ?_
    refine mj_ildn dX2_tell_79 rfl ?_
    refine mj_cvi (K := mX2_swap) (c_swap _ 18 rfl x j (by omega) v) ckX2_swap lkX2_56 ⟨Nat.le_of_ble_eq_true rfl, Nat.le_of_ble_eq_true rfl⟩ rfl dX2_tell_80 rfl rfl (Nat.le_of_ble_eq_true rfl) (fun z_80 x_80 q_80 => ?_)
    refine mj_ret rfl dX2_tell_83 ?_
    exact hQ _ _ q_80
  exfalso; rcases hch with h | h | h | h <;> contradiction
set_option maxHeartbeats 1000000 in
theorem c_tellC (R : List mj_S) (x : mj_X) (n : Nat) (hn : n ≤ 41) (hsz : x 11 12 = nI n) (j : Nat) (hj : j < n) (w : Int32) : mj_CP mX2_tellOfConviction (shX ++ R) [.ref 11, .int (nI j), .int w] x (ev_tellC x j w) := by
  refine mj_startP (ls := [some (.ref 11), some (.int (nI j)), some (.int w)]) (by decide) rfl rfl (fun Q hQ => ?_)
  refine mj_aldn dX2_tellOfConviction_0 rfl ?_
  refine mj_ildn dX2_tellOfConviction_1 rfl ?_
  refine mj_cvp (K := mX2_isThere) (c_isThere R x n hn hsz (nI j)) ckX2_isThere lkX2_52 ⟨Nat.le_of_ble_eq_true rfl, Nat.le_of_ble_eq_true rfl⟩ rfl dX2_tellOfConviction_2 rfl rfl (Nat.le_of_ble_eq_true rfl) ?_
  refine mj_if_ne (tgt := 11) dX2_tellOfConviction_5 rfl (fun h_5 => ?_) (fun h_5 => False.elim (by rw [bi_z] at h_5; simp only [ev_is, decide_eq_false_iff_not] at h_5; exact h_5 ⟨nI_pos' (by omega), nI_lt hj (by omega)⟩))
  refine mj_ildn dX2_tellOfConviction_11 rfl ?_
  by_cases s12_0 : w = 3
  · subst s12_0
    refine mj_tableIn (off := 40) (tgt := 52) dX2_tellOfConviction_12 (by decide) (by decide) (by decide) rfl ?_
    refine mj_aldn dX2_tellOfConviction_52 rfl ?_
    refine mj_getr fkX2_21 dX2_tellOfConviction_53 rfl rfl ?_
    refine mj_ildn dX2_tellOfConviction_56 rfl ?_
    refine mj_iald dX2_tellOfConviction_57 rfl j (by omega) rfl (by decide) ?_
    refine mj_ret rfl dX2_tellOfConviction_58 ?_
    exact mj_q hQ (by simp [ev_tellC])
  by_cases s12_1 : w = 4
  · subst s12_1
    refine mj_tableIn (off := 47) (tgt := 59) dX2_tellOfConviction_12 (by decide) (by decide) (by decide) rfl ?_
    refine mj_aldn dX2_tellOfConviction_59 rfl ?_
    refine mj_getr fkX2_24 dX2_tellOfConviction_60 rfl rfl ?_
    refine mj_ildn dX2_tellOfConviction_63 rfl ?_
    refine mj_iald dX2_tellOfConviction_64 rfl j (by omega) rfl (by decide) ?_
    refine mj_ret rfl dX2_tellOfConviction_65 ?_
    exact mj_q hQ (by simp [ev_tellC, s12_0])
  by_cases s12_2 : w = 5
  · subst s12_2
    refine mj_tableIn (off := 54) (tgt := 66) dX2_tellOfConviction_12 (by decide) (by decide) (by decide) rfl ?_
    refine mj_aldn dX2_tellOfConviction_66 rfl ?_
    refine mj_getr fkX2_27 dX2_tellOfConviction_67 rfl rfl ?_
    refine mj_ildn dX2_tellOfConviction_70 rfl ?_
    refine mj_iald dX2_tellOfConviction_71 rfl j (by omega) rfl (by decide) ?_
    refine mj_ret rfl dX2_tellOfConviction_72 ?_
    exact mj_q hQ (by simp [ev_tellC, s12_0, s12_1])
  by_cases s12_3 : w = 6
  · subst s12_3
    refine mj_tableIn (off := 61) (tgt := 73) dX2_tellOfConviction_12 (by decide) (by decide) (by decide) rfl ?_
    refine mj_aldn dX2_tellOfConviction_73 rfl ?_
    refine mj_getr fkX2_30 dX2_tellOfConviction_74 rfl rfl ?_
    refine mj_ildn dX2_tellOfConviction_77 rfl ?_
    refine mj_iald dX2_tellOfConviction_78 rfl j (by omega) rfl (by decide) ?_
    refine mj_ret rfl dX2_tellOfConviction_79 ?_
    exact mj_q hQ (by simp [ev_tellC, s12_0, s12_1, s12_2])
  by_cases s12_4 : w = 7
  · subst s12_4
    refine mj_tableIn (off := 68) (tgt := 80) dX2_tellOfConviction_12 (by decide) (by decide) (by decide) rfl ?_
    refine mj_aldn dX2_tellOfConviction_80 rfl ?_
    refine mj_getr fkX2_33 dX2_tellOfConviction_81 rfl rfl ?_
    refine mj_ildn dX2_tellOfConviction_84 rfl ?_
    refine mj_iald dX2_tellOfConviction_85 rfl j (by omega) rfl (by decide) ?_
    refine mj_ret rfl dX2_tellOfConviction_86 ?_
    exact mj_q hQ (by simp [ev_tellC, s12_0, s12_1, s12_2, s12_3])
  by_cases s12_5 : w = 8
  · subst s12_5
    refine mj_tableIn (off := 75) (tgt := 87) dX2_tellOfConviction_12 (by decide) (by decide) (by decide) rfl ?_
    refine mj_aldn dX2_tellOfConviction_87 rfl ?_
    refine mj_getr fkX2_36 dX2_tellOfConviction_88 rfl rfl ?_
    refine mj_ildn dX2_tellOfConviction_91 rfl ?_
    refine mj_iald dX2_tellOfConviction_92 rfl j (by omega) rfl (by decide) ?_
    refine mj_ret rfl dX2_tellOfConviction_93 ?_
    exact mj_q hQ (by simp [ev_tellC, s12_0, s12_1, s12_2, s12_3, s12_4])
  refine mj_tableOut (tgt := 94) dX2_tellOfConviction_12 (by have u0 := ti_ne s12_0; rw [tl_3] at u0; have u1 := ti_ne s12_1; rw [tl_4] at u1; have u2 := ti_ne s12_2; rw [tl_5] at u2; have u3 := ti_ne s12_3; rw [tl_6] at u3; have u4 := ti_ne s12_4; rw [tl_7] at u4; have u5 := ti_ne s12_5; rw [tl_8] at u5; omega) rfl ?_
  refine mj_bipush dX2_tellOfConviction_94 nb_m4 ?_
  refine mj_ret rfl dX2_tellOfConviction_96 ?_
  exact mj_q hQ (by simp [ev_tellC, s12_0, s12_1, s12_2, s12_3, s12_4, s12_5])
set_option maxHeartbeats 1000000 in
theorem c_tell (R : List mj_S) (x : mj_X) (n : Nat) (hn : n ≤ 41) (hsz : x 11 12 = nI n) (j : Nat) (hj : j < n) (w : Int32) : mj_CP mX2_tellOf (shX ++ R) [.ref 11, .int (nI j), .int w] x (ev_tell x j w) := by
  refine mj_startP (ls := [some (.ref 11), some (.int (nI j)), some (.int w)]) (by decide) rfl rfl (fun Q hQ => ?_)
  refine mj_aldn dX2_tellOf_0 rfl ?_
  refine mj_ildn dX2_tellOf_1 rfl ?_
  refine mj_cvp (K := mX2_isThere) (c_isThere R x n hn hsz (nI j)) ckX2_isThere lkX2_52 ⟨Nat.le_of_ble_eq_true rfl, Nat.le_of_ble_eq_true rfl⟩ rfl dX2_tellOf_2 rfl rfl (Nat.le_of_ble_eq_true rfl) ?_
  refine mj_if_ne (tgt := 11) dX2_tellOf_5 rfl (fun h_5 => ?_) (fun h_5 => False.elim (by rw [bi_z] at h_5; simp only [ev_is, decide_eq_false_iff_not] at h_5; exact h_5 ⟨nI_pos' (by omega), nI_lt hj (by omega)⟩))
  refine mj_ildn dX2_tellOf_11 rfl ?_
  by_cases s12_0 : w = 0
  · subst s12_0
    refine mj_tableIn (off := 60) (tgt := 72) dX2_tellOf_12 (by decide) (by decide) (by decide) rfl ?_
    refine mj_aldn dX2_tellOf_72 rfl ?_
    refine mj_getr fkX2_11 dX2_tellOf_73 rfl rfl ?_
    refine mj_ildn dX2_tellOf_76 rfl ?_
    refine mj_iald dX2_tellOf_77 rfl j (by omega) rfl (by decide) ?_
    refine mj_ret rfl dX2_tellOf_78 ?_
    exact mj_q hQ (by simp [ev_tell])
  by_cases s12_1 : w = 1
  · subst s12_1
    refine mj_tableIn (off := 67) (tgt := 79) dX2_tellOf_12 (by decide) (by decide) (by decide) rfl ?_
    refine mj_aldn dX2_tellOf_79 rfl ?_
    refine mj_getr fkX2_15 dX2_tellOf_80 rfl rfl ?_
    refine mj_ildn dX2_tellOf_83 rfl ?_
    refine mj_iald dX2_tellOf_84 rfl j (by omega) rfl (by decide) ?_
    refine mj_ret rfl dX2_tellOf_85 ?_
    exact mj_q hQ (by simp [ev_tell, s12_0])
  by_cases s12_2 : w = 2
  · subst s12_2
    refine mj_tableIn (off := 74) (tgt := 86) dX2_tellOf_12 (by decide) (by decide) (by decide) rfl ?_
    refine mj_aldn dX2_tellOf_86 rfl ?_
    refine mj_getr fkX2_18 dX2_tellOf_87 rfl rfl ?_
    refine mj_ildn dX2_tellOf_90 rfl ?_
    refine mj_iald dX2_tellOf_91 rfl j (by omega) rfl (by decide) ?_
    refine mj_ret rfl dX2_tellOf_92 ?_
    exact mj_q hQ (by simp [ev_tell, s12_0, s12_1])
  by_cases s12_3 : w = 3
  · subst s12_3
    refine mj_tableIn (off := 110) (tgt := 122) dX2_tellOf_12 (by decide) (by decide) (by decide) rfl ?_
    refine mj_aldn dX2_tellOf_122 rfl ?_
    refine mj_getr fkX2_18 dX2_tellOf_123 rfl rfl ?_
    refine mj_ildn dX2_tellOf_126 rfl ?_
    refine mj_iald dX2_tellOf_127 rfl j (by omega) rfl (by decide) ?_
    refine mj_if_ne (tgt := 140) dX2_tellOf_128 rfl (fun h_128 => ?_) (fun h_128 => ?_)
    · refine mj_bipush dX2_tellOf_140 nb_m4 ?_
      refine mj_ret rfl dX2_tellOf_142 ?_
      exact mj_q hQ (by simp [ev_tell, s12_0, s12_1, s12_2, h_128])
    · refine mj_aldn dX2_tellOf_131 rfl ?_
      refine mj_ildn dX2_tellOf_132 rfl ?_
      refine mj_ildn dX2_tellOf_133 rfl ?_
      refine mj_cvp (K := mX2_tellOfConviction) (c_tellC R x n hn hsz j hj _) ckX2_tellOfConviction lkX2_60 ⟨Nat.le_of_ble_eq_true rfl, Nat.le_of_ble_eq_true rfl⟩ rfl dX2_tellOf_134 rfl rfl (Nat.le_of_ble_eq_true rfl) ?_
      refine mj_goto (tgt := 142) dX2_tellOf_137 rfl ?_
      refine mj_ret rfl dX2_tellOf_142 ?_
      exact mj_q hQ (by simp [ev_tell, s12_0, s12_1, s12_2, h_128])
  by_cases s12_4 : w = 4
  · subst s12_4
    refine mj_tableIn (off := 110) (tgt := 122) dX2_tellOf_12 (by decide) (by decide) (by decide) rfl ?_
    refine mj_aldn dX2_tellOf_122 rfl ?_
    refine mj_getr fkX2_18 dX2_tellOf_123 rfl rfl ?_
    refine mj_ildn dX2_tellOf_126 rfl ?_
    refine mj_iald dX2_tellOf_127 rfl j (by omega) rfl (by decide) ?_
    refine mj_if_ne (tgt := 140) dX2_tellOf_128 rfl (fun h_128 => ?_) (fun h_128 => ?_)
    · refine mj_bipush dX2_tellOf_140 nb_m4 ?_
      refine mj_ret rfl dX2_tellOf_142 ?_
      exact mj_q hQ (by simp [ev_tell, s12_0, s12_1, s12_2, s12_3, h_128])
    · refine mj_aldn dX2_tellOf_131 rfl ?_
      refine mj_ildn dX2_tellOf_132 rfl ?_
      refine mj_ildn dX2_tellOf_133 rfl ?_
      refine mj_cvp (K := mX2_tellOfConviction) (c_tellC R x n hn hsz j hj _) ckX2_tellOfConviction lkX2_60 ⟨Nat.le_of_ble_eq_true rfl, Nat.le_of_ble_eq_true rfl⟩ rfl dX2_tellOf_134 rfl rfl (Nat.le_of_ble_eq_true rfl) ?_
      refine mj_goto (tgt := 142) dX2_tellOf_137 rfl ?_
      refine mj_ret rfl dX2_tellOf_142 ?_
      exact mj_q hQ (by simp [ev_tell, s12_0, s12_1, s12_2, s12_3, h_128])
  by_cases s12_5 : w = 5
  · subst s12_5
    refine mj_tableIn (off := 110) (tgt := 122) dX2_tellOf_12 (by decide) (by decide) (by decide) rfl ?_
    refine mj_aldn dX2_tellOf_122 rfl ?_
    refine mj_getr fkX2_18 dX2_tellOf_123 rfl rfl ?_
    refine mj_ildn dX2_tellOf_126 rfl ?_
    refine mj_iald dX2_tellOf_127 rfl j (by omega) rfl (by decide) ?_
    refine mj_if_ne (tgt := 140) dX2_tellOf_128 rfl (fun h_128 => ?_) (fun h_128 => ?_)
    · refine mj_bipush dX2_tellOf_140 nb_m4 ?_
      refine mj_ret rfl dX2_tellOf_142 ?_
      exact mj_q hQ (by simp [ev_tell, s12_0, s12_1, s12_2, s12_3, s12_4, h_128])
    · refine mj_aldn dX2_tellOf_131 rfl ?_
      refine mj_ildn dX2_tellOf_132 rfl ?_
      refine mj_ildn dX2_tellOf_133 rfl ?_
      refine mj_cvp (K := mX2_tellOfConviction) (c_tellC R x n hn hsz j hj _) ckX2_tellOfConviction lkX2_60 ⟨Nat.le_of_ble_eq_true rfl, Nat.le_of_ble_eq_true rfl⟩ rfl dX2_tellOf_134 rfl rfl (Nat.le_of_ble_eq_true rfl) ?_
      refine mj_goto (tgt := 142) dX2_tellOf_137 rfl ?_
      refine mj_ret rfl dX2_tellOf_142 ?_
      exact mj_q hQ (by simp [ev_tell, s12_0, s12_1, s12_2, s12_3, s12_4, h_128])
  by_cases s12_6 : w = 6
  · subst s12_6
    refine mj_tableIn (off := 110) (tgt := 122) dX2_tellOf_12 (by decide) (by decide) (by decide) rfl ?_
    refine mj_aldn dX2_tellOf_122 rfl ?_
    refine mj_getr fkX2_18 dX2_tellOf_123 rfl rfl ?_
    refine mj_ildn dX2_tellOf_126 rfl ?_
    refine mj_iald dX2_tellOf_127 rfl j (by omega) rfl (by decide) ?_
    refine mj_if_ne (tgt := 140) dX2_tellOf_128 rfl (fun h_128 => ?_) (fun h_128 => ?_)
    · refine mj_bipush dX2_tellOf_140 nb_m4 ?_
      refine mj_ret rfl dX2_tellOf_142 ?_
      exact mj_q hQ (by simp [ev_tell, s12_0, s12_1, s12_2, s12_3, s12_4, s12_5, h_128])
    · refine mj_aldn dX2_tellOf_131 rfl ?_
      refine mj_ildn dX2_tellOf_132 rfl ?_
      refine mj_ildn dX2_tellOf_133 rfl ?_
      refine mj_cvp (K := mX2_tellOfConviction) (c_tellC R x n hn hsz j hj _) ckX2_tellOfConviction lkX2_60 ⟨Nat.le_of_ble_eq_true rfl, Nat.le_of_ble_eq_true rfl⟩ rfl dX2_tellOf_134 rfl rfl (Nat.le_of_ble_eq_true rfl) ?_
      refine mj_goto (tgt := 142) dX2_tellOf_137 rfl ?_
      refine mj_ret rfl dX2_tellOf_142 ?_
      exact mj_q hQ (by simp [ev_tell, s12_0, s12_1, s12_2, s12_3, s12_4, s12_5, h_128])
  by_cases s12_7 : w = 7
  · subst s12_7
    refine mj_tableIn (off := 110) (tgt := 122) dX2_tellOf_12 (by decide) (by decide) (by decide) rfl ?_
    refine mj_aldn dX2_tellOf_122 rfl ?_
    refine mj_getr fkX2_18 dX2_tellOf_123 rfl rfl ?_
    refine mj_ildn dX2_tellOf_126 rfl ?_
    refine mj_iald dX2_tellOf_127 rfl j (by omega) rfl (by decide) ?_
    refine mj_if_ne (tgt := 140) dX2_tellOf_128 rfl (fun h_128 => ?_) (fun h_128 => ?_)
    · refine mj_bipush dX2_tellOf_140 nb_m4 ?_
      refine mj_ret rfl dX2_tellOf_142 ?_
      exact mj_q hQ (by simp [ev_tell, s12_0, s12_1, s12_2, s12_3, s12_4, s12_5, s12_6, h_128])
    · refine mj_aldn dX2_tellOf_131 rfl ?_
      refine mj_ildn dX2_tellOf_132 rfl ?_
      refine mj_ildn dX2_tellOf_133 rfl ?_
      refine mj_cvp (K := mX2_tellOfConviction) (c_tellC R x n hn hsz j hj _) ckX2_tellOfConviction lkX2_60 ⟨Nat.le_of_ble_eq_true rfl, Nat.le_of_ble_eq_true rfl⟩ rfl dX2_tellOf_134 rfl rfl (Nat.le_of_ble_eq_true rfl) ?_
      refine mj_goto (tgt := 142) dX2_tellOf_137 rfl ?_
      refine mj_ret rfl dX2_tellOf_142 ?_
      exact mj_q hQ (by simp [ev_tell, s12_0, s12_1, s12_2, s12_3, s12_4, s12_5, s12_6, h_128])
  by_cases s12_8 : w = 8
  · subst s12_8
    refine mj_tableIn (off := 110) (tgt := 122) dX2_tellOf_12 (by decide) (by decide) (by decide) rfl ?_
    refine mj_aldn dX2_tellOf_122 rfl ?_
    refine mj_getr fkX2_18 dX2_tellOf_123 rfl rfl ?_
    refine mj_ildn dX2_tellOf_126 rfl ?_
    refine mj_iald dX2_tellOf_127 rfl j (by omega) rfl (by decide) ?_
    refine mj_if_ne (tgt := 140) dX2_tellOf_128 rfl (fun h_128 => ?_) (fun h_128 => ?_)
    · refine mj_bipush dX2_tellOf_140 nb_m4 ?_
      refine mj_ret rfl dX2_tellOf_142 ?_
      exact mj_q hQ (by simp [ev_tell, s12_0, s12_1, s12_2, s12_3, s12_4, s12_5, s12_6, s12_7, h_128])
    · refine mj_aldn dX2_tellOf_131 rfl ?_
      refine mj_ildn dX2_tellOf_132 rfl ?_
      refine mj_ildn dX2_tellOf_133 rfl ?_
      refine mj_cvp (K := mX2_tellOfConviction) (c_tellC R x n hn hsz j hj _) ckX2_tellOfConviction lkX2_60 ⟨Nat.le_of_ble_eq_true rfl, Nat.le_of_ble_eq_true rfl⟩ rfl dX2_tellOf_134 rfl rfl (Nat.le_of_ble_eq_true rfl) ?_
      refine mj_goto (tgt := 142) dX2_tellOf_137 rfl ?_
      refine mj_ret rfl dX2_tellOf_142 ?_
      exact mj_q hQ (by simp [ev_tell, s12_0, s12_1, s12_2, s12_3, s12_4, s12_5, s12_6, s12_7, h_128])
  by_cases s12_9 : w = 9
  · subst s12_9
    refine mj_tableIn (off := 81) (tgt := 93) dX2_tellOf_12 (by decide) (by decide) (by decide) rfl ?_
    refine mj_aldn dX2_tellOf_93 rfl ?_
    refine mj_getr fkX2_39 dX2_tellOf_94 rfl rfl ?_
    refine mj_ildn dX2_tellOf_97 rfl ?_
    refine mj_iald dX2_tellOf_98 rfl j (by omega) rfl (by decide) ?_
    refine mj_ret rfl dX2_tellOf_99 ?_
    exact mj_q hQ (by simp [ev_tell, s12_0, s12_1, s12_2, s12_3, s12_4, s12_5, s12_6, s12_7, s12_8])
  by_cases s12_10 : w = 10
  · subst s12_10
    refine mj_tableIn (off := 88) (tgt := 100) dX2_tellOf_12 (by decide) (by decide) (by decide) rfl ?_
    refine mj_aldn dX2_tellOf_100 rfl ?_
    refine mj_getr fkX2_18 dX2_tellOf_101 rfl rfl ?_
    refine mj_ildn dX2_tellOf_104 rfl ?_
    refine mj_iald dX2_tellOf_105 rfl j (by omega) rfl (by decide) ?_
    refine mj_iconst dX2_tellOf_106 ni_2 ?_
    refine mj_ic_ne (tgt := 119) dX2_tellOf_107 rfl (fun h_107 => ?_) (fun h_107 => ?_)
    · refine mj_bipush dX2_tellOf_119 nb_m4 ?_
      refine mj_ret rfl dX2_tellOf_121 ?_
      exact mj_q hQ (by simp [ev_tell, s12_0, s12_1, s12_2, s12_3, s12_4, s12_5, s12_6, s12_7, s12_8, s12_9, h_107])
    · refine mj_aldn dX2_tellOf_110 rfl ?_
      refine mj_getr fkX2_42 dX2_tellOf_111 rfl rfl ?_
      refine mj_ildn dX2_tellOf_114 rfl ?_
      refine mj_iald dX2_tellOf_115 rfl j (by omega) rfl (by decide) ?_
      refine mj_goto (tgt := 121) dX2_tellOf_116 rfl ?_
      refine mj_ret rfl dX2_tellOf_121 ?_
      exact mj_q hQ (by simp [ev_tell, s12_0, s12_1, s12_2, s12_3, s12_4, s12_5, s12_6, s12_7, s12_8, s12_9, h_107])
  refine mj_tableOut (tgt := 122) dX2_tellOf_12 (by have u0 := ti_ne s12_0; rw [tl_0] at u0; have u1 := ti_ne s12_1; rw [tl_1] at u1; have u2 := ti_ne s12_2; rw [tl_2] at u2; have u3 := ti_ne s12_3; rw [tl_3] at u3; have u4 := ti_ne s12_4; rw [tl_4] at u4; have u5 := ti_ne s12_5; rw [tl_5] at u5; have u6 := ti_ne s12_6; rw [tl_6] at u6; have u7 := ti_ne s12_7; rw [tl_7] at u7; have u8 := ti_ne s12_8; rw [tl_8] at u8; have u9 := ti_ne s12_9; rw [tl_9] at u9; have u10 := ti_ne s12_10; rw [tl_10] at u10; omega) rfl ?_
  refine mj_aldn dX2_tellOf_122 rfl ?_
  refine mj_getr fkX2_18 dX2_tellOf_123 rfl rfl ?_
  refine mj_ildn dX2_tellOf_126 rfl ?_
  refine mj_iald dX2_tellOf_127 rfl j (by omega) rfl (by decide) ?_
  refine mj_if_ne (tgt := 140) dX2_tellOf_128 rfl (fun h_128 => ?_) (fun h_128 => ?_)
  · refine mj_bipush dX2_tellOf_140 nb_m4 ?_
    refine mj_ret rfl dX2_tellOf_142 ?_
    exact mj_q hQ (by simp [ev_tell, s12_0, s12_1, s12_2, s12_3, s12_4, s12_5, s12_6, s12_7, s12_8, s12_9, s12_10, h_128])
  · refine mj_aldn dX2_tellOf_131 rfl ?_
    refine mj_ildn dX2_tellOf_132 rfl ?_
    refine mj_ildn dX2_tellOf_133 rfl ?_
    refine mj_cvp (K := mX2_tellOfConviction) (c_tellC R x n hn hsz j hj _) ckX2_tellOfConviction lkX2_60 ⟨Nat.le_of_ble_eq_true rfl, Nat.le_of_ble_eq_true rfl⟩ rfl dX2_tellOf_134 rfl rfl (Nat.le_of_ble_eq_true rfl) ?_
    refine mj_goto (tgt := 142) dX2_tellOf_137 rfl ?_
    refine mj_ret rfl dX2_tellOf_142 ?_
    exact mj_q hQ (by simp [ev_tell, s12_0, s12_1, s12_2, s12_3, s12_4, s12_5, s12_6, s12_7, s12_8, s12_9, s12_10, h_128])
set_option maxHeartbeats 1000000 in
theorem c_clearM (R : List mj_S) (x : mj_X) (n : Nat) (hn : n ≤ 41) (hsz : x 11 12 = nI n) (j : Nat) (hj : j < n) : mj_CV mX2_clearMarks (shX ++ R) [.ref 11, .int (nI j)] x (fun y => y = ev_clear x j) := by
  refine mj_startV (ls := [some (.ref 11), some (.int (nI j))]) (by decide) rfl rfl (fun Q hQ => ?_)
  refine mj_aldn dX2_clearMarks_0 rfl ?_
  refine mj_ildn dX2_clearMarks_1 rfl ?_
  refine mj_cvp (K := mX2_isThere) (c_isThere R x n hn hsz (nI j)) ckX2_isThere lkX2_52 ⟨Nat.le_of_ble_eq_true rfl, Nat.le_of_ble_eq_true rfl⟩ rfl dX2_clearMarks_2 rfl rfl (Nat.le_of_ble_eq_true rfl) ?_
  refine mj_if_eq (tgt := 51) dX2_clearMarks_5 rfl (fun h_5 => False.elim (by rw [bi_z] at h_5; simp only [ev_is, decide_eq_false_iff_not] at h_5; exact h_5 ⟨nI_pos' (by omega), nI_lt hj (by omega)⟩)) (fun h_5 => ?_)
  refine mj_aldn dX2_clearMarks_8 rfl ?_
  refine mj_getr fkX2_36 dX2_clearMarks_9 rfl rfl ?_
  refine mj_ildn dX2_clearMarks_12 rfl ?_
  refine mj_iconst dX2_clearMarks_13 ni_0 ?_
  refine mj_iast dX2_clearMarks_14 rfl j (by omega) rfl (by decide) ?_
  refine mj_aldn dX2_clearMarks_15 rfl ?_
  refine mj_getr fkX2_39 dX2_clearMarks_16 rfl rfl ?_
  refine mj_ildn dX2_clearMarks_19 rfl ?_
  refine mj_iconst dX2_clearMarks_20 ni_0 ?_
  refine mj_iast dX2_clearMarks_21 rfl j (by omega) rfl (by decide) ?_
  refine mj_aldn dX2_clearMarks_22 rfl ?_
  refine mj_getr fkX2_42 dX2_clearMarks_23 rfl rfl ?_
  refine mj_ildn dX2_clearMarks_26 rfl ?_
  refine mj_iconst dX2_clearMarks_27 ni_0 ?_
  refine mj_iast dX2_clearMarks_28 rfl j (by omega) rfl (by decide) ?_
  refine mj_aldn dX2_clearMarks_29 rfl ?_
  refine mj_getr fkX2_45 dX2_clearMarks_30 rfl rfl ?_
  refine mj_ildn dX2_clearMarks_33 rfl ?_
  refine mj_aldn dX2_clearMarks_34 rfl ?_
  refine mj_getr fkX2_18 dX2_clearMarks_35 rfl rfl ?_
  refine mj_ildn dX2_clearMarks_38 rfl ?_
  refine mj_iald dX2_clearMarks_39 rfl j (by omega) rfl (by decide) ?_
  refine mj_iconst dX2_clearMarks_40 ni_1 ?_
  refine mj_ic_ne (tgt := 49) dX2_clearMarks_41 rfl (fun h_41 => ?_) (fun h_41 => ?_)
  · have g_41 : ¬ x 14 j = 1 := h_41
    refine mj_iconst dX2_clearMarks_49 ni_0 ?_
    refine mj_iast dX2_clearMarks_50 rfl j (by omega) rfl (by decide) ?_
    refine mj_retv rfl dX2_clearMarks_51 ?_
    exact hQ _ (by unfold ev_clear; simp only [g_41, if_true, if_false])
  · have g_41 : x 14 j = 1 := h_41
    refine mj_bipush dX2_clearMarks_44 nb_m3 ?_
    refine mj_goto (tgt := 50) dX2_clearMarks_46 rfl ?_
    refine mj_iast dX2_clearMarks_50 rfl j (by omega) rfl (by decide) ?_
    refine mj_retv rfl dX2_clearMarks_51 ?_
    exact hQ _ (by unfold ev_clear; simp only [g_41, if_true, if_false])
set_option maxHeartbeats 1000000 in
theorem c_spend (R : List mj_S) (x : mj_X) (n : Nat) (hn : n ≤ 41) (d : Int32) : mj_CV mX2_spend (shX ++ R) [.ref 11, .int d, .int (nI n)] x (fun y => y = ev_spend x d n) := by
  refine mj_startV (ls := [some (.ref 11), some (.int d), some (.int (nI n)), none]) (by decide) rfl rfl (fun Q hQ => ?_)
  have loop : ∀ (k j : Nat), j ≤ n → n < j + k → mj_V mX2_spend (shX ++ R) Q (ev_spend x d j) 2 [some (.ref 11), some (.int d), some (.int (nI n)), some (.int (nI j))] [] := by
    intro k
    induction k with
    | zero => intro j h1 h2; omega
    | succ k ih =>
      intro j h1 h2 
      refine mj_ildn dX2_spend_2 rfl ?_
      refine mj_ildn dX2_spend_3 rfl ?_
      refine mj_ic_ge (tgt := 43) dX2_spend_4 rfl (fun h_4 => ?_) (fun h_4 => ?_)
      · have hj : j = n := by rw [nI_leI (by omega) (by omega)] at h_4; omega
        subst hj
        refine mj_retv rfl dX2_spend_43 ?_
        exact hQ _ rfl
      · have hlt : j < n := by rw [nI_leI (by omega) (by omega)] at h_4; omega
        refine mj_ildn dX2_spend_7 rfl ?_
        refine mj_bipush dX2_spend_8 nb_41 ?_
        refine mj_ic_ge (tgt := 43) dX2_spend_10 rfl (fun h_10 => False.elim (by exact nl_lt (show j < 41 by omega) (by decide) h_10)) (fun h_10 => ?_)
        refine mj_aldn dX2_spend_13 rfl ?_
        refine mj_getr fkX2_11 dX2_spend_14 rfl rfl ?_
        refine mj_ildn dX2_spend_17 rfl ?_
        refine mj_iald dX2_spend_18 rfl j (by omega) rfl (by decide) ?_
        refine mj_ildn dX2_spend_19 rfl ?_
        refine mj_ic_ne (tgt := 37) dX2_spend_20 rfl (fun h_20 => ?_) (fun h_20 => ?_)
        · have g_20 : ¬ x 12 j = d := h_20
          refine mj_inc3 dX2_spend_37 ni_1 rfl ?_
          refine mj_goto (tgt := 2) dX2_spend_40 rfl ?_
          exact mj_xl (ih (j + 1) (by omega) (by omega)) (by first | exact ev_spend_yes g_20 | exact ev_spend_no g_20) (by simp [nI_1])
        · have g_20 : x 12 j = d := h_20
          refine mj_aldn dX2_spend_23 rfl ?_
          refine mj_getr fkX2_39 dX2_spend_24 rfl rfl ?_
          refine mj_ildn dX2_spend_27 rfl ?_
          refine mj_iconst dX2_spend_28 ni_1 ?_
          refine mj_iast dX2_spend_29 rfl j (by omega) rfl (by decide) ?_
          refine mj_aldn dX2_spend_30 rfl ?_
          refine mj_getr fkX2_45 dX2_spend_31 rfl rfl ?_
          refine mj_ildn dX2_spend_34 rfl ?_
          refine mj_iconst dX2_spend_35 ni_0 ?_
          refine mj_iast dX2_spend_36 rfl j (by omega) rfl (by decide) ?_
          refine mj_inc3 dX2_spend_37 ni_1 rfl ?_
          refine mj_goto (tgt := 2) dX2_spend_40 rfl ?_
          exact mj_xl (ih (j + 1) (by omega) (by omega)) (by first | exact ev_spend_yes g_20 | exact ev_spend_no g_20) (by simp [nI_1])
  refine mj_iconst dX2_spend_0 ni_0 ?_
  refine mj_istn3 dX2_spend_1 rfl ?_
  exact mj_xl (loop (n + 1) 0 (by omega) (by omega)) (ev_spend_0 x d).symm rfl
set_option maxHeartbeats 1000000 in
theorem c_weigh (R : List mj_S) (x : mj_X) (n : Nat) (hn : n ≤ 41) (d s w : Int32) : mj_CP mX2_weigh (shX ++ R) [.ref 11, .int d, .int (nI n), .int s, .int w] x (lp_f (ev_wF x d s w) 0 n) := by
  refine mj_startP (ls := [some (.ref 11), some (.int d), some (.int (nI n)), some (.int s), some (.int w), none, none, none]) (by decide) rfl rfl (fun Q hQ => ?_)
  have loop : ∀ (k j : Nat) (w7 : Option Value), j ≤ n → n < j + k → mj_V mX2_weigh (shX ++ R) Q x 6 [some (.ref 11), some (.int d), some (.int (nI n)), some (.int s), some (.int w), some (.int (lp_f (ev_wF x d s w) 0 j)), some (.int (nI j)), w7] [] := by
    intro k
    induction k with
    | zero => intro j w7 h1 h2; omega
    | succ k ih =>
      intro j w7 h1 h2
      refine mj_ild dX2_weigh_6 rfl ?_
      refine mj_ildn dX2_weigh_8 rfl ?_
      refine mj_ic_ge (tgt := 71) dX2_weigh_9 rfl (fun h_9 => ?_) (fun h_9 => ?_)
      · have hj : j = n := by rw [nI_leI (by omega) (by omega)] at h_9; omega
        subst hj
        refine mj_ild dX2_weigh_71 rfl ?_
        refine mj_ret rfl dX2_weigh_73 ?_
        exact mj_q hQ rfl
      · have hlt : j < n := by rw [nI_leI (by omega) (by omega)] at h_9; omega
        refine mj_ild dX2_weigh_12 rfl ?_
        refine mj_bipush dX2_weigh_14 nb_41 ?_
        refine mj_ic_ge (tgt := 71) dX2_weigh_16 rfl (fun h_16 => False.elim (by exact nl_lt (show j < 41 by omega) (by decide) h_16)) (fun h_16 => ?_)
        refine mj_aldn dX2_weigh_19 rfl ?_
        refine mj_getr fkX2_21 dX2_weigh_20 rfl rfl ?_
        refine mj_ild dX2_weigh_23 rfl ?_
        refine mj_iald dX2_weigh_25 rfl j (by omega) rfl (by decide) ?_
        refine mj_ildn dX2_weigh_26 rfl ?_
        refine mj_isub dX2_weigh_27 ?_
        refine mj_ist7 dX2_weigh_28 rfl ?_
        refine mj_aldn dX2_weigh_30 rfl ?_
        refine mj_getr fkX2_11 dX2_weigh_31 rfl rfl ?_
        refine mj_ild dX2_weigh_34 rfl ?_
        refine mj_iald dX2_weigh_36 rfl j (by omega) rfl (by decide) ?_
        refine mj_ildn dX2_weigh_37 rfl ?_
        refine mj_ic_ne (tgt := 65) dX2_weigh_38 rfl (fun h_38 => ?_) (fun h_38 => ?_)
        · refine mj_inc6 dX2_weigh_65 ni_1 rfl ?_
          refine mj_goto (tgt := 6) dX2_weigh_68 rfl ?_
          exact mj_ls (ih (j + 1) (some (.int (x 15 j - s))) (by omega) (by omega)) (by clear ih; simp [lp_f, nI_1, ev_wF] <;> grind)
        · refine mj_ild dX2_weigh_41 rfl ?_
          refine mj_if_lt (tgt := 65) dX2_weigh_43 rfl (fun h_43 => ?_) (fun h_43 => ?_)
          · refine mj_inc6 dX2_weigh_65 ni_1 rfl ?_
            refine mj_goto (tgt := 6) dX2_weigh_68 rfl ?_
            exact mj_ls (ih (j + 1) (some (.int (x 15 j - s))) (by omega) (by omega)) (by clear ih; simp [lp_f, nI_1, ev_wF] <;> grind)
          · refine mj_ild dX2_weigh_46 rfl ?_
            refine mj_ild dX2_weigh_48 rfl ?_
            refine mj_ic_ge (tgt := 65) dX2_weigh_50 rfl (fun h_50 => ?_) (fun h_50 => ?_)
            · refine mj_inc6 dX2_weigh_65 ni_1 rfl ?_
              refine mj_goto (tgt := 6) dX2_weigh_68 rfl ?_
              exact mj_ls (ih (j + 1) (some (.int (x 15 j - s))) (by omega) (by omega)) (by clear ih; simp [lp_f, nI_1, ev_wF] <;> grind)
            · refine mj_ild dX2_weigh_53 rfl ?_
              refine mj_aldn dX2_weigh_55 rfl ?_
              refine mj_getr fkX2_45 dX2_weigh_56 rfl rfl ?_
              refine mj_ild dX2_weigh_59 rfl ?_
              refine mj_iald dX2_weigh_61 rfl j (by omega) rfl (by decide) ?_
              refine mj_iadd dX2_weigh_62 ?_
              refine mj_ist5 dX2_weigh_63 rfl ?_
              refine mj_inc6 dX2_weigh_65 ni_1 rfl ?_
              refine mj_goto (tgt := 6) dX2_weigh_68 rfl ?_
              exact mj_ls (ih (j + 1) (some (.int (x 15 j - s))) (by omega) (by omega)) (by clear ih; simp [lp_f, nI_1, ev_wF] <;> grind)
  refine mj_iconst dX2_weigh_0 ni_0 ?_
  refine mj_ist5 dX2_weigh_1 rfl ?_
  refine mj_iconst dX2_weigh_3 ni_0 ?_
  refine mj_ist6 dX2_weigh_4 rfl ?_
  exact loop (n + 1) 0 _ (by omega) (by omega)
end
section
/-! THE TEXT: reading as a plain function of the letters; cell 1 (length 1, at 2, place 3, why 4), row 2 letters -/
abbrev tx_P : Type := Nat × (Nat → Int32) × (Nat → Int32) × (Nat → Int32) × Nat
def tx_num (pk : Nat → Int32) : Nat → Nat → Int32 → Option Int32
  | 0, _, v => some v
  | f + 1, a, v => if 48 ≤ pk a ∧ pk a ≤ 57 then tx_num pk f (a + 1) (v * 10 + pk a - 48) else none
def tx_rule (pk : Nat → Int32) (i fig : Nat) (low : Int32) (s : tx_P) : Int32 ⊕ tx_P := match tx_num pk fig s.1 0 with
  | none => .inl 1
  | some v => if v < low then .inl 2 else .inr (s.1 + fig, upd s.2.1 i v, s.2.2)
def tx_code (pk : Nat → Int32) (s : tx_P) : Int32 ⊕ tx_P := if 6 ≤ s.2.2.2.2 then .inl 3 else match tx_num pk 1 s.1 0 with
  | none => .inl 1
  | some p => if p < 1 then .inl 2 else match tx_num pk 2 (s.1 + 1) 0 with
    | none => .inl 1
    | some b => .inr (s.1 + 3, s.2.1, upd s.2.2.1 s.2.2.2.2 p, upd s.2.2.2.1 s.2.2.2.2 b, s.2.2.2.2 + 1)
def tx_end (pk : Nat → Int32) (s : tx_P) : Int32 ⊕ tx_P := if pk s.1 = 59 then .inr (s.1 + 1, s.2) else .inl 1
def tx_bind (r : Int32 ⊕ tx_P) (f : tx_P → Int32 ⊕ tx_P) : Int32 ⊕ tx_P := match r with
  | .inl e => .inl e
  | .inr s => f s
def tx_body (pk : Nat → Int32) (c : Int32) (s : tx_P) : Int32 ⊕ tx_P :=
  if c = 98 then tx_rule pk 2 2 1 s else if c = 107 then tx_code pk s else if c = 108 then tx_rule pk 1 2 1 s else if c = 109 then tx_rule pk 3 3 0 s
  else if c = 115 then tx_bind (tx_rule pk 4 3 0 s) (tx_rule pk 5 3 0) else if c = 119 then tx_rule pk 0 3 1 s else .inl 3
def tx_item (pk : Nat → Int32) (s : tx_P) : Int32 ⊕ tx_P := tx_bind (tx_body pk (pk s.1) (s.1 + 1, s.2)) (tx_end pk)
def tx_all (pk : Nat → Int32) (len : Nat) : Nat → tx_P → (Nat × Int32) ⊕ tx_P
  | 0, s => .inr s
  | f + 1, s => if s.1 < len then (match tx_item pk s with
    | .inl r => .inl (s.1, r)
    | .inr s' => tx_all pk len f s') else .inr s
def tx_pk (txt : Nat → Int32) (len : Nat) (a : Nat) : Int32 := if a < len then txt a else 0
theorem tx_num_b {pk : Nat → Int32} : ∀ (f a : Nat) (v z : Int32) (B : Nat), 0 ≤ v.toInt → v.toInt < B → B * 10 ^ f ≤ 1000 → tx_num pk f a v = some z → 0 ≤ z.toInt ∧ z.toInt < (B * 10 ^ f : Nat)
  | 0, a, v, z, B, h0, h1, hB, h => by
    cases h
    exact ⟨h0, by simpa using h1⟩
  | f + 1, a, v, z, B, h0, h1, hB, h => by
    have hp : 1 ≤ 10 ^ f := by have := Nat.pow_le_pow_right (n := 10) (by decide) (Nat.zero_le f); simpa using this
    have e : B * 10 ^ (f + 1) = B * 10 * 10 ^ f := by rw [Nat.pow_succ, Nat.mul_comm (10 ^ f) 10, Nat.mul_assoc]
    have hB2 : B * 10 ≤ 1000 := Nat.le_trans (Nat.le_mul_of_pos_right _ hp) (e ▸ hB)
    rw [tx_num] at h
    split at h
    · next hc =>
      obtain ⟨c1, c2⟩ := hc
      have c1' : 48 ≤ (pk a).toInt := Int32.le_iff_toInt_le.mp c1
      have c2' : (pk a).toInt ≤ 57 := Int32.le_iff_toInt_le.mp c2
      have hv : (v * 10 + pk a - 48).toInt = v.toInt * 10 + (pk a).toInt - 48 := by
        rw [Int32.toInt_sub, Int32.toInt_add, Int32.toInt_mul, tl_10, show (48 : Int32).toInt = 48 from by decide]
        simp only [Int.bmod_def]
        omega
      have := tx_num_b f (a + 1) _ z (B * 10) (by rw [hv]; omega) (by rw [hv]; omega) (e ▸ hB) h
      rw [e]
      exact this
    · cases h
theorem tx_num_le {pk : Nat → Int32} {f a : Nat} {z : Int32} (hf : f ≤ 3) (h : tx_num pk f a 0 = some z) : 0 ≤ z ∧ z.toInt < (10 ^ f : Nat) := by
  have hp : (10 : Nat) ^ f ≤ 10 ^ 3 := Nat.pow_le_pow_right (by decide) hf
  have := tx_num_b f a 0 z 1 (by decide) (by decide) (by omega) h
  rw [Nat.one_mul] at this
  exact ⟨Int32.le_iff_toInt_le.mpr this.1, this.2⟩
theorem up_up (x : mj_X) (k i : Nat) (v w : Int32) : mj_up (mj_up x k i v) k i w = mj_up x k i w := by
  funext c e
  simp only [up_at]
  by_cases h : c = k ∧ e = i <;> simp [h]
theorem up_self {x : mj_X} {k i : Nat} {v : Int32} (h : x k i = v) : mj_up x k i v = x := by
  funext c e
  simp only [up_at]
  by_cases hc : c = k ∧ e = i
  · rw [if_pos hc, hc.1, hc.2]; exact h.symm
  · rw [if_neg hc]
/-- nothing but the reading's own cells is another -/
def tx_fr (x y : mj_X) (c : Nat) : Prop := y 1 1 = x 1 1 ∧ ∀ k, k ≠ 1 → k ≠ c → k ≠ c + 1 → k ≠ c + 2 → k ≠ c + 3 → y k = x k
def tx_S (x y : mj_X) (c : Nat) (pl : Int32) (s : tx_P) : Prop := y 1 2 = nI s.1 ∧ y 1 3 = pl ∧ y 1 4 = 0 ∧ (∀ i, i < 6 → y (c + 1) i = s.2.1 i) ∧ (∀ i, i < s.2.2.2.2 → y (c + 2) i = s.2.2.1 i ∧ y (c + 3) i = s.2.2.2.1 i) ∧ y c 3 = nI s.2.2.2.2 ∧ s.2.2.2.2 ≤ 6 ∧ tx_fr x y c
def tx_E (x y : mj_X) (c : Nat) (pl r : Int32) : Prop := y 1 4 = r ∧ r ≠ 0 ∧ y 1 3 = pl ∧ tx_fr x y c
def tx_R (x y : mj_X) (c : Nat) (pl : Int32) (r : Int32 ⊕ tx_P) : Prop := match r with
  | .inl e => tx_E x y c pl e
  | .inr s => tx_S x y c pl s
set_option maxHeartbeats 1000000 in
theorem c_peek (R : List mj_S) (x : mj_X) (len : Nat) (hlen : len ≤ 200) (hl : x 1 1 = nI len) (y : mj_X) (hy1 : y 1 1 = x 1 1) (hy2 : y 2 = x 2) (a : Nat) (ha : a ≤ 1000) (hat : y 1 2 = nI a) : mj_CP mX4_peek (shX ++ R) [.ref 1] y (tx_pk (x 2) len a) := by
  refine mj_startP (ls := [some (.ref 1)]) (by decide) rfl rfl (fun Q hQ => ?_)
  refine mj_aldn dX4_peek_0 rfl ?_
  refine mj_geti fkX4_24 dX4_peek_1 rfl rfl ?_
  refine mj_if_lt (tgt := 40) dX4_peek_4 rfl (fun h_4 => False.elim (by rw [hat] at h_4; exact nI_pos (by omega) h_4)) (fun h_4 => ?_)
  refine mj_aldn dX4_peek_7 rfl ?_
  refine mj_geti fkX4_24 dX4_peek_8 rfl rfl ?_
  refine mj_aldn dX4_peek_11 rfl ?_
  refine mj_geti fkX4_15 dX4_peek_12 rfl rfl ?_
  refine mj_ic_ge (tgt := 40) dX4_peek_15 rfl (fun h_15 => ?_) (fun h_15 => ?_)
  · rw [hat, hy1, hl, nI_leI (by omega) (by omega)] at h_15
    refine mj_iconst dX4_peek_40 ni_0 ?_
    refine mj_ret rfl dX4_peek_41 ?_
    exact mj_q hQ (by unfold tx_pk; rw [← hy2]; first | rw [if_pos (by omega)] | rw [if_neg (by omega)])
  · rw [hat, hy1, hl, nI_leI (by omega) (by omega)] at h_15
    refine mj_aldn dX4_peek_18 rfl ?_
    refine mj_geti fkX4_24 dX4_peek_19 rfl rfl ?_
    refine mj_sipush dX4_peek_22 ns_200 ?_
    refine mj_ic_ge (tgt := 40) dX4_peek_25 rfl (fun h_25 => False.elim (by rw [hat] at h_25; exact nl_lt (show a < 200 by omega) (by decide) h_25)) (fun h_25 => ?_)
    refine mj_aldn dX4_peek_28 rfl ?_
    refine mj_getr fkX4_9 dX4_peek_29 rfl rfl ?_
    refine mj_aldn dX4_peek_32 rfl ?_
    refine mj_geti fkX4_24 dX4_peek_33 rfl rfl ?_
    refine mj_iald dX4_peek_36 rfl a (by omega) hat (by decide) ?_
    refine mj_goto (tgt := 41) dX4_peek_37 rfl ?_
    refine mj_ret rfl dX4_peek_41 ?_
    exact mj_q hQ (by unfold tx_pk; rw [← hy2]; first | rw [if_pos (by omega)] | rw [if_neg (by omega)])
set_option maxHeartbeats 1000000 in
theorem c_tadd0 (R : List mj_S) (x : mj_X) (hl : x 1 1 = nI 200) (v : Int32) : mj_CP mX4_add (shX ++ R) [.ref 1, .int v] x 0 := by
  refine mj_startP (ls := [some (.ref 1), some (.int v)]) (by decide) rfl rfl (fun Q hQ => ?_)
  refine mj_aldn dX4_add_0 rfl ?_
  refine mj_geti fkX4_15 dX4_add_1 rfl rfl ?_
  refine mj_if_lt (tgt := 17) dX4_add_4 rfl (fun h_4 => False.elim (by rw [hl] at h_4; exact absurd h_4 (by decide))) (fun h_4 => ?_)
  refine mj_aldn dX4_add_7 rfl ?_
  refine mj_geti fkX4_15 dX4_add_8 rfl rfl ?_
  refine mj_sipush dX4_add_11 ns_200 ?_
  refine mj_ic_lt (tgt := 19) dX4_add_14 rfl (fun h_14 => False.elim (by rw [hl] at h_14; exact absurd h_14 (by decide))) (fun h_14 => ?_)
  refine mj_iconst dX4_add_17 ni_0 ?_
  refine mj_retz rfl (by decide) dX4_add_18 ?_
  exact hQ
set_option maxHeartbeats 1000000 in
theorem c_tadd (R : List mj_S) (x : mj_X) (len : Nat) (hlen : len < 200) (hl : x 1 1 = nI len) (v : Int32) : mj_CI mX4_add (shX ++ R) [.ref 1, .int v] x (fun z y => z = 1 ∧ y = mj_up (mj_up x 2 len v) 1 1 (nI (len + 1))) := by
  refine mj_startI (ls := [some (.ref 1), some (.int v)]) (by decide) rfl rfl (fun Q hQ => ?_)
  refine mj_aldn dX4_add_0 rfl ?_
  refine mj_geti fkX4_15 dX4_add_1 rfl rfl ?_
  refine mj_if_lt (tgt := 17) dX4_add_4 rfl (fun h_4 => False.elim (by rw [hl] at h_4; exact nI_pos (by omega) h_4)) (fun h_4 => ?_)
  refine mj_aldn dX4_add_7 rfl ?_
  refine mj_geti fkX4_15 dX4_add_8 rfl rfl ?_
  refine mj_sipush dX4_add_11 ns_200 ?_
  refine mj_ic_lt (tgt := 19) dX4_add_14 rfl (fun h_14 => ?_) (fun h_14 => False.elim (by rw [hl] at h_14; exact h_14 (nI_lt hlen (by decide))))
  refine mj_aldn dX4_add_19 rfl ?_
  refine mj_getr fkX4_9 dX4_add_20 rfl rfl ?_
  refine mj_aldn dX4_add_23 rfl ?_
  refine mj_geti fkX4_15 dX4_add_24 rfl rfl ?_
  refine mj_ildn dX4_add_27 rfl ?_
  refine mj_iast dX4_add_28 rfl len hlen hl (by decide) ?_
  refine mj_aldn dX4_add_29 rfl ?_
  refine mj_dupr dX4_add_30 ?_
  refine mj_geti fkX4_15 dX4_add_31 rfl rfl ?_
  refine mj_iconst dX4_add_34 ni_1 ?_
  refine mj_iadd dX4_add_35 ?_
  refine mj_puti fkX4_15 pkX4_1 dX4_add_36 rfl rfl ?_
  refine mj_iconst dX4_add_39 ni_1 ?_
  refine mj_retz rfl (by decide) dX4_add_40 ?_
  exact hQ _ _ ⟨rfl, by rw [← nI_1, ← hl]; rfl⟩
set_option maxHeartbeats 1000000 in
theorem c_tclear (R : List mj_S) (x : mj_X) : mj_CV mX4_clear (shX ++ R) [.ref 1] x (fun y => y = mj_up x 1 1 0) := by
  refine mj_startV (ls := [some (.ref 1)]) (by decide) rfl rfl (fun Q hQ => ?_)
  refine mj_aldn dX4_clear_0 rfl ?_
  refine mj_iconst dX4_clear_1 ni_0 ?_
  refine mj_puti fkX4_15 pkX4_1 dX4_clear_2 rfl rfl ?_
  refine mj_retv rfl dX4_clear_5 ?_
  exact hQ _ rfl
set_option maxHeartbeats 1000000 in
theorem c_num0 (R : List mj_S) (x : mj_X) (f : Nat) (hf : f ≤ 3) (hw : ¬ x 1 4 = 0) : mj_CP mX4_readNumber (shX ++ R) [.ref 1, .int (nI f)] x 0 := by
  refine mj_startP (ls := [some (.ref 1), some (.int (nI f)), none, none, none]) (by decide) rfl rfl (fun Q hQ => ?_)
  refine mj_iconst dX4_readNumber_0 ni_0 ?_
  refine mj_istn2 dX4_readNumber_1 rfl ?_
  refine mj_iconst dX4_readNumber_2 ni_0 ?_
  refine mj_istn3 dX4_readNumber_3 rfl ?_
  refine mj_ildn dX4_readNumber_4 rfl ?_
  refine mj_ildn dX4_readNumber_5 rfl ?_
  refine mj_ic_ge (tgt := 71) dX4_readNumber_6 rfl (fun h_6 => ?_) (fun h_6 => ?_)
  · refine mj_ildn dX4_readNumber_71 rfl ?_
    refine mj_ret rfl dX4_readNumber_72 ?_
    exact hQ
  · refine mj_aldn dX4_readNumber_9 rfl ?_
    refine mj_geti fkX4_27 dX4_readNumber_10 rfl rfl ?_
    refine mj_if_ne (tgt := 71) dX4_readNumber_13 rfl (fun h_13 => ?_) (fun h_13 => False.elim (by exact hw h_13))
    refine mj_ildn dX4_readNumber_71 rfl ?_
    refine mj_ret rfl dX4_readNumber_72 ?_
    exact hQ
def tx_nQ (y : mj_X) (a f : Nat) (r : Option Int32) (z : Int32) (w : mj_X) : Prop := match r with
  | some v => z = v ∧ w = mj_up y 1 2 (nI (a + f))
  | none => ∃ b : Nat, w = mj_up (mj_up y 1 2 (nI b)) 1 4 1
set_option maxHeartbeats 1000000 in
theorem c_num (R : List mj_S) (x : mj_X) (len : Nat) (hlen : len ≤ 200) (hl : x 1 1 = nI len) (y : mj_X) (hy1 : y 1 1 = x 1 1) (hy2 : y 2 = x 2) (a : Nat) (ha : a ≤ 900) (hat : y 1 2 = nI a) (hw : y 1 4 = 0) (f : Nat) (hf : f ≤ 3) : mj_CI mX4_readNumber (shX ++ R) [.ref 1, .int (nI f)] y (fun z w => tx_nQ y a f (tx_num (tx_pk (x 2) len) f a 0) z w) := by
  refine mj_startI (ls := [some (.ref 1), some (.int (nI f)), none, none, none]) (by decide) rfl rfl (fun Q hQ => ?_)
  have fail : ∀ (b : Nat) (v j w4 : Int32), tx_num (tx_pk (x 2) len) f a 0 = none → mj_V mX4_readNumber (shX ++ R) Q (mj_up (mj_up y 1 2 (nI b)) 1 4 1) 4 [some (.ref 1), some (.int (nI f)), some (.int v), some (.int j), some (.int w4)] [] := by
    intro b v j w4 hn
    refine mj_ildn dX4_readNumber_4 rfl ?_
    refine mj_ildn dX4_readNumber_5 rfl ?_
    refine mj_ic_ge (tgt := 71) dX4_readNumber_6 rfl (fun h_6 => ?_) (fun h_6 => ?_)
    · refine mj_ildn dX4_readNumber_71 rfl ?_
      refine mj_ret rfl dX4_readNumber_72 ?_
      exact hQ _ _ (by rw [hn]; exact ⟨b, rfl⟩)
    · refine mj_aldn dX4_readNumber_9 rfl ?_
      refine mj_geti fkX4_27 dX4_readNumber_10 rfl rfl ?_
      refine mj_if_ne (tgt := 71) dX4_readNumber_13 rfl (fun h_13 => ?_) (fun h_13 => False.elim (by exact (by decide : ¬ (1 : Int32) = 0) h_13))
      refine mj_ildn dX4_readNumber_71 rfl ?_
      refine mj_ret rfl dX4_readNumber_72 ?_
      exact hQ _ _ (by rw [hn]; exact ⟨b, rfl⟩)
  have loop : ∀ (k j : Nat) (v : Int32) (w4 : Option Value), j + k = f → tx_num (tx_pk (x 2) len) k (a + j) v = tx_num (tx_pk (x 2) len) f a 0 → mj_V mX4_readNumber (shX ++ R) Q (mj_up y 1 2 (nI (a + j))) 4 [some (.ref 1), some (.int (nI f)), some (.int v), some (.int (nI j)), w4] [] := by
    intro k
    induction k with
    | zero =>
      intro j v w4 hj hv
      have hj : j = f := by omega
      subst hj
      refine mj_ildn dX4_readNumber_4 rfl ?_
      refine mj_ildn dX4_readNumber_5 rfl ?_
      refine mj_ic_ge (tgt := 71) dX4_readNumber_6 rfl (fun h_6 => ?_) (fun h_6 => False.elim (by exact h_6 (nI_le (Nat.le_refl j) (by omega))))
      refine mj_ildn dX4_readNumber_71 rfl ?_
      refine mj_ret rfl dX4_readNumber_72 ?_
      exact hQ _ _ (by rw [← hv]; exact ⟨rfl, rfl⟩)
    | succ k ih =>
      intro j v w4 hj hv
      have hpk := c_peek R x len hlen hl (mj_up y 1 2 (nI (a + j))) (by rw [← hy1]; rfl) (by rw [← hy2]; rfl) (a + j) (by omega) rfl
      refine mj_ildn dX4_readNumber_4 rfl ?_
      refine mj_ildn dX4_readNumber_5 rfl ?_
      refine mj_ic_ge (tgt := 71) dX4_readNumber_6 rfl (fun h_6 => False.elim (by exact nl_lt (show j < f by omega) (by omega) h_6)) (fun h_6 => ?_)
      refine mj_aldn dX4_readNumber_9 rfl ?_
      refine mj_geti fkX4_27 dX4_readNumber_10 rfl rfl ?_
      refine mj_if_ne (tgt := 71) dX4_readNumber_13 rfl (fun h_13 => False.elim (by exact h_13 hw)) (fun h_13 => ?_)
      refine mj_aldn dX4_readNumber_16 rfl ?_
      refine mj_cvp (K := mX4_peek) (hpk) ckX4_peek lkX4_37 ⟨Nat.le_of_ble_eq_true rfl, Nat.le_of_ble_eq_true rfl⟩ rfl dX4_readNumber_17 rfl rfl (Nat.le_of_ble_eq_true rfl) ?_
      refine mj_ist4 dX4_readNumber_20 rfl ?_
      refine mj_ild dX4_readNumber_22 rfl ?_
      refine mj_bipush dX4_readNumber_24 nb_48 ?_
      refine mj_ic_lt (tgt := 36) dX4_readNumber_26 rfl (fun h_26 => ?_) (fun h_26 => ?_)
      · refine mj_aldn dX4_readNumber_36 rfl ?_
        refine mj_iconst dX4_readNumber_37 ni_1 ?_
        refine mj_puti fkX4_27 pkX4_4 dX4_readNumber_38 rfl rfl ?_
        refine mj_goto (tgt := 65) dX4_readNumber_41 rfl ?_
        refine mj_inc3 dX4_readNumber_65 ni_1 rfl ?_
        refine mj_goto (tgt := 4) dX4_readNumber_68 rfl ?_
        exact fail _ _ _ _ (by rw [← hv, tx_num, if_neg (by grind)])
      · refine mj_ild dX4_readNumber_29 rfl ?_
        refine mj_bipush dX4_readNumber_31 nb_57 ?_
        refine mj_ic_le (tgt := 44) dX4_readNumber_33 rfl (fun h_33 => ?_) (fun h_33 => ?_)
        · refine mj_ildn dX4_readNumber_44 rfl ?_
          refine mj_bipush dX4_readNumber_45 nb_10 ?_
          refine mj_imul dX4_readNumber_47 ?_
          refine mj_ild dX4_readNumber_48 rfl ?_
          refine mj_iadd dX4_readNumber_50 ?_
          refine mj_bipush dX4_readNumber_51 nb_48 ?_
          refine mj_isub dX4_readNumber_53 ?_
          refine mj_istn2 dX4_readNumber_54 rfl ?_
          refine mj_aldn dX4_readNumber_55 rfl ?_
          refine mj_dupr dX4_readNumber_56 ?_
          refine mj_geti fkX4_24 dX4_readNumber_57 rfl rfl ?_
          refine mj_iconst dX4_readNumber_60 ni_1 ?_
          refine mj_iadd dX4_readNumber_61 ?_
          refine mj_puti fkX4_24 pkX4_2 dX4_readNumber_62 rfl rfl ?_
          refine mj_inc3 dX4_readNumber_65 ni_1 rfl ?_
          refine mj_goto (tgt := 4) dX4_readNumber_68 rfl ?_
          have e1 : tx_num (tx_pk (x 2) len) k (a + (j + 1)) (v * 10 + tx_pk (x 2) len (a + j) - 48) = tx_num (tx_pk (x 2) len) f a 0 := by rw [← hv, tx_num, if_pos ⟨by grind, by grind⟩]; rfl
          refine mj_xl (ih (j + 1) _ (some (.int (tx_pk (x 2) len (a + j)))) (by omega) e1) ?_ ?_
          · rw [up_up]
            show mj_up y 1 2 (nI (a + j) + 1) = _
            rw [nI_1]
            rfl
          · rw [nI_1]
        · refine mj_aldn dX4_readNumber_36 rfl ?_
          refine mj_iconst dX4_readNumber_37 ni_1 ?_
          refine mj_puti fkX4_27 pkX4_4 dX4_readNumber_38 rfl rfl ?_
          refine mj_goto (tgt := 65) dX4_readNumber_41 rfl ?_
          refine mj_inc3 dX4_readNumber_65 ni_1 rfl ?_
          refine mj_goto (tgt := 4) dX4_readNumber_68 rfl ?_
          exact fail _ _ _ _ (by rw [← hv, tx_num, if_neg (by grind)])
  refine mj_iconst dX4_readNumber_0 ni_0 ?_
  refine mj_istn2 dX4_readNumber_1 rfl ?_
  refine mj_iconst dX4_readNumber_2 ni_0 ?_
  refine mj_istn3 dX4_readNumber_3 rfl ?_
  exact mj_xl (loop f 0 0 none (by omega) rfl) (by rw [Nat.add_zero]; exact (up_self hat).symm) rfl
end
section
theorem tx_S_at {x y : mj_X} {c : Nat} {pl : Int32} {s : tx_P} (hc : 3 ≤ c) (a : Nat) (h : tx_S x y c pl s) : tx_S x (mj_up y 1 2 (nI a)) c pl (a, s.2) := by
  obtain ⟨h1, h2, h3, h4, h5, h6, h7, h8, h9⟩ := h
  refine ⟨by rw [up_eq, upd_eq], by rw [up_eq, upd_ne (by decide)]; exact h2, by rw [up_eq, upd_ne (by decide)]; exact h3, fun i hi => by rw [up_ne (by omega)]; exact h4 i hi, fun i hi => by rw [up_ne (by omega), up_ne (by omega)]; exact h5 i hi, by rw [up_ne (by omega)]; exact h6, h7, by rw [up_eq, upd_ne (by decide)]; exact h8, fun k a b c d e => by rw [up_ne a]; exact h9 k a b c d e⟩
theorem tx_S_num {x y : mj_X} {c : Nat} {pl : Int32} {s : tx_P} (hc : 3 ≤ c) (i : Nat) (v : Int32) (h : tx_S x y c pl s) : tx_S x (mj_up y (c + 1) i v) c pl (s.1, upd s.2.1 i v, s.2.2) := by
  obtain ⟨h1, h2, h3, h4, h5, h6, h7, h8, h9⟩ := h
  refine ⟨by rw [up_ne (by omega)]; exact h1, by rw [up_ne (by omega)]; exact h2, by rw [up_ne (by omega)]; exact h3, fun j hj => ?_, fun j hj => by rw [up_ne (by omega), up_ne (by omega)]; exact h5 j hj, by rw [up_ne (by omega)]; exact h6, h7, by rw [up_ne (by omega)]; exact h8, fun k a b c d e => by rw [up_ne c]; exact h9 k a b c d e⟩
  rw [up_eq]
  by_cases e : j = i
  · subst e; rw [upd_eq]; exact upd_eq.symm
  · rw [upd_ne e, h4 j hj]; exact (upd_ne e).symm
theorem tx_S_err {x y : mj_X} {c : Nat} {pl : Int32} {s : tx_P} (hc : 3 ≤ c) {r : Int32} (hr : r ≠ 0) (h : tx_S x y c pl s) : tx_E x (mj_up y 1 4 r) c pl r := by
  obtain ⟨h1, h2, h3, h4, h5, h6, h7, h8, h9⟩ := h
  exact ⟨by rw [up_eq, upd_eq], hr, by rw [up_eq, upd_ne (by decide)]; exact h2, by rw [up_eq, upd_ne (by decide)]; exact h8, fun k a b c d e => by rw [up_ne a]; exact h9 k a b c d e⟩
theorem tx_S_code {x y : mj_X} {c : Nat} {pl : Int32} {s : tx_P} (hc : 3 ≤ c) (p b : Int32) (hk : s.2.2.2.2 < 6) (h : tx_S x y c pl s) : tx_S x (mj_up (mj_up (mj_up y (c + 2) s.2.2.2.2 p) (c + 3) s.2.2.2.2 b) c 3 (nI (s.2.2.2.2 + 1))) c pl (s.1, s.2.1, upd s.2.2.1 s.2.2.2.2 p, upd s.2.2.2.1 s.2.2.2.2 b, s.2.2.2.2 + 1) := by
  obtain ⟨h1, h2, h3, h4, h5, h6, h7, h8, h9⟩ := h
  have n1 : ∀ k, k ≠ c → k ≠ c + 2 → k ≠ c + 3 → mj_up (mj_up (mj_up y (c + 2) s.2.2.2.2 p) (c + 3) s.2.2.2.2 b) c 3 (nI (s.2.2.2.2 + 1)) k = y k := fun k a b c => by rw [up_ne a, up_ne c, up_ne b]
  refine ⟨by rw [n1 1 (by omega) (by omega) (by omega)]; exact h1, by rw [n1 1 (by omega) (by omega) (by omega)]; exact h2, by rw [n1 1 (by omega) (by omega) (by omega)]; exact h3, fun j hj => by rw [n1 (c + 1) (by omega) (by omega) (by omega)]; exact h4 j hj, ?_, by rw [up_eq, upd_eq], hk, by rw [n1 1 (by omega) (by omega) (by omega)]; exact h8, fun k a b c d e => by rw [n1 k b d e]; exact h9 k a b c d e⟩
  intro j hj
  dsimp only at hj ⊢
  rw [up_ne (show c + 2 ≠ c by omega), up_ne (show c + 2 ≠ c + 3 by omega), up_eq, up_ne (show c + 3 ≠ c by omega), up_eq, up_ne (show c + 3 ≠ c + 2 by omega)]
  by_cases e : j = s.2.2.2.2
  · rw [e, upd_eq, upd_eq, upd_eq, upd_eq]
    exact ⟨rfl, rfl⟩
  · rw [upd_ne e, upd_ne e, upd_ne e, upd_ne e]
    exact h5 j (by omega)
theorem tx_S_y2 {x y : mj_X} {c : Nat} {pl : Int32} {s : tx_P} (hc : 3 ≤ c) (h : tx_S x y c pl s) : y 1 1 = x 1 1 ∧ y 2 = x 2 := ⟨h.2.2.2.2.2.2.2.1, h.2.2.2.2.2.2.2.2 2 (by decide) (by omega) (by omega) (by omega) (by omega)⟩
theorem tx_ok {pk : Nat → Int32} {i fig a : Nat} {low v : Int32} (hi : (i = 0 ∧ fig = 3 ∧ low = 1) ∨ (i = 1 ∧ fig = 2 ∧ low = 1) ∨ (i = 2 ∧ fig = 2 ∧ low = 1) ∨ (i = 3 ∧ fig = 3 ∧ low = 0) ∨ (i = 4 ∧ fig = 3 ∧ low = 0) ∨ (i = 5 ∧ fig = 3 ∧ low = 0)) (h : tx_num pk fig a 0 = some v) : ru_ok (nI i) v = !decide (v < low) := by
  have hb := tx_num_le (by omega) h
  unfold ru_ok
  rcases hi with ⟨rfl, rfl, rfl⟩ | ⟨rfl, rfl, rfl⟩ | ⟨rfl, rfl, rfl⟩ | ⟨rfl, rfl, rfl⟩ | ⟨rfl, rfl, rfl⟩ | ⟨rfl, rfl, rfl⟩
  all_goals
    obtain ⟨b1, b2⟩ := hb
    rw [nI_clamp (by decide)]
    simp only [mj_st0, mj_st1, List.getD_cons_zero, List.getD_cons_succ]
    rw [Bool.eq_iff_iff]
    simp only [decide_eq_true_eq, Bool.not_eq_true', decide_eq_false_iff_not]
    rw [Int32.le_iff_toInt_le] at b1
    simp only [Int32.le_iff_toInt_le, Int32.lt_iff_toInt_lt]
    simp only [show (nI 0).toInt = 0 from by decide, show (nI 1).toInt = 1 from by decide, show (nI 2).toInt = 2 from by decide, show (nI 3).toInt = 3 from by decide, show (nI 4).toInt = 4 from by decide, show (nI 5).toInt = 5 from by decide, tl_0, tl_1, tl_6, tl_999, tl_99] at b1 b2 ⊢
    omega
set_option maxHeartbeats 1000000 in
theorem c_rule0 (R : List mj_S) (x : mj_X) (c i f : Nat) (hf : f ≤ 3) (hw : ¬ x 1 4 = 0) : mj_CV mX4_readRule (shX ++ R) [.ref 1, .ref c, .int (nI i), .int (nI f)] x (fun w => w = x) := by
  refine mj_startV (ls := [some (.ref 1), some (.ref c), some (.int (nI i)), some (.int (nI f)), none]) (by decide) rfl rfl (fun Q hQ => ?_)
  refine mj_aldn dX4_readRule_0 rfl ?_
  refine mj_ildn dX4_readRule_1 rfl ?_
  refine mj_cvp (K := mX4_readNumber) (c_num0 R x f hf hw) ckX4_readNumber lkX4_51 ⟨Nat.le_of_ble_eq_true rfl, Nat.le_of_ble_eq_true rfl⟩ rfl dX4_readRule_2 rfl rfl (Nat.le_of_ble_eq_true rfl) ?_
  refine mj_ist4 dX4_readRule_5 rfl ?_
  refine mj_aldn dX4_readRule_7 rfl ?_
  refine mj_geti fkX4_27 dX4_readRule_8 rfl rfl ?_
  refine mj_if_eq (tgt := 15) dX4_readRule_11 rfl (fun h_11 => False.elim (by exact hw h_11)) (fun h_11 => ?_)
  refine mj_retv rfl dX4_readRule_14 ?_
  exact hQ _ rfl
set_option maxHeartbeats 1000000 in
theorem c_rule (R : List mj_S) (x : mj_X) (len : Nat) (hlen : len ≤ 200) (hl : x 1 1 = nI len) (c : Nat) (hc : 3 ≤ c) (hs : ru_sh (shX ++ R) c) (y : mj_X) (pl : Int32) (s : tx_P) (hS : tx_S x y c pl s) (ha : s.1 ≤ 800) (i f : Nat) (low : Int32) (hif : (i = 0 ∧ f = 3 ∧ low = 1) ∨ (i = 1 ∧ f = 2 ∧ low = 1) ∨ (i = 2 ∧ f = 2 ∧ low = 1) ∨ (i = 3 ∧ f = 3 ∧ low = 0) ∨ (i = 4 ∧ f = 3 ∧ low = 0) ∨ (i = 5 ∧ f = 3 ∧ low = 0)) : mj_CV mX4_readRule (shX ++ R) [.ref 1, .ref c, .int (nI i), .int (nI f)] y (fun w => tx_R x w c pl (tx_rule (tx_pk (x 2) len) i f low s)) := by
  refine mj_startV (ls := [some (.ref 1), some (.ref c), some (.int (nI i)), some (.int (nI f)), none]) (by decide) rfl rfl (fun Q hQ => ?_)
  have hf : f ≤ 3 := by omega
  have hi : i < 6 := by omega
  have hy := tx_S_y2 hc hS
  refine mj_aldn dX4_readRule_0 rfl ?_
  refine mj_ildn dX4_readRule_1 rfl ?_
  refine mj_cvi (K := mX4_readNumber) (c_num R x len hlen hl y hy.1 hy.2 s.1 (by omega) hS.1 hS.2.2.1 f hf) ckX4_readNumber lkX4_51 ⟨Nat.le_of_ble_eq_true rfl, Nat.le_of_ble_eq_true rfl⟩ rfl dX4_readRule_2 rfl rfl (Nat.le_of_ble_eq_true rfl) (fun z_2 x_2 q_2 => ?_)
  unfold tx_rule at hQ
  cases hn : tx_num (tx_pk (x 2) len) f s.1 0 with
  | none =>
    rw [hn] at q_2 hQ
    obtain ⟨b, rfl⟩ := q_2
    refine mj_ist4 dX4_readRule_5 rfl ?_
    refine mj_aldn dX4_readRule_7 rfl ?_
    refine mj_geti fkX4_27 dX4_readRule_8 rfl rfl ?_
    refine mj_if_eq (tgt := 15) dX4_readRule_11 rfl (fun h_11 => False.elim (by exact (by decide : ¬ (1 : Int32) = 0) h_11)) (fun h_11 => ?_)
    refine mj_retv rfl dX4_readRule_14 ?_
    exact hQ _ (tx_S_err hc (by decide) (tx_S_at hc b hS))
  | some v =>
    rw [hn] at q_2 hQ
    obtain ⟨rfl, rfl⟩ := q_2
    have hS1 := tx_S_at hc (s.1 + f) hS
    have hok := tx_ok hif hn
    refine mj_ist4 dX4_readRule_5 rfl ?_
    refine mj_aldn dX4_readRule_7 rfl ?_
    refine mj_geti fkX4_27 dX4_readRule_8 rfl rfl ?_
    refine mj_if_eq (tgt := 15) dX4_readRule_11 rfl (fun h_11 => ?_) (fun h_11 => False.elim (by exact h_11 hS1.2.2.1))
    refine mj_aldn dX4_readRule_15 rfl ?_
    refine mj_ildn dX4_readRule_16 rfl ?_
    refine mj_ild dX4_readRule_17 rfl ?_
    refine mj_cvp (K := mX5_allows) (c_allows _ c hs _ (nI i) z_2) ckX5_allows lkX4_55 ⟨Nat.le_of_ble_eq_true rfl, Nat.le_of_ble_eq_true rfl⟩ rfl dX4_readRule_19 hs.1 rfl (Nat.le_of_ble_eq_true rfl) ?_
    refine mj_if_eq (tgt := 35) dX4_readRule_22 rfl (fun h_22 => ?_) (fun h_22 => ?_)
    · rw [bi_z, hok] at h_22
      have h_22 : z_2 < low := by simpa using h_22
      refine mj_aldn dX4_readRule_35 rfl ?_
      refine mj_iconst dX4_readRule_36 ni_2 ?_
      refine mj_puti fkX4_27 pkX4_4 dX4_readRule_37 rfl rfl ?_
      refine mj_retv rfl dX4_readRule_40 ?_
      first
      | (dsimp only at hQ; rw [if_pos h_22] at hQ; exact hQ _ (tx_S_err hc (by decide) hS1))
      | (dsimp only at hQ; rw [if_neg h_22] at hQ; rw [q_29]; exact hQ _ (tx_S_num hc i z_2 hS1))
    · rw [bi_nz, hok] at h_22
      have h_22 : ¬ z_2 < low := by simpa using h_22
      refine mj_aldn dX4_readRule_25 rfl ?_
      refine mj_ildn dX4_readRule_26 rfl ?_
      refine mj_ild dX4_readRule_27 rfl ?_
      refine mj_cvv (K := mX5_put) (c_put _ c hs _ i hi z_2) ckX5_put lkX4_59 ⟨Nat.le_of_ble_eq_true rfl, Nat.le_of_ble_eq_true rfl⟩ rfl dX4_readRule_29 hs.1 rfl (Nat.le_of_ble_eq_true rfl) (fun x_29 q_29 => ?_)
      refine mj_goto (tgt := 40) dX4_readRule_32 rfl ?_
      refine mj_retv rfl dX4_readRule_40 ?_
      first
      | (dsimp only at hQ; rw [if_pos h_22] at hQ; exact hQ _ (tx_S_err hc (by decide) hS1))
      | (dsimp only at hQ; rw [if_neg h_22] at hQ; rw [q_29]; exact hQ _ (tx_S_num hc i z_2 hS1))
set_option maxHeartbeats 1000000 in
theorem c_end0 (R : List mj_S) (x : mj_X) (hw : ¬ x 1 4 = 0) : mj_CV mX4_readEnd (shX ++ R) [.ref 1] x (fun w => w = x) := by
  refine mj_startV (ls := [some (.ref 1)]) (by decide) rfl rfl (fun Q hQ => ?_)
  refine mj_aldn dX4_readEnd_0 rfl ?_
  refine mj_geti fkX4_27 dX4_readEnd_1 rfl rfl ?_
  refine mj_if_eq (tgt := 8) dX4_readEnd_4 rfl (fun h_4 => False.elim (by exact hw h_4)) (fun h_4 => ?_)
  refine mj_retv rfl dX4_readEnd_7 ?_
  exact hQ _ rfl
set_option maxHeartbeats 1000000 in
theorem c_end (R : List mj_S) (x : mj_X) (len : Nat) (hlen : len ≤ 200) (hl : x 1 1 = nI len) (c : Nat) (hc : 3 ≤ c) (hs : ru_sh (shX ++ R) c) (y : mj_X) (pl : Int32) (s : tx_P) (hS : tx_S x y c pl s) (ha : s.1 ≤ 900) : mj_CV mX4_readEnd (shX ++ R) [.ref 1] y (fun w => tx_R x w c pl (tx_end (tx_pk (x 2) len) s)) := by
  refine mj_startV (ls := [some (.ref 1)]) (by decide) rfl rfl (fun Q hQ => ?_)
  have hy := tx_S_y2 hc hS
  have e1 : y 1 2 + 1 = nI (s.1 + 1) := by rw [hS.1, nI_1]
  refine mj_aldn dX4_readEnd_0 rfl ?_
  refine mj_geti fkX4_27 dX4_readEnd_1 rfl rfl ?_
  refine mj_if_eq (tgt := 8) dX4_readEnd_4 rfl (fun h_4 => ?_) (fun h_4 => False.elim (by exact h_4 hS.2.2.1))
  refine mj_aldn dX4_readEnd_8 rfl ?_
  refine mj_cvp (K := mX4_peek) (c_peek R x len hlen hl y hy.1 hy.2 s.1 (by omega) hS.1) ckX4_peek lkX4_37 ⟨Nat.le_of_ble_eq_true rfl, Nat.le_of_ble_eq_true rfl⟩ rfl dX4_readEnd_9 rfl rfl (Nat.le_of_ble_eq_true rfl) ?_
  refine mj_bipush dX4_readEnd_12 nb_59 ?_
  refine mj_ic_ne (tgt := 30) dX4_readEnd_14 rfl (fun h_14 => ?_) (fun h_14 => ?_)
  · refine mj_aldn dX4_readEnd_30 rfl ?_
    refine mj_iconst dX4_readEnd_31 ni_1 ?_
    refine mj_puti fkX4_27 pkX4_4 dX4_readEnd_32 rfl rfl ?_
    refine mj_retv rfl dX4_readEnd_35 ?_
    unfold tx_end at hQ
    first
    | (rw [if_neg h_14] at hQ; exact hQ _ (tx_S_err hc (by decide) hS))
    | (rw [if_pos h_14] at hQ; rw [e1]; exact hQ _ (tx_S_at hc (s.1 + 1) hS))
  · refine mj_aldn dX4_readEnd_17 rfl ?_
    refine mj_dupr dX4_readEnd_18 ?_
    refine mj_geti fkX4_24 dX4_readEnd_19 rfl rfl ?_
    refine mj_iconst dX4_readEnd_22 ni_1 ?_
    refine mj_iadd dX4_readEnd_23 ?_
    refine mj_puti fkX4_24 pkX4_2 dX4_readEnd_24 rfl rfl ?_
    refine mj_goto (tgt := 35) dX4_readEnd_27 rfl ?_
    refine mj_retv rfl dX4_readEnd_35 ?_
    unfold tx_end at hQ
    first
    | (rw [if_neg h_14] at hQ; exact hQ _ (tx_S_err hc (by decide) hS))
    | (rw [if_pos h_14] at hQ; rw [e1]; exact hQ _ (tx_S_at hc (s.1 + 1) hS))
set_option maxHeartbeats 1000000 in
theorem c_rcode (R : List mj_S) (x : mj_X) (len : Nat) (hlen : len ≤ 200) (hl : x 1 1 = nI len) (c : Nat) (hc : 3 ≤ c) (hs : ru_sh (shX ++ R) c) (y : mj_X) (pl : Int32) (s : tx_P) (hS : tx_S x y c pl s) (ha : s.1 ≤ 800) : mj_CV mX4_readCode (shX ++ R) [.ref 1, .ref c] y (fun w => tx_R x w c pl (tx_code (tx_pk (x 2) len) s)) := by
  refine mj_startV (ls := [some (.ref 1), some (.ref c), none, none]) (by decide) rfl rfl (fun Q hQ => ?_)
  have hy := tx_S_y2 hc hS
  have hk6 := hS.2.2.2.2.2.2.1
  have hck := hS.2.2.2.2.2.1
  unfold tx_code at hQ
  refine mj_aldn dX4_readCode_0 rfl ?_
  refine mj_geti fkX4_63 dX4_readCode_1 hs.1 rfl ?_
  refine mj_bipush dX4_readCode_4 nb_6 ?_
  refine mj_ic_lt (tgt := 15) dX4_readCode_6 rfl (fun h_6 => ?_) (fun h_6 => ?_)
  · rw [hck] at h_6
    have h_6 : s.2.2.2.2 < 6 := (nI_ltI (b := 6) (by omega) (by decide)).mp h_6
    rw [if_neg (by omega)] at hQ
    refine mj_aldn dX4_readCode_15 rfl ?_
    refine mj_iconst dX4_readCode_16 ni_1 ?_
    refine mj_cvi (K := mX4_readNumber) (c_num R x len hlen hl y hy.1 hy.2 s.1 (by omega) hS.1 hS.2.2.1 1 (by omega)) ckX4_readNumber lkX4_51 ⟨Nat.le_of_ble_eq_true rfl, Nat.le_of_ble_eq_true rfl⟩ rfl dX4_readCode_17 rfl rfl (Nat.le_of_ble_eq_true rfl) (fun z_17 x_17 q_17 => ?_)
    cases hn : tx_num (tx_pk (x 2) len) 1 s.1 0 with
    | none =>
      rw [hn] at q_17 hQ
      obtain ⟨b, rfl⟩ := q_17
      refine mj_istn2 dX4_readCode_20 rfl ?_
      refine mj_aldn dX4_readCode_21 rfl ?_
      refine mj_geti fkX4_27 dX4_readCode_22 rfl rfl ?_
      refine mj_if_ne (tgt := 37) dX4_readCode_25 rfl (fun h_25 => ?_) (fun h_25 => False.elim (by exact (by decide : ¬ (1 : Int32) = 0) h_25))
      refine mj_aldn dX4_readCode_37 rfl ?_
      refine mj_iconst dX4_readCode_38 ni_2 ?_
      refine mj_cvp (K := mX4_readNumber) (c_num0 R _ 2 (by omega) (by decide : ¬ (1 : Int32) = 0)) ckX4_readNumber lkX4_51 ⟨Nat.le_of_ble_eq_true rfl, Nat.le_of_ble_eq_true rfl⟩ rfl dX4_readCode_39 rfl rfl (Nat.le_of_ble_eq_true rfl) ?_
      refine mj_istn3 dX4_readCode_42 rfl ?_
      refine mj_aldn dX4_readCode_43 rfl ?_
      refine mj_geti fkX4_27 dX4_readCode_44 rfl rfl ?_
      refine mj_if_ne (tgt := 56) dX4_readCode_47 rfl (fun h_47 => ?_) (fun h_47 => False.elim (by exact (by decide : ¬ (1 : Int32) = 0) h_47))
      refine mj_retv rfl dX4_readCode_56 ?_
      exact hQ _ (tx_S_err hc (by decide) (tx_S_at hc b hS))
    | some p =>
      rw [hn] at q_17 hQ
      obtain ⟨rfl, rfl⟩ := q_17
      dsimp only at hQ
      have hb := (tx_num_le (by omega) hn).1
      have hS1 := tx_S_at hc (s.1 + 1) hS
      refine mj_istn2 dX4_readCode_20 rfl ?_
      refine mj_aldn dX4_readCode_21 rfl ?_
      refine mj_geti fkX4_27 dX4_readCode_22 rfl rfl ?_
      refine mj_if_ne (tgt := 37) dX4_readCode_25 rfl (fun h_25 => False.elim (by exact h_25 hS1.2.2.1)) (fun h_25 => ?_)
      refine mj_ildn dX4_readCode_28 rfl ?_
      refine mj_if_ne (tgt := 37) dX4_readCode_29 rfl (fun h_29 => ?_) (fun h_29 => ?_)
      · rw [if_neg (by grind)] at hQ
        refine mj_aldn dX4_readCode_37 rfl ?_
        refine mj_iconst dX4_readCode_38 ni_2 ?_
        refine mj_cvi (K := mX4_readNumber) (c_num R x len hlen hl _ (tx_S_y2 hc hS1).1 (tx_S_y2 hc hS1).2 (s.1 + 1) (by omega) hS1.1 hS1.2.2.1 2 (by omega)) ckX4_readNumber lkX4_51 ⟨Nat.le_of_ble_eq_true rfl, Nat.le_of_ble_eq_true rfl⟩ rfl dX4_readCode_39 rfl rfl (Nat.le_of_ble_eq_true rfl) (fun z_39 x_39 q_39 => ?_)
        cases hn2 : tx_num (tx_pk (x 2) len) 2 (s.1 + 1) 0 with
        | none =>
          rw [hn2] at q_39 hQ
          obtain ⟨b, rfl⟩ := q_39
          refine mj_istn3 dX4_readCode_42 rfl ?_
          refine mj_aldn dX4_readCode_43 rfl ?_
          refine mj_geti fkX4_27 dX4_readCode_44 rfl rfl ?_
          refine mj_if_ne (tgt := 56) dX4_readCode_47 rfl (fun h_47 => ?_) (fun h_47 => False.elim (by exact (by decide : ¬ (1 : Int32) = 0) h_47))
          refine mj_retv rfl dX4_readCode_56 ?_
          exact hQ _ (tx_S_err hc (by decide) (tx_S_at hc b hS1))
        | some b =>
          rw [hn2] at q_39 hQ
          obtain ⟨rfl, rfl⟩ := q_39
          have hS2 := tx_S_at hc (s.1 + 1 + 2) hS1
          refine mj_istn3 dX4_readCode_42 rfl ?_
          refine mj_aldn dX4_readCode_43 rfl ?_
          refine mj_geti fkX4_27 dX4_readCode_44 rfl rfl ?_
          refine mj_if_ne (tgt := 56) dX4_readCode_47 rfl (fun h_47 => False.elim (by exact h_47 hS2.2.2.1)) (fun h_47 => ?_)
          refine mj_aldn dX4_readCode_50 rfl ?_
          refine mj_ildn dX4_readCode_51 rfl ?_
          refine mj_ildn dX4_readCode_52 rfl ?_
          refine mj_cvv (K := mX5_addCode) (c_addCode _ c hs _ s.2.2.2.2 h_6 hS2.2.2.2.2.2.1 z_17 z_39) ckX5_addCode lkX4_66 ⟨Nat.le_of_ble_eq_true rfl, Nat.le_of_ble_eq_true rfl⟩ rfl dX4_readCode_53 hs.1 rfl (Nat.le_of_ble_eq_true rfl) (fun x_53 q_53 => ?_)
          refine mj_retv rfl dX4_readCode_56 ?_
          rw [q_53]; exact hQ _ (tx_S_code (s := (s.1 + 3, s.2)) hc z_17 z_39 h_6 hS2)
      · rw [if_pos (by rw [h_29]; decide)] at hQ
        have hE := tx_S_err hc (r := 2) (by decide) hS1
        refine mj_aldn dX4_readCode_32 rfl ?_
        refine mj_iconst dX4_readCode_33 ni_2 ?_
        refine mj_puti fkX4_27 pkX4_4 dX4_readCode_34 rfl rfl ?_
        refine mj_aldn dX4_readCode_37 rfl ?_
        refine mj_iconst dX4_readCode_38 ni_2 ?_
        refine mj_cvp (K := mX4_readNumber) (c_num0 R _ 2 (by omega) (by decide : ¬ (2 : Int32) = 0)) ckX4_readNumber lkX4_51 ⟨Nat.le_of_ble_eq_true rfl, Nat.le_of_ble_eq_true rfl⟩ rfl dX4_readCode_39 rfl rfl (Nat.le_of_ble_eq_true rfl) ?_
        refine mj_istn3 dX4_readCode_42 rfl ?_
        refine mj_aldn dX4_readCode_43 rfl ?_
        refine mj_geti fkX4_27 dX4_readCode_44 rfl rfl ?_
        refine mj_if_ne (tgt := 56) dX4_readCode_47 rfl (fun h_47 => ?_) (fun h_47 => False.elim (by exact (by decide : ¬ (2 : Int32) = 0) h_47))
        refine mj_retv rfl dX4_readCode_56 ?_
        exact hQ _ hE
  · have h_6 : ¬ s.2.2.2.2 < 6 := fun h => h_6 (by rw [hck]; exact nI_lt h (by decide))
    rw [if_pos (by omega)] at hQ
    refine mj_aldn dX4_readCode_9 rfl ?_
    refine mj_iconst dX4_readCode_10 ni_3 ?_
    refine mj_puti fkX4_27 pkX4_4 dX4_readCode_11 rfl rfl ?_
    refine mj_retv rfl dX4_readCode_14 ?_
    exact hQ _ (tx_S_err hc (by decide) hS)
theorem tx_rule_le {pk : Nat → Int32} {i f : Nat} {low : Int32} {s s' : tx_P} (h : tx_rule pk i f low s = .inr s') : s'.1 = s.1 + f ∧ s'.2.2.2.2 = s.2.2.2.2 := by
  unfold tx_rule at h
  split at h
  · cases h
  · split at h
    · cases h
    · cases h; exact ⟨rfl, rfl⟩
theorem tx_code_le {pk : Nat → Int32} {s s' : tx_P} (h : tx_code pk s = .inr s') : s'.1 = s.1 + 3 := by
  unfold tx_code at h
  split at h
  · cases h
  · split at h
    · cases h
    · split at h
      · cases h
      · split at h
        · cases h
        · cases h; rfl
theorem tx_body_le {pk : Nat → Int32} {c : Int32} {s s' : tx_P} (h : tx_body pk c s = .inr s') : s.1 ≤ s'.1 ∧ s'.1 ≤ s.1 + 6 := by
  unfold tx_body at h
  split at h
  · have := tx_rule_le h; omega
  · split at h
    · have := tx_code_le h; omega
    · split at h
      · have := tx_rule_le h; omega
      · split at h
        · have := tx_rule_le h; omega
        · split at h
          · cases hr : tx_rule pk 4 3 0 s with
            | inl e => rw [hr] at h; cases h
            | inr s2 =>
              rw [hr] at h
              have h1 := tx_rule_le hr
              have h2 := tx_rule_le (show tx_rule pk 5 3 0 s2 = .inr s' from h)
              omega
          · split at h
            · have := tx_rule_le h; omega
            · cases h
theorem tx_S_pl {x y : mj_X} {c : Nat} {pl : Int32} {s : tx_P} (hc : 3 ≤ c) (v : Int32) (h : tx_S x y c pl s) : tx_S x (mj_up y 1 3 v) c v s := by
  obtain ⟨h1, h2, h3, h4, h5, h6, h7, h8, h9⟩ := h
  exact ⟨by rw [up_eq, upd_ne (by decide)]; exact h1, by rw [up_eq, upd_eq], by rw [up_eq, upd_ne (by decide)]; exact h3, fun i hi => by rw [up_ne (by omega)]; exact h4 i hi, fun i hi => by rw [up_ne (by omega), up_ne (by omega)]; exact h5 i hi, by rw [up_ne (by omega)]; exact h6, h7, by rw [up_eq, upd_ne (by decide)]; exact h8, fun k a b c d e => by rw [up_ne a]; exact h9 k a b c d e⟩
set_option maxHeartbeats 1000000 in
theorem c_item (R : List mj_S) (x : mj_X) (len : Nat) (hlen : len ≤ 200) (hl : x 1 1 = nI len) (c : Nat) (hc : 3 ≤ c) (hs : ru_sh (shX ++ R) c) (y : mj_X) (pl : Int32) (s : tx_P) (hS : tx_S x y c pl s) (ha : s.1 ≤ 700) : mj_CV mX4_readItem (shX ++ R) [.ref 1, .ref c] y (fun w => tx_R x w c pl (tx_item (tx_pk (x 2) len) s)) := by
  refine mj_startV (ls := [some (.ref 1), some (.ref c), none]) (by decide) rfl rfl (fun Q hQ => ?_)
  have hy := tx_S_y2 hc hS
  have e1 : y 1 2 + 1 = nI (s.1 + 1) := by rw [hS.1, nI_1]
  have hS1 := tx_S_at hc (s.1 + 1) hS
  have fin : ∀ w : mj_X, tx_R x w c pl (tx_body (tx_pk (x 2) len) ((tx_pk (x 2) len) s.1) (s.1 + 1, s.2)) → mj_V mX4_readItem (shX ++ R) Q w 146 [some (.ref 1), some (.ref c), some (.int ((tx_pk (x 2) len) s.1))] [] := by
    intro w hw
    cases hb : tx_body (tx_pk (x 2) len) ((tx_pk (x 2) len) s.1) (s.1 + 1, s.2) with
    | inl e =>
      rw [hb] at hw
      have hw : tx_E x w c pl e := hw
      refine mj_aldn dX4_readItem_146 rfl ?_
      refine mj_cvv (K := mX4_readEnd) (c_end0 R w (by rw [hw.1]; exact hw.2.1)) ckX4_readEnd lkX4_48 ⟨Nat.le_of_ble_eq_true rfl, Nat.le_of_ble_eq_true rfl⟩ rfl dX4_readItem_147 rfl rfl (Nat.le_of_ble_eq_true rfl) (fun x_147 q_147 => ?_)
      refine mj_retv rfl dX4_readItem_150 ?_
      rw [q_147]; refine hQ _ ?_; unfold tx_item; rw [hb]; exact hw
    | inr s2 =>
      rw [hb] at hw
      have hw : tx_S x w c pl s2 := hw
      have hle := tx_body_le hb
      dsimp only at hle
      refine mj_aldn dX4_readItem_146 rfl ?_
      refine mj_cvv (K := mX4_readEnd) (c_end R x len hlen hl c hc hs w pl s2 hw (by omega)) ckX4_readEnd lkX4_48 ⟨Nat.le_of_ble_eq_true rfl, Nat.le_of_ble_eq_true rfl⟩ rfl dX4_readItem_147 rfl rfl (Nat.le_of_ble_eq_true rfl) (fun x_147 q_147 => ?_)
      refine mj_retv rfl dX4_readItem_150 ?_
      refine hQ _ ?_; unfold tx_item; rw [hb]; exact q_147
  refine mj_aldn dX4_readItem_0 rfl ?_
  refine mj_cvp (K := mX4_peek) (c_peek R x len hlen hl y hy.1 hy.2 s.1 (by omega) hS.1) ckX4_peek lkX4_37 ⟨Nat.le_of_ble_eq_true rfl, Nat.le_of_ble_eq_true rfl⟩ rfl dX4_readItem_1 rfl rfl (Nat.le_of_ble_eq_true rfl) ?_
  refine mj_istn2 dX4_readItem_4 rfl ?_
  refine mj_aldn dX4_readItem_5 rfl ?_
  refine mj_dupr dX4_readItem_6 ?_
  refine mj_geti fkX4_24 dX4_readItem_7 rfl rfl ?_
  refine mj_iconst dX4_readItem_10 ni_1 ?_
  refine mj_iadd dX4_readItem_11 ?_
  refine mj_puti fkX4_24 pkX4_2 dX4_readItem_12 rfl rfl ?_
  rw [e1]
  refine mj_ildn dX4_readItem_15 rfl ?_
  by_cases s16_0 : (tx_pk (x 2) len) s.1 = 98
  · refine mj_lookup (off := 80) (tgt := 96) dX4_readItem_16 (by decide) (by rw [s16_0]; decide) rfl ?_
    refine mj_aldn dX4_readItem_96 rfl ?_
    refine mj_aldn dX4_readItem_97 rfl ?_
    refine mj_iconst dX4_readItem_98 ni_2 ?_
    refine mj_iconst dX4_readItem_99 ni_2 ?_
    refine mj_cvv (K := mX4_readRule) (c_rule R x len hlen hl c hc hs _ pl _ hS1 (by dsimp only; omega) 2 2 1 (Or.inr (Or.inr (Or.inl ⟨rfl, rfl, rfl⟩)))) ckX4_readRule lkX4_41 ⟨Nat.le_of_ble_eq_true rfl, Nat.le_of_ble_eq_true rfl⟩ rfl dX4_readItem_100 rfl rfl (Nat.le_of_ble_eq_true rfl) (fun x_100 q_100 => ?_)
    refine mj_goto (tgt := 146) dX4_readItem_103 rfl ?_
    exact fin _ (by simp only [tx_body]; simp only [*, if_true, if_false] <;> exact q_100)
  by_cases s16_1 : (tx_pk (x 2) len) s.1 = 107
  · refine mj_lookup (off := 117) (tgt := 133) dX4_readItem_16 (by decide) (by rw [s16_1]; decide) rfl ?_
    refine mj_aldn dX4_readItem_133 rfl ?_
    refine mj_aldn dX4_readItem_134 rfl ?_
    refine mj_cvv (K := mX4_readCode) (c_rcode R x len hlen hl c hc hs _ pl _ hS1 (by dsimp only; omega)) ckX4_readCode lkX4_45 ⟨Nat.le_of_ble_eq_true rfl, Nat.le_of_ble_eq_true rfl⟩ rfl dX4_readItem_135 rfl rfl (Nat.le_of_ble_eq_true rfl) (fun x_135 q_135 => ?_)
    refine mj_goto (tgt := 146) dX4_readItem_138 rfl ?_
    exact fin _ (by simp only [tx_body]; simp only [*, if_true, if_false] <;> exact q_135)
  by_cases s16_2 : (tx_pk (x 2) len) s.1 = 108
  · refine mj_lookup (off := 70) (tgt := 86) dX4_readItem_16 (by decide) (by rw [s16_2]; decide) rfl ?_
    refine mj_aldn dX4_readItem_86 rfl ?_
    refine mj_aldn dX4_readItem_87 rfl ?_
    refine mj_iconst dX4_readItem_88 ni_1 ?_
    refine mj_iconst dX4_readItem_89 ni_2 ?_
    refine mj_cvv (K := mX4_readRule) (c_rule R x len hlen hl c hc hs _ pl _ hS1 (by dsimp only; omega) 1 2 1 (Or.inr (Or.inl ⟨rfl, rfl, rfl⟩))) ckX4_readRule lkX4_41 ⟨Nat.le_of_ble_eq_true rfl, Nat.le_of_ble_eq_true rfl⟩ rfl dX4_readItem_90 rfl rfl (Nat.le_of_ble_eq_true rfl) (fun x_90 q_90 => ?_)
    refine mj_goto (tgt := 146) dX4_readItem_93 rfl ?_
    exact fin _ (by simp only [tx_body]; simp only [*, if_true, if_false] <;> exact q_90)
  by_cases s16_3 : (tx_pk (x 2) len) s.1 = 109
  · refine mj_lookup (off := 90) (tgt := 106) dX4_readItem_16 (by decide) (by rw [s16_3]; decide) rfl ?_
    refine mj_aldn dX4_readItem_106 rfl ?_
    refine mj_aldn dX4_readItem_107 rfl ?_
    refine mj_iconst dX4_readItem_108 ni_3 ?_
    refine mj_iconst dX4_readItem_109 ni_3 ?_
    refine mj_cvv (K := mX4_readRule) (c_rule R x len hlen hl c hc hs _ pl _ hS1 (by dsimp only; omega) 3 3 0 (Or.inr (Or.inr (Or.inr (Or.inl ⟨rfl, rfl, rfl⟩))))) ckX4_readRule lkX4_41 ⟨Nat.le_of_ble_eq_true rfl, Nat.le_of_ble_eq_true rfl⟩ rfl dX4_readItem_110 rfl rfl (Nat.le_of_ble_eq_true rfl) (fun x_110 q_110 => ?_)
    refine mj_goto (tgt := 146) dX4_readItem_113 rfl ?_
    exact fin _ (by simp only [tx_body]; simp only [*, if_true, if_false] <;> exact q_110)
  by_cases s16_4 : (tx_pk (x 2) len) s.1 = 115
  · refine mj_lookup (off := 100) (tgt := 116) dX4_readItem_16 (by decide) (by rw [s16_4]; decide) rfl ?_
    refine mj_aldn dX4_readItem_116 rfl ?_
    refine mj_aldn dX4_readItem_117 rfl ?_
    refine mj_iconst dX4_readItem_118 ni_4 ?_
    refine mj_iconst dX4_readItem_119 ni_3 ?_
    refine mj_cvv (K := mX4_readRule) (c_rule R x len hlen hl c hc hs _ pl _ hS1 (by dsimp only; omega) 4 3 0 (Or.inr (Or.inr (Or.inr (Or.inr (Or.inl ⟨rfl, rfl, rfl⟩)))))) ckX4_readRule lkX4_41 ⟨Nat.le_of_ble_eq_true rfl, Nat.le_of_ble_eq_true rfl⟩ rfl dX4_readItem_120 rfl rfl (Nat.le_of_ble_eq_true rfl) (fun x_120 q_120 => ?_)
    have e5 : tx_body (tx_pk (x 2) len) ((tx_pk (x 2) len) s.1) (s.1 + 1, s.2) = tx_bind (tx_rule (tx_pk (x 2) len) 4 3 0 (s.1 + 1, s.2)) (tx_rule (tx_pk (x 2) len) 5 3 0) := by simp only [tx_body]; simp [s16_0, s16_1, s16_2, s16_3, s16_4]
    cases hr : tx_rule (tx_pk (x 2) len) 4 3 0 (s.1 + 1, s.2) with
    | inl e =>
      rw [hr] at q_120
      have q_120 : tx_E x x_120 c pl e := q_120
      refine mj_aldn dX4_readItem_123 rfl ?_
      refine mj_aldn dX4_readItem_124 rfl ?_
      refine mj_iconst dX4_readItem_125 ni_5 ?_
      refine mj_iconst dX4_readItem_126 ni_3 ?_
      refine mj_cvv (K := mX4_readRule) (c_rule0 R x_120 c 5 3 (by omega) (by rw [q_120.1]; exact q_120.2.1)) ckX4_readRule lkX4_41 ⟨Nat.le_of_ble_eq_true rfl, Nat.le_of_ble_eq_true rfl⟩ rfl dX4_readItem_127 rfl rfl (Nat.le_of_ble_eq_true rfl) (fun x_127 q_127 => ?_)
      refine mj_goto (tgt := 146) dX4_readItem_130 rfl ?_
      rw [q_127]; exact fin _ (by rw [e5, hr]; exact q_120)
    | inr s2 =>
      rw [hr] at q_120
      have q_120 : tx_S x x_120 c pl s2 := q_120
      have hle := tx_rule_le hr
      dsimp only at hle
      refine mj_aldn dX4_readItem_123 rfl ?_
      refine mj_aldn dX4_readItem_124 rfl ?_
      refine mj_iconst dX4_readItem_125 ni_5 ?_
      refine mj_iconst dX4_readItem_126 ni_3 ?_
      refine mj_cvv (K := mX4_readRule) (c_rule R x len hlen hl c hc hs _ pl s2 q_120 (by omega) 5 3 0 (Or.inr (Or.inr (Or.inr (Or.inr (Or.inr ⟨rfl, rfl, rfl⟩)))))) ckX4_readRule lkX4_41 ⟨Nat.le_of_ble_eq_true rfl, Nat.le_of_ble_eq_true rfl⟩ rfl dX4_readItem_127 rfl rfl (Nat.le_of_ble_eq_true rfl) (fun x_127 q_127 => ?_)
      refine mj_goto (tgt := 146) dX4_readItem_130 rfl ?_
      exact fin _ (by rw [e5, hr]; exact q_127)
  by_cases s16_5 : (tx_pk (x 2) len) s.1 = 119
  · refine mj_lookup (off := 60) (tgt := 76) dX4_readItem_16 (by decide) (by rw [s16_5]; decide) rfl ?_
    refine mj_aldn dX4_readItem_76 rfl ?_
    refine mj_aldn dX4_readItem_77 rfl ?_
    refine mj_iconst dX4_readItem_78 ni_0 ?_
    refine mj_iconst dX4_readItem_79 ni_3 ?_
    refine mj_cvv (K := mX4_readRule) (c_rule R x len hlen hl c hc hs _ pl _ hS1 (by dsimp only; omega) 0 3 1 (Or.inl ⟨rfl, rfl, rfl⟩)) ckX4_readRule lkX4_41 ⟨Nat.le_of_ble_eq_true rfl, Nat.le_of_ble_eq_true rfl⟩ rfl dX4_readItem_80 rfl rfl (Nat.le_of_ble_eq_true rfl) (fun x_80 q_80 => ?_)
    refine mj_goto (tgt := 146) dX4_readItem_83 rfl ?_
    exact fin _ (by simp only [tx_body]; simp only [*, if_true, if_false] <;> exact q_80)
  refine mj_lookup (off := 125) (tgt := 141) dX4_readItem_16 (by decide) (by rw [lv_osw s16_0 (a := 98) (by decide)]; rw [lv_osw s16_1 (a := 107) (by decide)]; rw [lv_osw s16_2 (a := 108) (by decide)]; rw [lv_osw s16_3 (a := 109) (by decide)]; rw [lv_osw s16_4 (a := 115) (by decide)]; rw [lv_osw s16_5 (a := 119) (by decide)]; rfl) rfl ?_
  refine mj_aldn dX4_readItem_141 rfl ?_
  refine mj_iconst dX4_readItem_142 ni_3 ?_
  refine mj_puti fkX4_27 pkX4_4 dX4_readItem_143 rfl rfl ?_
  exact fin _ (by simp only [tx_body]; simp only [*, if_true, if_false] <;> exact (tx_S_err hc (by decide) hS1))
def tx_in : tx_P := (0, mj_st2, fun _ => 0, fun _ => 0, 0)
/-- behind the reading of the whole text into the rules c -/
def tx_A (x y : mj_X) (c : Nat) (r : (Nat × Int32) ⊕ tx_P) : Prop := match r with
  | .inl e => tx_E x y c (nI e.1) e.2
  | .inr s => ∃ pl, tx_S x y c pl s
set_option maxHeartbeats 1000000 in
theorem c_into (R : List mj_S) (x : mj_X) (len : Nat) (hlen : len ≤ 200) (hl : x 1 1 = nI len) (c : Nat) (hc : 3 ≤ c) (hs : ru_sh (shX ++ R) c) : mj_CV mX4_readInto (shX ++ R) [.ref 1, .ref c] x (fun w => tx_A x w c (tx_all (tx_pk (x 2) len) len 200 tx_in)) := by
  refine mj_startV (ls := [some (.ref 1), some (.ref c), none]) (by decide) rfl rfl (fun Q hQ => ?_)
  have fail : ∀ (w : mj_X) (i : Int32) (a : Nat) (e : Int32), tx_E x w c (nI a) e → tx_all (tx_pk (x 2) len) len 200 tx_in = .inl (a, e) → mj_V mX4_readInto (shX ++ R) Q w 16 [some (.ref 1), some (.ref c), some (.int i)] [] := by
    intro w i a e hw hr
    refine mj_ildn dX4_readInto_16 rfl ?_
    refine mj_sipush dX4_readInto_17 ns_200 ?_
    refine mj_ic_ge (tgt := 60) dX4_readInto_20 rfl (fun h_20 => ?_) (fun h_20 => ?_)
    · refine mj_retv rfl dX4_readInto_60 ?_
      exact hQ _ (by rw [hr]; exact hw)
    · refine mj_aldn dX4_readInto_23 rfl ?_
      refine mj_geti fkX4_24 dX4_readInto_24 rfl rfl ?_
      refine mj_aldn dX4_readInto_27 rfl ?_
      refine mj_geti fkX4_15 dX4_readInto_28 rfl rfl ?_
      refine mj_ic_ge (tgt := 60) dX4_readInto_31 rfl (fun h_31 => ?_) (fun h_31 => ?_)
      · refine mj_retv rfl dX4_readInto_60 ?_
        exact hQ _ (by rw [hr]; exact hw)
      · refine mj_aldn dX4_readInto_34 rfl ?_
        refine mj_geti fkX4_27 dX4_readInto_35 rfl rfl ?_
        refine mj_if_ne (tgt := 60) dX4_readInto_38 rfl (fun h_38 => ?_) (fun h_38 => False.elim (by rw [hw.1] at h_38; exact hw.2.1 h_38))
        refine mj_retv rfl dX4_readInto_60 ?_
        exact hQ _ (by rw [hr]; exact hw)
  have loop : ∀ (k j : Nat) (y : mj_X) (pl : Int32) (s : tx_P), j + k = 200 → s.1 ≤ 900 → tx_S x y c pl s → tx_all (tx_pk (x 2) len) len k s = tx_all (tx_pk (x 2) len) len 200 tx_in → mj_V mX4_readInto (shX ++ R) Q y 16 [some (.ref 1), some (.ref c), some (.int (nI j))] [] := by
    intro k
    induction k with
    | zero =>
      intro j y pl s hj h9 hS hr
      have hj : j = 200 := by omega
      subst hj
      refine mj_ildn dX4_readInto_16 rfl ?_
      refine mj_sipush dX4_readInto_17 ns_200 ?_
      refine mj_ic_ge (tgt := 60) dX4_readInto_20 rfl (fun h_20 => ?_) (fun h_20 => False.elim (by exact h_20 (by decide)))
      refine mj_retv rfl dX4_readInto_60 ?_
      exact hQ _ (by rw [← hr]; exact ⟨pl, hS⟩)
    | succ k ih =>
      intro j y pl s hj h9 hS hr
      have hy := tx_S_y2 hc hS
      refine mj_ildn dX4_readInto_16 rfl ?_
      refine mj_sipush dX4_readInto_17 ns_200 ?_
      refine mj_ic_ge (tgt := 60) dX4_readInto_20 rfl (fun h_20 => False.elim (by exact nl_lt (show j < 200 by omega) (by decide) h_20)) (fun h_20 => ?_)
      refine mj_aldn dX4_readInto_23 rfl ?_
      refine mj_geti fkX4_24 dX4_readInto_24 rfl rfl ?_
      refine mj_aldn dX4_readInto_27 rfl ?_
      refine mj_geti fkX4_15 dX4_readInto_28 rfl rfl ?_
      refine mj_ic_ge (tgt := 60) dX4_readInto_31 rfl (fun h_31 => ?_) (fun h_31 => ?_)
      · rw [hS.1, hy.1, hl, nI_leI (by omega) (by omega)] at h_31
        refine mj_retv rfl dX4_readInto_60 ?_
        exact hQ _ (by rw [← hr, tx_all, if_neg (by omega)]; exact ⟨pl, hS⟩)
      · rw [hS.1, hy.1, hl, nI_leI (by omega) (by omega)] at h_31
        refine mj_aldn dX4_readInto_34 rfl ?_
        refine mj_geti fkX4_27 dX4_readInto_35 rfl rfl ?_
        refine mj_if_ne (tgt := 60) dX4_readInto_38 rfl (fun h_38 => False.elim (by exact h_38 hS.2.2.1)) (fun h_38 => ?_)
        refine mj_aldn dX4_readInto_41 rfl ?_
        refine mj_aldn dX4_readInto_42 rfl ?_
        refine mj_geti fkX4_24 dX4_readInto_43 rfl rfl ?_
        refine mj_puti fkX4_30 pkX4_3 dX4_readInto_46 rfl rfl ?_
        rw [hS.1]
        refine mj_aldn dX4_readInto_49 rfl ?_
        refine mj_aldn dX4_readInto_50 rfl ?_
        refine mj_cvv (K := mX4_readItem) (c_item R x len hlen hl c hc hs _ _ s (tx_S_pl hc (nI s.1) hS) (by omega)) ckX4_readItem lkX4_33 ⟨Nat.le_of_ble_eq_true rfl, Nat.le_of_ble_eq_true rfl⟩ rfl dX4_readInto_51 rfl rfl (Nat.le_of_ble_eq_true rfl) (fun x_51 q_51 => ?_)
        refine mj_inc2 dX4_readInto_54 ni_1 rfl ?_
        refine mj_goto (tgt := 16) dX4_readInto_57 rfl ?_
        rw [tx_all, if_pos (show s.1 < len by omega)] at hr
        cases hit : tx_item (tx_pk (x 2) len) s with
        | inl e =>
          rw [hit] at q_51 hr
          exact fail _ _ s.1 e q_51 hr.symm
        | inr s2 =>
          rw [hit] at q_51 hr
          have h99 : s2.1 ≤ 900 := by
            unfold tx_item at hit
            cases hb : tx_body (tx_pk (x 2) len) ((tx_pk (x 2) len) s.1) (s.1 + 1, s.2) with
            | inl e => rw [hb] at hit; cases hit
            | inr s3 =>
              rw [hb] at hit
              have h1 := tx_body_le hb
              have hit : tx_end (tx_pk (x 2) len) s3 = .inr s2 := hit
              unfold tx_end at hit
              split at hit
              · cases hit
                dsimp only at h1 ⊢
                omega
              · cases hit
          exact mj_ls (ih (j + 1) _ _ s2 (by omega) h99 q_51 hr) (by rw [nI_1])
  refine mj_aldn dX4_readInto_0 rfl ?_
  refine mj_cvv (K := mX5_reset) (c_reset _ c hs x) ckX5_reset lkX4_19 ⟨Nat.le_of_ble_eq_true rfl, Nat.le_of_ble_eq_true rfl⟩ rfl dX4_readInto_1 hs.1 rfl (Nat.le_of_ble_eq_true rfl) (fun x_1 q_1 => ?_)
  refine mj_aldn dX4_readInto_4 rfl ?_
  refine mj_iconst dX4_readInto_5 ni_0 ?_
  refine mj_puti fkX4_24 pkX4_2 dX4_readInto_6 rfl rfl ?_
  refine mj_aldn dX4_readInto_9 rfl ?_
  refine mj_iconst dX4_readInto_10 ni_0 ?_
  refine mj_puti fkX4_27 pkX4_4 dX4_readInto_11 rfl rfl ?_
  refine mj_iconst dX4_readInto_14 ni_0 ?_
  refine mj_istn2 dX4_readInto_15 rfl ?_
  refine loop 200 0 _ (x_1 1 3) tx_in (by omega) (by decide) ⟨rfl, rfl, rfl, fun i hi => ?_, fun i hi => absurd hi (Nat.not_lt_zero i), ?_, by decide, ?_, fun k a b d e f => ?_⟩ rfl
  · rw [up_ne (by omega), up_ne (by omega)]; exact q_1.1.1 i hi
  · rw [up_ne (by omega), up_ne (by omega)]; exact q_1.2
  · rw [up_eq, upd_ne (by decide), up_eq, upd_ne (by decide), q_1.1.2 1 (by omega) (by omega)]
  · rw [up_ne a, up_ne a]; exact q_1.1.2 k b d
end
section
/-! RECKONER: cell 32 (soFar at 3); rules 3 (rows 4, 5, 6), events 11, bans 24 -/
def bnN (x : mj_X) : Nat := (x 24 7).toNatClampNeg
theorem bnN_eq {x : mj_X} {n : Nat} (hn : n ≤ 82) (h : x 24 7 = nI n) : bnN x = n := by unfold bnN; rw [h]; exact nI_clamp (by omega)
def hv_st (x : mj_X) (j : Nat) : Int32 := if x 14 j = 0 then x 15 j - x 4 0 + 1 else x 13 j + 1
def hv_w (x : mj_X) (d s : Int32) (sf : Nat) : Int32 := lp_f (ev_wF x d s (x 4 0)) 0 sf
def hv_F (x : mj_X) (d day : Int32) (sf j : Nat) (a : Int32) : Int32 := if x 12 j = d ∧ day - x 4 0 + 1 < hv_st x j ∧ hv_st x j ≤ day then (if a < hv_w x d (hv_st x j) sf then hv_w x d (hv_st x j) sf else a) else a
def hv (x : mj_X) (d day : Int32) (sf : Nat) : Int32 := lp_f (hv_F x d day sf) (hv_w x d (day - x 4 0 + 1) sf) sf
def rc_tm (x : mj_X) (d t : Int32) : Int32 := if lp_f (bn_greatF x d (t - x 4 3)) 0 (bnN x) = 0 then 1 else if lp_f (bn_greatF x d (t - x 4 3)) 0 (bnN x) = 1 then 2 else 4
def rc_fd (x : mj_X) (d t : Int32) : Int32 := if t < lp_f (bn_lateF x d) (-1) (bnN x) + 1 then lp_f (bn_lateF x d) (-1) (bnN x) + 1 else t
def rc_great (x : mj_X) (d : Int32) (e sf : Nat) (t : Int32) : mj_X := ev_spend (bn_add x (bnN x) d (rc_fd x d t) (rc_tm x d t * x 4 2) (nI e) t 1) d sf
def rc_dbl (x : mj_X) (e : Nat) : Bool := lp_any (bn_has x (x 12 e) (x 15 e)) (bnN x)
def rc_c1 (x : mj_X) (e : Nat) : mj_X := mj_up (mj_up x 20 e (bi (rc_dbl x e))) 23 e (if rc_dbl x e = true then 2 * x 17 e else x 17 e)
def rc_own (x : mj_X) (e : Nat) : Int32 := x 6 (x 16 e).toNatClampNeg
def rc_c2 (x : mj_X) (e : Nat) : mj_X := if 0 < rc_own x e then bn_add (rc_c1 x e) (bnN x) (x 12 e) (x 13 e) (rc_own x e) (nI e) (x 13 e) 0 else rc_c1 x e
def rc_conv (x : mj_X) (e : Nat) : mj_X := if x 18 e = 0 ∧ x 4 1 ≤ hv (rc_c2 x e) (x 12 e) (x 15 e) (e + 1) then rc_great (rc_c2 x e) (x 12 e) e (e + 1) (x 13 e) else rc_c2 x e
def rc_sh (x : mj_X) (e : Nat) : Int32 := (lp_f (bn_shF x (x 12 e) (x 13 e)) (-1, x 13 e) (bnN x)).1
def rc_long (x : mj_X) (e : Nat) : mj_X := if rc_sh x e < 0 then mj_up x 22 e 1 else bn_short x (rc_sh x e).toNatClampNeg (x 13 e)
def rc_next (x : mj_X) (e : Nat) : mj_X := if x 14 e = 2 then rc_long (ev_clear (mj_up x 32 3 (nI (e + 1))) e) e else if x 14 e = 0 ∧ x 19 e = 0 then rc_conv (ev_clear (mj_up x 32 3 (nI (e + 1))) e) e else ev_clear (mj_up x 32 3 (nI (e + 1))) e
def rc_it (x : mj_X) : Nat → mj_X
  | 0 => mj_up (mj_up x 24 7 0) 32 3 0
  | e + 1 => rc_next (rc_it x e) e
theorem sh_val (x : mj_X) (d t : Int32) : ∀ n : Nat, (lp_f (bn_shF x d t) (-1, t) n).1 = -1 ∨ ∃ j, j < n ∧ (lp_f (bn_shF x d t) (-1, t) n).1 = nI j
  | 0 => Or.inl rfl
  | n + 1 => by
    rw [lp_f]
    unfold bn_shF
    split
    · exact Or.inr ⟨n, by omega, rfl⟩
    · rcases sh_val x d t n with h | ⟨j, h1, h2⟩
      · exact Or.inl h
      · exact Or.inr ⟨j, by omega, h2⟩
theorem c_get3 (R : List mj_S) (x : mj_X) (j : Nat) (hj : j < 6) : mj_CP mX5_get (shX ++ R) [.ref 3, .int (nI j)] x (x 4 j) := c_get _ 3 (ru_sh3 R) x j hj
set_option maxHeartbeats 1000000 in
theorem c_hv (R : List mj_S) (x : mj_X) (sf : Nat) (hn : sf ≤ 41) (hsf : x 32 3 = nI sf) (d day : Int32) : mj_CP mX3_heaviest (shX ++ R) [.ref 32, .int d, .int day] x (hv x d day sf) := by
  refine mj_startP (ls := [some (.ref 32), some (.int d), some (.int day), none, none, none, none, none]) (by decide) rfl rfl (fun Q hQ => ?_)
  have loop : ∀ (k j : Nat) (w7 : Option Value), j ≤ sf → sf < j + k → mj_V mX3_heaviest (shX ++ R) Q x 36 [some (.ref 32), some (.int d), some (.int day), some (.int (x 4 0)), some (.int (day - x 4 0 + 1)), some (.int (lp_f (hv_F x d day sf) (hv_w x d (day - x 4 0 + 1) sf) j)), some (.int (nI j)), w7] [] := by
    intro k
    induction k with
    | zero => intro j w7 h1 h2; omega
    | succ k ih =>
      intro j w7 h1 h2
      refine mj_ild dX3_heaviest_36 rfl ?_
      refine mj_aldn dX3_heaviest_38 rfl ?_
      refine mj_geti fkX3_29 dX3_heaviest_39 rfl rfl ?_
      refine mj_ic_ge (tgt := 151) dX3_heaviest_42 rfl (fun h_42 => ?_) (fun h_42 => ?_)
      · have hj : j = sf := by rw [hsf, nI_leI (by omega) (by omega)] at h_42; omega
        subst hj
        refine mj_ild dX3_heaviest_151 rfl ?_
        refine mj_ret rfl dX3_heaviest_153 ?_
        exact mj_q hQ rfl
      · have hlt : j < sf := by rw [hsf, nI_leI (by omega) (by omega)] at h_42; omega
        refine mj_ild dX3_heaviest_45 rfl ?_
        refine mj_bipush dX3_heaviest_47 nb_41 ?_
        refine mj_ic_ge (tgt := 151) dX3_heaviest_49 rfl (fun h_49 => False.elim (by exact nl_lt (show j < 41 by omega) (by decide) h_49)) (fun h_49 => ?_)
        refine mj_aldn dX3_heaviest_52 rfl ?_
        refine mj_getr fkX3_15 dX3_heaviest_53 rfl rfl ?_
        refine mj_getr fkX3_46 dX3_heaviest_56 rfl rfl ?_
        refine mj_ild dX3_heaviest_59 rfl ?_
        refine mj_iald dX3_heaviest_61 rfl j (by omega) rfl (by decide) ?_
        refine mj_if_ne (tgt := 82) dX3_heaviest_62 rfl (fun h_62 => ?_) (fun h_62 => ?_)
        · have e9 : hv_st x j = x 13 j + 1 := by unfold hv_st; rw [if_neg h_62]
          refine mj_aldn dX3_heaviest_82 rfl ?_
          refine mj_getr fkX3_15 dX3_heaviest_83 rfl rfl ?_
          refine mj_getr fkX3_59 dX3_heaviest_86 rfl rfl ?_
          refine mj_ild dX3_heaviest_89 rfl ?_
          refine mj_iald dX3_heaviest_91 rfl j (by omega) rfl (by decide) ?_
          refine mj_iconst dX3_heaviest_92 ni_1 ?_
          refine mj_iadd dX3_heaviest_93 ?_
          rw [← e9]
          refine mj_ist7 dX3_heaviest_94 rfl ?_
          refine mj_aldn dX3_heaviest_96 rfl ?_
          refine mj_getr fkX3_15 dX3_heaviest_97 rfl rfl ?_
          refine mj_getr fkX3_62 dX3_heaviest_100 rfl rfl ?_
          refine mj_ild dX3_heaviest_103 rfl ?_
          refine mj_iald dX3_heaviest_105 rfl j (by omega) rfl (by decide) ?_
          refine mj_ildn dX3_heaviest_106 rfl ?_
          refine mj_ic_ne (tgt := 145) dX3_heaviest_107 rfl (fun h_107 => ?_) (fun h_107 => ?_)
          · refine mj_inc6 dX3_heaviest_145 ni_1 rfl ?_
            refine mj_goto (tgt := 36) dX3_heaviest_148 rfl ?_
            exact mj_ls (ih (j + 1) (some (.int (hv_st x j))) (by omega) (by omega)) (by clear ih; rw [lp_f, hv_F, if_neg (show ¬ (x 12 j = d ∧ day - x 4 0 + 1 < hv_st x j ∧ hv_st x j ≤ day) by grind), nI_1])
          · refine mj_ild dX3_heaviest_110 rfl ?_
            refine mj_ild dX3_heaviest_112 rfl ?_
            refine mj_ic_le (tgt := 145) dX3_heaviest_114 rfl (fun h_114 => ?_) (fun h_114 => ?_)
            · refine mj_inc6 dX3_heaviest_145 ni_1 rfl ?_
              refine mj_goto (tgt := 36) dX3_heaviest_148 rfl ?_
              exact mj_ls (ih (j + 1) (some (.int (hv_st x j))) (by omega) (by omega)) (by clear ih; rw [lp_f, hv_F, if_neg (show ¬ (x 12 j = d ∧ day - x 4 0 + 1 < hv_st x j ∧ hv_st x j ≤ day) by grind), nI_1])
            · refine mj_ild dX3_heaviest_117 rfl ?_
              refine mj_ildn dX3_heaviest_119 rfl ?_
              refine mj_ic_gt (tgt := 145) dX3_heaviest_120 rfl (fun h_120 => ?_) (fun h_120 => ?_)
              · refine mj_inc6 dX3_heaviest_145 ni_1 rfl ?_
                refine mj_goto (tgt := 36) dX3_heaviest_148 rfl ?_
                exact mj_ls (ih (j + 1) (some (.int (hv_st x j))) (by omega) (by omega)) (by clear ih; rw [lp_f, hv_F, if_neg (show ¬ (x 12 j = d ∧ day - x 4 0 + 1 < hv_st x j ∧ hv_st x j ≤ day) by grind), nI_1])
              · refine mj_ild dX3_heaviest_123 rfl ?_
                refine mj_aldn dX3_heaviest_125 rfl ?_
                refine mj_getr fkX3_15 dX3_heaviest_126 rfl rfl ?_
                refine mj_ildn dX3_heaviest_129 rfl ?_
                refine mj_aldn dX3_heaviest_130 rfl ?_
                refine mj_geti fkX3_29 dX3_heaviest_131 rfl rfl ?_
                refine mj_ild dX3_heaviest_134 rfl ?_
                refine mj_ildn dX3_heaviest_136 rfl ?_
                rw [hsf]
                refine mj_cvp (K := mX2_weigh) (c_weigh R x sf hn d (hv_st x j) (x 4 0)) ckX2_weigh lkX3_132 ⟨Nat.le_of_ble_eq_true rfl, Nat.le_of_ble_eq_true rfl⟩ rfl dX3_heaviest_137 rfl rfl (Nat.le_of_ble_eq_true rfl) ?_
                refine mj_mx lkX3_124 (Nat.le_of_ble_eq_true rfl) (Nat.le_of_ble_eq_true rfl) (Nat.le_of_ble_eq_true rfl) dX3_heaviest_140 ?_
                refine mj_ist5 dX3_heaviest_143 rfl ?_
                refine mj_inc6 dX3_heaviest_145 ni_1 rfl ?_
                refine mj_goto (tgt := 36) dX3_heaviest_148 rfl ?_
                exact mj_ls (ih (j + 1) (some (.int (hv_st x j))) (by omega) (by omega)) (by clear ih; rw [lp_f, hv_F, if_pos (show x 12 j = d ∧ day - x 4 0 + 1 < hv_st x j ∧ hv_st x j ≤ day from ⟨h_107, by grind, by grind⟩), nI_1]; rfl)
        · have e9 : hv_st x j = x 15 j - x 4 0 + 1 := by unfold hv_st; rw [if_pos h_62]
          refine mj_aldn dX3_heaviest_65 rfl ?_
          refine mj_getr fkX3_15 dX3_heaviest_66 rfl rfl ?_
          refine mj_getr fkX3_76 dX3_heaviest_69 rfl rfl ?_
          refine mj_ild dX3_heaviest_72 rfl ?_
          refine mj_iald dX3_heaviest_74 rfl j (by omega) rfl (by decide) ?_
          refine mj_ildn dX3_heaviest_75 rfl ?_
          refine mj_isub dX3_heaviest_76 ?_
          refine mj_iconst dX3_heaviest_77 ni_1 ?_
          refine mj_iadd dX3_heaviest_78 ?_
          refine mj_goto (tgt := 94) dX3_heaviest_79 rfl ?_
          rw [← e9]
          refine mj_ist7 dX3_heaviest_94 rfl ?_
          refine mj_aldn dX3_heaviest_96 rfl ?_
          refine mj_getr fkX3_15 dX3_heaviest_97 rfl rfl ?_
          refine mj_getr fkX3_62 dX3_heaviest_100 rfl rfl ?_
          refine mj_ild dX3_heaviest_103 rfl ?_
          refine mj_iald dX3_heaviest_105 rfl j (by omega) rfl (by decide) ?_
          refine mj_ildn dX3_heaviest_106 rfl ?_
          refine mj_ic_ne (tgt := 145) dX3_heaviest_107 rfl (fun h_107 => ?_) (fun h_107 => ?_)
          · refine mj_inc6 dX3_heaviest_145 ni_1 rfl ?_
            refine mj_goto (tgt := 36) dX3_heaviest_148 rfl ?_
            exact mj_ls (ih (j + 1) (some (.int (hv_st x j))) (by omega) (by omega)) (by clear ih; rw [lp_f, hv_F, if_neg (show ¬ (x 12 j = d ∧ day - x 4 0 + 1 < hv_st x j ∧ hv_st x j ≤ day) by grind), nI_1])
          · refine mj_ild dX3_heaviest_110 rfl ?_
            refine mj_ild dX3_heaviest_112 rfl ?_
            refine mj_ic_le (tgt := 145) dX3_heaviest_114 rfl (fun h_114 => ?_) (fun h_114 => ?_)
            · refine mj_inc6 dX3_heaviest_145 ni_1 rfl ?_
              refine mj_goto (tgt := 36) dX3_heaviest_148 rfl ?_
              exact mj_ls (ih (j + 1) (some (.int (hv_st x j))) (by omega) (by omega)) (by clear ih; rw [lp_f, hv_F, if_neg (show ¬ (x 12 j = d ∧ day - x 4 0 + 1 < hv_st x j ∧ hv_st x j ≤ day) by grind), nI_1])
            · refine mj_ild dX3_heaviest_117 rfl ?_
              refine mj_ildn dX3_heaviest_119 rfl ?_
              refine mj_ic_gt (tgt := 145) dX3_heaviest_120 rfl (fun h_120 => ?_) (fun h_120 => ?_)
              · refine mj_inc6 dX3_heaviest_145 ni_1 rfl ?_
                refine mj_goto (tgt := 36) dX3_heaviest_148 rfl ?_
                exact mj_ls (ih (j + 1) (some (.int (hv_st x j))) (by omega) (by omega)) (by clear ih; rw [lp_f, hv_F, if_neg (show ¬ (x 12 j = d ∧ day - x 4 0 + 1 < hv_st x j ∧ hv_st x j ≤ day) by grind), nI_1])
              · refine mj_ild dX3_heaviest_123 rfl ?_
                refine mj_aldn dX3_heaviest_125 rfl ?_
                refine mj_getr fkX3_15 dX3_heaviest_126 rfl rfl ?_
                refine mj_ildn dX3_heaviest_129 rfl ?_
                refine mj_aldn dX3_heaviest_130 rfl ?_
                refine mj_geti fkX3_29 dX3_heaviest_131 rfl rfl ?_
                refine mj_ild dX3_heaviest_134 rfl ?_
                refine mj_ildn dX3_heaviest_136 rfl ?_
                rw [hsf]
                refine mj_cvp (K := mX2_weigh) (c_weigh R x sf hn d (hv_st x j) (x 4 0)) ckX2_weigh lkX3_132 ⟨Nat.le_of_ble_eq_true rfl, Nat.le_of_ble_eq_true rfl⟩ rfl dX3_heaviest_137 rfl rfl (Nat.le_of_ble_eq_true rfl) ?_
                refine mj_mx lkX3_124 (Nat.le_of_ble_eq_true rfl) (Nat.le_of_ble_eq_true rfl) (Nat.le_of_ble_eq_true rfl) dX3_heaviest_140 ?_
                refine mj_ist5 dX3_heaviest_143 rfl ?_
                refine mj_inc6 dX3_heaviest_145 ni_1 rfl ?_
                refine mj_goto (tgt := 36) dX3_heaviest_148 rfl ?_
                exact mj_ls (ih (j + 1) (some (.int (hv_st x j))) (by omega) (by omega)) (by clear ih; rw [lp_f, hv_F, if_pos (show x 12 j = d ∧ day - x 4 0 + 1 < hv_st x j ∧ hv_st x j ≤ day from ⟨h_107, by grind, by grind⟩), nI_1]; rfl)
  refine mj_aldn dX3_heaviest_0 rfl ?_
  refine mj_getr fkX3_9 dX3_heaviest_1 rfl rfl ?_
  refine mj_iconst dX3_heaviest_4 ni_0 ?_
  refine mj_cvp (K := mX5_get) (c_get3 R x 0 (by decide)) ckX5_get lkX3_111 ⟨Nat.le_of_ble_eq_true rfl, Nat.le_of_ble_eq_true rfl⟩ rfl dX3_heaviest_5 rfl rfl (Nat.le_of_ble_eq_true rfl) ?_
  refine mj_istn3 dX3_heaviest_8 rfl ?_
  refine mj_ildn dX3_heaviest_9 rfl ?_
  refine mj_ildn dX3_heaviest_10 rfl ?_
  refine mj_isub dX3_heaviest_11 ?_
  refine mj_iconst dX3_heaviest_12 ni_1 ?_
  refine mj_iadd dX3_heaviest_13 ?_
  refine mj_ist4 dX3_heaviest_14 rfl ?_
  refine mj_aldn dX3_heaviest_16 rfl ?_
  refine mj_getr fkX3_15 dX3_heaviest_17 rfl rfl ?_
  refine mj_ildn dX3_heaviest_20 rfl ?_
  refine mj_aldn dX3_heaviest_21 rfl ?_
  refine mj_geti fkX3_29 dX3_heaviest_22 rfl rfl ?_
  refine mj_ild dX3_heaviest_25 rfl ?_
  refine mj_ildn dX3_heaviest_27 rfl ?_
  rw [hsf]
  refine mj_cvp (K := mX2_weigh) (c_weigh R x sf hn d (day - x 4 0 + 1) (x 4 0)) ckX2_weigh lkX3_132 ⟨Nat.le_of_ble_eq_true rfl, Nat.le_of_ble_eq_true rfl⟩ rfl dX3_heaviest_28 rfl rfl (Nat.le_of_ble_eq_true rfl) ?_
  refine mj_ist5 dX3_heaviest_31 rfl ?_
  refine mj_iconst dX3_heaviest_33 ni_0 ?_
  refine mj_ist6 dX3_heaviest_34 rfl ?_
  exact loop (sf + 1) 0 _ (by omega) (by omega)
set_option maxHeartbeats 1000000 in
theorem c_great1 (R : List mj_S) (x : mj_X) (nb : Nat) (hb : nb < 82) (hnb : x 24 7 = nI nb) (sf : Nat) (hn : sf ≤ 41) (hsf : x 32 3 = nI sf) (d : Int32) (e : Nat) (t : Int32) : mj_CV mX3_giveGreatBan (shX ++ R) [.ref 32, .int d, .int (nI e), .int t] x (fun y => y = rc_great x d e sf t) := by
  refine mj_startV (ls := [some (.ref 32), some (.int d), some (.int (nI e)), some (.int t), none, none, none]) (by decide) rfl rfl (fun Q hQ => ?_)
  have rest : mj_V mX3_giveGreatBan (shX ++ R) Q x 40 [some (.ref 32), some (.int d), some (.int (nI e)), some (.int t), some (.int (lp_f (bn_greatF x d (t - x 4 3)) 0 nb)), none, none] [.int (rc_tm x d t)] := by
    refine mj_ist5 dX3_giveGreatBan_40 rfl ?_
    refine mj_ildn dX3_giveGreatBan_42 rfl ?_
    refine mj_aldn dX3_giveGreatBan_43 rfl ?_
    refine mj_getr fkX3_19 dX3_giveGreatBan_44 rfl rfl ?_
    refine mj_ildn dX3_giveGreatBan_47 rfl ?_
    refine mj_cvp (K := mX0_latestDay) (c_late R x nb (by omega) hnb d) ckX0_latestDay lkX3_121 ⟨Nat.le_of_ble_eq_true rfl, Nat.le_of_ble_eq_true rfl⟩ rfl dX3_giveGreatBan_48 rfl rfl (Nat.le_of_ble_eq_true rfl) ?_
    refine mj_iconst dX3_giveGreatBan_51 ni_1 ?_
    refine mj_iadd dX3_giveGreatBan_52 ?_
    refine mj_mx lkX3_124 (Nat.le_of_ble_eq_true rfl) (Nat.le_of_ble_eq_true rfl) (Nat.le_of_ble_eq_true rfl) dX3_giveGreatBan_53 ?_
    refine mj_ss (st' := [.int (rc_fd x d t)]) ?_ (by unfold rc_fd; rw [bnN_eq (by omega) hnb])
    refine mj_ist6 dX3_giveGreatBan_56 rfl ?_
    refine mj_aldn dX3_giveGreatBan_58 rfl ?_
    refine mj_getr fkX3_19 dX3_giveGreatBan_59 rfl rfl ?_
    refine mj_ildn dX3_giveGreatBan_62 rfl ?_
    refine mj_ild dX3_giveGreatBan_63 rfl ?_
    refine mj_ild dX3_giveGreatBan_65 rfl ?_
    refine mj_aldn dX3_giveGreatBan_67 rfl ?_
    refine mj_getr fkX3_9 dX3_giveGreatBan_68 rfl rfl ?_
    refine mj_iconst dX3_giveGreatBan_71 ni_2 ?_
    refine mj_cvp (K := mX5_get) (c_get3 R x 2 (by decide)) ckX5_get lkX3_111 ⟨Nat.le_of_ble_eq_true rfl, Nat.le_of_ble_eq_true rfl⟩ rfl dX3_giveGreatBan_72 rfl rfl (Nat.le_of_ble_eq_true rfl) ?_
    refine mj_imul dX3_giveGreatBan_75 ?_
    refine mj_ildn dX3_giveGreatBan_76 rfl ?_
    refine mj_ildn dX3_giveGreatBan_77 rfl ?_
    refine mj_iconst dX3_giveGreatBan_78 ni_1 ?_
    refine mj_cvv (K := mX0_add) (c_badd R x nb hb hnb d (rc_fd x d t) (rc_tm x d t * x 4 2) (nI e) t 1) ckX0_add lkX3_101 ⟨Nat.le_of_ble_eq_true rfl, Nat.le_of_ble_eq_true rfl⟩ rfl dX3_giveGreatBan_79 rfl rfl (Nat.le_of_ble_eq_true rfl) (fun x_79 q_79 => ?_)
    subst q_79
    have hsf2 : bn_add x nb d (rc_fd x d t) (rc_tm x d t * x 4 2) (nI e) t 1 32 3 = nI sf := hsf
    refine mj_aldn dX3_giveGreatBan_82 rfl ?_
    refine mj_getr fkX3_15 dX3_giveGreatBan_83 rfl rfl ?_
    refine mj_ildn dX3_giveGreatBan_86 rfl ?_
    refine mj_aldn dX3_giveGreatBan_87 rfl ?_
    refine mj_geti fkX3_29 dX3_giveGreatBan_88 rfl rfl ?_
    rw [hsf2]
    refine mj_cvv (K := mX2_spend) (c_spend R _ sf hn d) ckX2_spend lkX3_129 ⟨Nat.le_of_ble_eq_true rfl, Nat.le_of_ble_eq_true rfl⟩ rfl dX3_giveGreatBan_91 rfl rfl (Nat.le_of_ble_eq_true rfl) (fun x_91 q_91 => ?_)
    refine mj_retv rfl dX3_giveGreatBan_94 ?_
    exact hQ _ (by rw [q_91]; unfold rc_great; rw [bnN_eq (by omega) hnb])
  refine mj_aldn dX3_giveGreatBan_0 rfl ?_
  refine mj_getr fkX3_19 dX3_giveGreatBan_1 rfl rfl ?_
  refine mj_ildn dX3_giveGreatBan_4 rfl ?_
  refine mj_ildn dX3_giveGreatBan_5 rfl ?_
  refine mj_aldn dX3_giveGreatBan_6 rfl ?_
  refine mj_getr fkX3_9 dX3_giveGreatBan_7 rfl rfl ?_
  refine mj_iconst dX3_giveGreatBan_10 ni_3 ?_
  refine mj_cvp (K := mX5_get) (c_get3 R x 3 (by decide)) ckX5_get lkX3_111 ⟨Nat.le_of_ble_eq_true rfl, Nat.le_of_ble_eq_true rfl⟩ rfl dX3_giveGreatBan_11 rfl rfl (Nat.le_of_ble_eq_true rfl) ?_
  refine mj_isub dX3_giveGreatBan_14 ?_
  refine mj_cvp (K := mX0_greatSince) (c_great R x nb (by omega) hnb d (t - x 4 3)) ckX0_greatSince lkX3_118 ⟨Nat.le_of_ble_eq_true rfl, Nat.le_of_ble_eq_true rfl⟩ rfl dX3_giveGreatBan_15 rfl rfl (Nat.le_of_ble_eq_true rfl) ?_
  refine mj_ist4 dX3_giveGreatBan_18 rfl ?_
  refine mj_ild dX3_giveGreatBan_20 rfl ?_
  refine mj_if_ne (tgt := 29) dX3_giveGreatBan_22 rfl (fun h_22 => ?_) (fun h_22 => ?_)
  · refine mj_ild dX3_giveGreatBan_29 rfl ?_
    refine mj_iconst dX3_giveGreatBan_31 ni_1 ?_
    refine mj_ic_ne (tgt := 39) dX3_giveGreatBan_32 rfl (fun h_32 => ?_) (fun h_32 => ?_)
    · refine mj_iconst dX3_giveGreatBan_39 ni_4 ?_
      refine mj_ss (st' := [.int (rc_tm x d t)]) ?_ (by unfold rc_tm; rw [bnN_eq (by omega) hnb]; first | rw [if_pos h_22] | rw [if_neg h_22, if_pos h_32] | rw [if_neg h_22, if_neg h_32])
      exact rest
    · refine mj_iconst dX3_giveGreatBan_35 ni_2 ?_
      refine mj_goto (tgt := 40) dX3_giveGreatBan_36 rfl ?_
      refine mj_ss (st' := [.int (rc_tm x d t)]) ?_ (by unfold rc_tm; rw [bnN_eq (by omega) hnb]; first | rw [if_pos h_22] | rw [if_neg h_22, if_pos h_32] | rw [if_neg h_22, if_neg h_32])
      exact rest
  · refine mj_iconst dX3_giveGreatBan_25 ni_1 ?_
    refine mj_goto (tgt := 40) dX3_giveGreatBan_26 rfl ?_
    refine mj_ss (st' := [.int (rc_tm x d t)]) ?_ (by unfold rc_tm; rw [bnN_eq (by omega) hnb]; first | rw [if_pos h_22] | rw [if_neg h_22, if_pos h_32] | rw [if_neg h_22, if_neg h_32])
    exact rest
set_option maxHeartbeats 1000000 in
theorem c_conv (R : List mj_S) (x : mj_X) (n : Nat) (hn : n ≤ 41) (hsz : x 11 12 = nI n) (e : Nat) (hj : e < n) (hsf : x 32 3 = nI (e + 1)) (nb : Nat) (hb : nb < 81) (hnb : x 24 7 = nI nb) (kc k0 : Nat) (hk : k0 ≤ 6) (hk0 : x 3 3 = nI k0) (hkc : kc < k0) (hcd : x 16 e = nI kc) : mj_CV mX3_reckonConviction (shX ++ R) [.ref 32, .int (nI e)] x (fun y => y = rc_conv x e) := by
  refine mj_startV (ls := [some (.ref 32), some (.int (nI e)), none, none, none, none, none]) (by decide) rfl rfl (fun Q hQ => ?_)
  have ebn := bnN_eq (x := x) (by omega) hnb
  have eow : rc_own x e = x 6 kc := by unfold rc_own; rw [hcd, nI_clamp (by omega)]
  have tail : ∀ (y : mj_X) (b w6 : Int32) (m : Nat), y = rc_c2 x e → y 24 7 = nI m → m < 82 → y 32 3 = nI (e + 1) → y 18 e = x 18 e → y 4 = x 4 → mj_V mX3_reckonConviction (shX ++ R) Q y 148 [some (.ref 32), some (.int (nI e)), some (.int (x 12 e)), some (.int (x 13 e)), some (.int (x 15 e)), some (.int b), some (.int w6)] [] := by
    intro y b w6 m hy h1 h2 h3 h4 h5
    refine mj_aldn dX3_reckonConviction_148 rfl ?_
    refine mj_getr fkX3_15 dX3_reckonConviction_149 rfl rfl ?_
    refine mj_getr fkX3_105 dX3_reckonConviction_152 rfl rfl ?_
    refine mj_ildn dX3_reckonConviction_155 rfl ?_
    refine mj_iald dX3_reckonConviction_156 rfl e (by omega) rfl (by decide) ?_
    refine mj_if_ne (tgt := 185) dX3_reckonConviction_157 rfl (fun h_157 => ?_) (fun h_157 => ?_)
    · rw [h4] at h_157
      refine mj_retv rfl dX3_reckonConviction_185 ?_
      first
      | (rw [q_182]; exact hQ _ (by unfold rc_conv; rw [if_pos ⟨h_157, by grind⟩, hy]))
      | (refine hQ _ ?_; unfold rc_conv; rw [if_neg (by grind), hy])
    · rw [h4] at h_157
      refine mj_aldn dX3_reckonConviction_160 rfl ?_
      refine mj_ildn dX3_reckonConviction_161 rfl ?_
      refine mj_ild dX3_reckonConviction_162 rfl ?_
      refine mj_cvp (K := mX3_heaviest) (c_hv R y (e + 1) (by omega) h3 (x 12 e) (x 15 e)) ckX3_heaviest lkX3_108 ⟨Nat.le_of_ble_eq_true rfl, Nat.le_of_ble_eq_true rfl⟩ rfl dX3_reckonConviction_164 rfl rfl (Nat.le_of_ble_eq_true rfl) ?_
      refine mj_aldn dX3_reckonConviction_167 rfl ?_
      refine mj_getr fkX3_9 dX3_reckonConviction_168 rfl rfl ?_
      refine mj_iconst dX3_reckonConviction_171 ni_1 ?_
      refine mj_cvp (K := mX5_get) (c_get3 R y 1 (by decide)) ckX5_get lkX3_111 ⟨Nat.le_of_ble_eq_true rfl, Nat.le_of_ble_eq_true rfl⟩ rfl dX3_reckonConviction_172 rfl rfl (Nat.le_of_ble_eq_true rfl) ?_
      refine mj_ic_lt (tgt := 185) dX3_reckonConviction_175 rfl (fun h_175 => ?_) (fun h_175 => ?_)
      · rw [h5, hy] at h_175
        refine mj_retv rfl dX3_reckonConviction_185 ?_
        first
        | (rw [q_182]; exact hQ _ (by unfold rc_conv; rw [if_pos ⟨h_157, by grind⟩, hy]))
        | (refine hQ _ ?_; unfold rc_conv; rw [if_neg (by grind), hy])
      · rw [h5, hy] at h_175
        refine mj_aldn dX3_reckonConviction_178 rfl ?_
        refine mj_ildn dX3_reckonConviction_179 rfl ?_
        refine mj_ildn dX3_reckonConviction_180 rfl ?_
        refine mj_ildn dX3_reckonConviction_181 rfl ?_
        refine mj_cvv (K := mX3_giveGreatBan) (c_great1 R y m h2 h1 (e + 1) (by omega) h3 (x 12 e) e (x 13 e)) ckX3_giveGreatBan lkX3_114 ⟨Nat.le_of_ble_eq_true rfl, Nat.le_of_ble_eq_true rfl⟩ rfl dX3_reckonConviction_182 rfl rfl (Nat.le_of_ble_eq_true rfl) (fun x_182 q_182 => ?_)
        refine mj_retv rfl dX3_reckonConviction_185 ?_
        first
        | (rw [q_182]; exact hQ _ (by unfold rc_conv; rw [if_pos ⟨h_157, by grind⟩, hy]))
        | (refine hQ _ ?_; unfold rc_conv; rw [if_neg (by grind), hy])
  have rest : mj_V mX3_reckonConviction (shX ++ R) Q (rc_c1 x e) 111 [some (.ref 32), some (.int (nI e)), some (.int (x 12 e)), some (.int (x 13 e)), some (.int (x 15 e)), some (.int (bi (rc_dbl x e))), none] [] := by
    refine mj_aldn dX3_reckonConviction_111 rfl ?_
    refine mj_getr fkX3_9 dX3_reckonConviction_112 rfl rfl ?_
    refine mj_aldn dX3_reckonConviction_115 rfl ?_
    refine mj_getr fkX3_15 dX3_reckonConviction_116 rfl rfl ?_
    refine mj_getr fkX3_92 dX3_reckonConviction_119 rfl rfl ?_
    refine mj_ildn dX3_reckonConviction_122 rfl ?_
    refine mj_iald dX3_reckonConviction_123 rfl e (by omega) rfl (by decide) ?_
    refine mj_ss (st' := [.int (nI kc), .ref 3]) ?_ (by rw [← hcd]; rfl)
    refine mj_cvp (K := mX5_ownBanOf) (c_own _ 3 (ru_sh3 R) (rc_c1 x e) k0 hk hk0 kc hkc) ckX5_ownBanOf lkX3_95 ⟨Nat.le_of_ble_eq_true rfl, Nat.le_of_ble_eq_true rfl⟩ rfl dX3_reckonConviction_124 rfl rfl (Nat.le_of_ble_eq_true rfl) ?_
    refine mj_ist6 dX3_reckonConviction_127 rfl ?_
    refine mj_ild dX3_reckonConviction_129 rfl ?_
    refine mj_if_le (tgt := 148) dX3_reckonConviction_131 rfl (fun h_131 => ?_) (fun h_131 => ?_)
    · have h_131 : ¬ 0 < rc_own x e := by rw [eow]; have : x 6 kc ≤ 0 := h_131; grind
      refine tail (rc_c1 x e) _ _ nb (by unfold rc_c2; rw [if_neg h_131]) hnb (by omega) hsf rfl rfl
    · have h_131 : 0 < rc_own x e := by rw [eow]; have : ¬ x 6 kc ≤ 0 := h_131; grind
      refine mj_aldn dX3_reckonConviction_134 rfl ?_
      refine mj_getr fkX3_19 dX3_reckonConviction_135 rfl rfl ?_
      refine mj_ildn dX3_reckonConviction_138 rfl ?_
      refine mj_ildn dX3_reckonConviction_139 rfl ?_
      refine mj_ild dX3_reckonConviction_140 rfl ?_
      refine mj_ildn dX3_reckonConviction_142 rfl ?_
      refine mj_ildn dX3_reckonConviction_143 rfl ?_
      refine mj_iconst dX3_reckonConviction_144 ni_0 ?_
      refine mj_cvv (K := mX0_add) (c_badd R (rc_c1 x e) nb (by omega) hnb (x 12 e) (x 13 e) (x 6 kc) (nI e) (x 13 e) 0) ckX0_add lkX3_101 ⟨Nat.le_of_ble_eq_true rfl, Nat.le_of_ble_eq_true rfl⟩ rfl dX3_reckonConviction_145 rfl rfl (Nat.le_of_ble_eq_true rfl) (fun x_145 q_145 => ?_)
      refine tail x_145 _ _ (nb + 1) (by rw [q_145]; unfold rc_c2; rw [if_pos h_131, eow, ebn]) (by rw [q_145]; rfl) (by omega) (by rw [q_145]; exact hsf) (by rw [q_145]; rfl) (by rw [q_145]; rfl)
  refine mj_aldn dX3_reckonConviction_0 rfl ?_
  refine mj_getr fkX3_15 dX3_reckonConviction_1 rfl rfl ?_
  refine mj_ildn dX3_reckonConviction_4 rfl ?_
  refine mj_cvp (K := mX2_isThere) (c_isThere R x n hn hsz (nI e)) ckX2_isThere lkX3_38 ⟨Nat.le_of_ble_eq_true rfl, Nat.le_of_ble_eq_true rfl⟩ rfl dX3_reckonConviction_5 rfl rfl (Nat.le_of_ble_eq_true rfl) ?_
  refine mj_if_ne (tgt := 12) dX3_reckonConviction_8 rfl (fun h_8 => ?_) (fun h_8 => False.elim (by rw [bi_z] at h_8; simp only [ev_is, decide_eq_false_iff_not] at h_8; exact h_8 ⟨nI_pos' (by omega), nI_lt hj (by omega)⟩))
  refine mj_aldn dX3_reckonConviction_12 rfl ?_
  refine mj_getr fkX3_15 dX3_reckonConviction_13 rfl rfl ?_
  refine mj_getr fkX3_62 dX3_reckonConviction_16 rfl rfl ?_
  refine mj_ildn dX3_reckonConviction_19 rfl ?_
  refine mj_iald dX3_reckonConviction_20 rfl e (by omega) rfl (by decide) ?_
  refine mj_istn2 dX3_reckonConviction_21 rfl ?_
  refine mj_aldn dX3_reckonConviction_22 rfl ?_
  refine mj_getr fkX3_15 dX3_reckonConviction_23 rfl rfl ?_
  refine mj_getr fkX3_59 dX3_reckonConviction_26 rfl rfl ?_
  refine mj_ildn dX3_reckonConviction_29 rfl ?_
  refine mj_iald dX3_reckonConviction_30 rfl e (by omega) rfl (by decide) ?_
  refine mj_istn3 dX3_reckonConviction_31 rfl ?_
  refine mj_aldn dX3_reckonConviction_32 rfl ?_
  refine mj_getr fkX3_15 dX3_reckonConviction_33 rfl rfl ?_
  refine mj_getr fkX3_76 dX3_reckonConviction_36 rfl rfl ?_
  refine mj_ildn dX3_reckonConviction_39 rfl ?_
  refine mj_iald dX3_reckonConviction_40 rfl e (by omega) rfl (by decide) ?_
  refine mj_ist4 dX3_reckonConviction_41 rfl ?_
  refine mj_aldn dX3_reckonConviction_43 rfl ?_
  refine mj_getr fkX3_19 dX3_reckonConviction_44 rfl rfl ?_
  refine mj_ildn dX3_reckonConviction_47 rfl ?_
  refine mj_ild dX3_reckonConviction_48 rfl ?_
  refine mj_cvp (K := mX0_hold) (c_hold R x nb (by omega) hnb (x 12 e) (x 15 e)) ckX0_hold lkX3_79 ⟨Nat.le_of_ble_eq_true rfl, Nat.le_of_ble_eq_true rfl⟩ rfl dX3_reckonConviction_50 rfl rfl (Nat.le_of_ble_eq_true rfl) ?_
  rw [show lp_any (bn_has x (x 12 e) (x 15 e)) nb = rc_dbl x e from by unfold rc_dbl; rw [ebn]]
  cases hdb : rc_dbl x e with
  | false =>
    rw [hdb] at rest
    refine mj_ist5 dX3_reckonConviction_53 rfl ?_
    refine mj_aldn dX3_reckonConviction_55 rfl ?_
    refine mj_getr fkX3_15 dX3_reckonConviction_56 rfl rfl ?_
    refine mj_getr fkX3_83 dX3_reckonConviction_59 rfl rfl ?_
    refine mj_ildn dX3_reckonConviction_62 rfl ?_
    refine mj_ild dX3_reckonConviction_63 rfl ?_
    refine mj_if_eq (tgt := 72) dX3_reckonConviction_65 rfl (fun h_65 => ?_) (fun h_65 => False.elim (by exact h_65 rfl))
    refine mj_iconst dX3_reckonConviction_72 ni_0 ?_
    refine mj_iast dX3_reckonConviction_73 rfl e (by omega) rfl (by decide) ?_
    refine mj_aldn dX3_reckonConviction_74 rfl ?_
    refine mj_getr fkX3_15 dX3_reckonConviction_75 rfl rfl ?_
    refine mj_getr fkX3_86 dX3_reckonConviction_78 rfl rfl ?_
    refine mj_ildn dX3_reckonConviction_81 rfl ?_
    refine mj_ild dX3_reckonConviction_82 rfl ?_
    refine mj_if_eq (tgt := 101) dX3_reckonConviction_84 rfl (fun h_84 => ?_) (fun h_84 => False.elim (by exact h_84 rfl))
    refine mj_aldn dX3_reckonConviction_101 rfl ?_
    refine mj_getr fkX3_15 dX3_reckonConviction_102 rfl rfl ?_
    refine mj_getr fkX3_89 dX3_reckonConviction_105 rfl rfl ?_
    refine mj_ildn dX3_reckonConviction_108 rfl ?_
    refine mj_iald dX3_reckonConviction_109 rfl e (by omega) rfl (by decide) ?_
    refine mj_iast dX3_reckonConviction_110 rfl e (by omega) rfl (by decide) ?_
    exact mj_xl rest (by unfold rc_c1; rw [hdb]; rfl) rfl
  | true =>
    rw [hdb] at rest
    refine mj_ist5 dX3_reckonConviction_53 rfl ?_
    refine mj_aldn dX3_reckonConviction_55 rfl ?_
    refine mj_getr fkX3_15 dX3_reckonConviction_56 rfl rfl ?_
    refine mj_getr fkX3_83 dX3_reckonConviction_59 rfl rfl ?_
    refine mj_ildn dX3_reckonConviction_62 rfl ?_
    refine mj_ild dX3_reckonConviction_63 rfl ?_
    refine mj_if_eq (tgt := 72) dX3_reckonConviction_65 rfl (fun h_65 => False.elim (by exact (by decide : ¬ bi true = 0) h_65)) (fun h_65 => ?_)
    refine mj_iconst dX3_reckonConviction_68 ni_1 ?_
    refine mj_goto (tgt := 73) dX3_reckonConviction_69 rfl ?_
    refine mj_iast dX3_reckonConviction_73 rfl e (by omega) rfl (by decide) ?_
    refine mj_aldn dX3_reckonConviction_74 rfl ?_
    refine mj_getr fkX3_15 dX3_reckonConviction_75 rfl rfl ?_
    refine mj_getr fkX3_86 dX3_reckonConviction_78 rfl rfl ?_
    refine mj_ildn dX3_reckonConviction_81 rfl ?_
    refine mj_ild dX3_reckonConviction_82 rfl ?_
    refine mj_if_eq (tgt := 101) dX3_reckonConviction_84 rfl (fun h_84 => False.elim (by exact (by decide : ¬ bi true = 0) h_84)) (fun h_84 => ?_)
    refine mj_iconst dX3_reckonConviction_87 ni_2 ?_
    refine mj_aldn dX3_reckonConviction_88 rfl ?_
    refine mj_getr fkX3_15 dX3_reckonConviction_89 rfl rfl ?_
    refine mj_getr fkX3_89 dX3_reckonConviction_92 rfl rfl ?_
    refine mj_ildn dX3_reckonConviction_95 rfl ?_
    refine mj_iald dX3_reckonConviction_96 rfl e (by omega) rfl (by decide) ?_
    refine mj_imul dX3_reckonConviction_97 ?_
    refine mj_goto (tgt := 110) dX3_reckonConviction_98 rfl ?_
    refine mj_iast dX3_reckonConviction_110 rfl e (by omega) rfl (by decide) ?_
    exact mj_xl rest (by unfold rc_c1; rw [hdb]; rfl) rfl
set_option maxHeartbeats 1000000 in
theorem c_long (R : List mj_S) (x : mj_X) (n : Nat) (hn : n ≤ 41) (hsz : x 11 12 = nI n) (e : Nat) (hj : e < n) (nb : Nat) (hb : nb ≤ 82) (hnb : x 24 7 = nI nb) : mj_CV mX3_reckonLong (shX ++ R) [.ref 32, .int (nI e)] x (fun y => y = rc_long x e) := by
  refine mj_startV (ls := [some (.ref 32), some (.int (nI e)), none, none]) (by decide) rfl rfl (fun Q hQ => ?_)
  have esh : (lp_f (bn_shF x (x 12 e) (x 13 e)) (-1, x 13 e) nb).1 = rc_sh x e := by unfold rc_sh; rw [bnN_eq hb hnb]
  refine mj_aldn dX3_reckonLong_0 rfl ?_
  refine mj_getr fkX3_15 dX3_reckonLong_1 rfl rfl ?_
  refine mj_ildn dX3_reckonLong_4 rfl ?_
  refine mj_cvp (K := mX2_isThere) (c_isThere R x n hn hsz (nI e)) ckX2_isThere lkX3_38 ⟨Nat.le_of_ble_eq_true rfl, Nat.le_of_ble_eq_true rfl⟩ rfl dX3_reckonLong_5 rfl rfl (Nat.le_of_ble_eq_true rfl) ?_
  refine mj_if_ne (tgt := 12) dX3_reckonLong_8 rfl (fun h_8 => ?_) (fun h_8 => False.elim (by rw [bi_z] at h_8; simp only [ev_is, decide_eq_false_iff_not] at h_8; exact h_8 ⟨nI_pos' (by omega), nI_lt hj (by omega)⟩))
  refine mj_aldn dX3_reckonLong_12 rfl ?_
  refine mj_getr fkX3_15 dX3_reckonLong_13 rfl rfl ?_
  refine mj_getr fkX3_59 dX3_reckonLong_16 rfl rfl ?_
  refine mj_ildn dX3_reckonLong_19 rfl ?_
  refine mj_iald dX3_reckonLong_20 rfl e (by omega) rfl (by decide) ?_
  refine mj_istn2 dX3_reckonLong_21 rfl ?_
  refine mj_aldn dX3_reckonLong_22 rfl ?_
  refine mj_getr fkX3_19 dX3_reckonLong_23 rfl rfl ?_
  refine mj_aldn dX3_reckonLong_26 rfl ?_
  refine mj_getr fkX3_15 dX3_reckonLong_27 rfl rfl ?_
  refine mj_getr fkX3_62 dX3_reckonLong_30 rfl rfl ?_
  refine mj_ildn dX3_reckonLong_33 rfl ?_
  refine mj_iald dX3_reckonLong_34 rfl e (by omega) rfl (by decide) ?_
  refine mj_ildn dX3_reckonLong_35 rfl ?_
  refine mj_cvp (K := mX0_toShorten) (c_toSh R x nb hb hnb (x 12 e) (x 13 e)) ckX0_toShorten lkX3_65 ⟨Nat.le_of_ble_eq_true rfl, Nat.le_of_ble_eq_true rfl⟩ rfl dX3_reckonLong_36 rfl rfl (Nat.le_of_ble_eq_true rfl) ?_
  rw [esh]
  refine mj_istn3 dX3_reckonLong_39 rfl ?_
  refine mj_ildn dX3_reckonLong_40 rfl ?_
  refine mj_if_ge (tgt := 57) dX3_reckonLong_41 rfl (fun h_41 => ?_) (fun h_41 => ?_)
  · obtain ⟨j, hj1, hj2⟩ : ∃ j, j < nb ∧ rc_sh x e = nI j := by
      rcases sh_val x (x 12 e) (x 13 e) nb with h | ⟨j, h1, h2⟩
      · rw [esh] at h; rw [h] at h_41; exact absurd h_41 (by decide)
      · exact ⟨j, h1, by rw [← esh]; exact h2⟩
    rw [hj2]
    refine mj_aldn dX3_reckonLong_57 rfl ?_
    refine mj_getr fkX3_19 dX3_reckonLong_58 rfl rfl ?_
    refine mj_ildn dX3_reckonLong_61 rfl ?_
    refine mj_ildn dX3_reckonLong_62 rfl ?_
    refine mj_cvv (K := mX0_shorten) (c_short R x j (by omega) (x 13 e)) ckX0_shorten lkX3_72 ⟨Nat.le_of_ble_eq_true rfl, Nat.le_of_ble_eq_true rfl⟩ rfl dX3_reckonLong_63 rfl rfl (Nat.le_of_ble_eq_true rfl) (fun x_63 q_63 => ?_)
    refine mj_retv rfl dX3_reckonLong_66 ?_
    first
    | (rw [q_63]; exact hQ _ (by unfold rc_long; rw [if_neg (by grind), hj2, nI_clamp (by omega)]))
    | (refine hQ _ ?_; unfold rc_long; rw [if_pos (by grind)])
  · refine mj_aldn dX3_reckonLong_44 rfl ?_
    refine mj_getr fkX3_15 dX3_reckonLong_45 rfl rfl ?_
    refine mj_getr fkX3_69 dX3_reckonLong_48 rfl rfl ?_
    refine mj_ildn dX3_reckonLong_51 rfl ?_
    refine mj_iconst dX3_reckonLong_52 ni_1 ?_
    refine mj_iast dX3_reckonLong_53 rfl e (by omega) rfl (by decide) ?_
    refine mj_goto (tgt := 66) dX3_reckonLong_54 rfl ?_
    refine mj_retv rfl dX3_reckonLong_66 ?_
    first
    | (rw [q_63]; exact hQ _ (by unfold rc_long; rw [if_neg (by grind), hj2, nI_clamp (by omega)]))
    | (refine hQ _ ?_; unfold rc_long; rw [if_pos (by grind)])
def cd_ok (x : mj_X) (e : Nat) : Prop := ∃ kc k0 : Nat, k0 ≤ 6 ∧ x 3 3 = nI k0 ∧ kc < k0 ∧ (x 14 e = 0 → x 16 e = nI kc)
set_option maxHeartbeats 1000000 in
theorem c_rnext (R : List mj_S) (x : mj_X) (n : Nat) (hn : n ≤ 41) (hsz : x 11 12 = nI n) (e : Nat) (hj : e < n) (hsf : x 32 3 = nI e) (nb : Nat) (hb : nb < 81) (hnb : x 24 7 = nI nb) (hcd : cd_ok x e) : mj_CV mX3_reckonNext (shX ++ R) [.ref 32] x (fun y => y = rc_next x e) := by
  refine mj_startV (ls := [some (.ref 32), none]) (by decide) rfl rfl (fun Q hQ => ?_)
  have e1 : x 32 3 + 1 = nI (e + 1) := by rw [hsf, nI_1]
  obtain ⟨kc, k0, hk, hk0, hkc, hcd⟩ := hcd
  refine mj_aldn dX3_reckonNext_0 rfl ?_
  refine mj_geti fkX3_29 dX3_reckonNext_1 rfl rfl ?_
  rw [hsf]
  refine mj_istn1 dX3_reckonNext_4 rfl ?_
  refine mj_aldn dX3_reckonNext_5 rfl ?_
  refine mj_getr fkX3_15 dX3_reckonNext_6 rfl rfl ?_
  refine mj_ildn dX3_reckonNext_9 rfl ?_
  refine mj_cvp (K := mX2_isThere) (c_isThere R x n hn hsz (nI e)) ckX2_isThere lkX3_38 ⟨Nat.le_of_ble_eq_true rfl, Nat.le_of_ble_eq_true rfl⟩ rfl dX3_reckonNext_10 rfl rfl (Nat.le_of_ble_eq_true rfl) ?_
  refine mj_if_ne (tgt := 17) dX3_reckonNext_13 rfl (fun h_13 => ?_) (fun h_13 => False.elim (by rw [bi_z] at h_13; simp only [ev_is, decide_eq_false_iff_not] at h_13; exact h_13 ⟨nI_pos' (by omega), nI_lt hj (by omega)⟩))
  refine mj_aldn dX3_reckonNext_17 rfl ?_
  refine mj_dupr dX3_reckonNext_18 ?_
  refine mj_geti fkX3_29 dX3_reckonNext_19 rfl rfl ?_
  refine mj_iconst dX3_reckonNext_22 ni_1 ?_
  refine mj_iadd dX3_reckonNext_23 ?_
  refine mj_puti fkX3_29 pkX3_3 dX3_reckonNext_24 rfl rfl ?_
  rw [e1]
  refine mj_aldn dX3_reckonNext_27 rfl ?_
  refine mj_getr fkX3_15 dX3_reckonNext_28 rfl rfl ?_
  refine mj_ildn dX3_reckonNext_31 rfl ?_
  refine mj_cvv (K := mX2_clearMarks) (c_clearM R (mj_up x 32 3 (nI (e + 1))) n hn hsz e hj) ckX2_clearMarks lkX3_42 ⟨Nat.le_of_ble_eq_true rfl, Nat.le_of_ble_eq_true rfl⟩ rfl dX3_reckonNext_32 rfl rfl (Nat.le_of_ble_eq_true rfl) (fun x_32 q_32 => ?_)
  subst q_32
  refine mj_aldn dX3_reckonNext_35 rfl ?_
  refine mj_getr fkX3_15 dX3_reckonNext_36 rfl rfl ?_
  refine mj_getr fkX3_46 dX3_reckonNext_39 rfl rfl ?_
  refine mj_ildn dX3_reckonNext_42 rfl ?_
  refine mj_iald dX3_reckonNext_43 rfl e (by omega) rfl (by decide) ?_
  refine mj_iconst dX3_reckonNext_44 ni_2 ?_
  refine mj_ic_ne (tgt := 56) dX3_reckonNext_45 rfl (fun h_45 => ?_) (fun h_45 => ?_)
  · have h_45 : ¬ x 14 e = 2 := h_45
    refine mj_aldn dX3_reckonNext_56 rfl ?_
    refine mj_getr fkX3_15 dX3_reckonNext_57 rfl rfl ?_
    refine mj_getr fkX3_46 dX3_reckonNext_60 rfl rfl ?_
    refine mj_ildn dX3_reckonNext_63 rfl ?_
    refine mj_iald dX3_reckonNext_64 rfl e (by omega) rfl (by decide) ?_
    refine mj_if_ne (tgt := 85) dX3_reckonNext_65 rfl (fun h_65 => ?_) (fun h_65 => ?_)
    · have h_65 : ¬ x 14 e = 0 := h_65
      refine mj_retv rfl dX3_reckonNext_85 ?_
      first
      | (rw [q_50]; exact hQ _ (by unfold rc_next; rw [if_pos h_45]))
      | (rw [q_82]; exact hQ _ (by unfold rc_next; rw [if_neg h_45, if_pos ⟨h_65, h_77⟩]))
      | (refine hQ _ ?_; unfold rc_next; rw [if_neg h_45, if_neg (by grind)])
    · have h_65 : x 14 e = 0 := h_65
      refine mj_aldn dX3_reckonNext_68 rfl ?_
      refine mj_getr fkX3_15 dX3_reckonNext_69 rfl rfl ?_
      refine mj_getr fkX3_53 dX3_reckonNext_72 rfl rfl ?_
      refine mj_ildn dX3_reckonNext_75 rfl ?_
      refine mj_iald dX3_reckonNext_76 rfl e (by omega) rfl (by decide) ?_
      refine mj_if_ne (tgt := 85) dX3_reckonNext_77 rfl (fun h_77 => ?_) (fun h_77 => ?_)
      · have h_77 : ¬ x 19 e = 0 := h_77
        refine mj_retv rfl dX3_reckonNext_85 ?_
        first
        | (rw [q_50]; exact hQ _ (by unfold rc_next; rw [if_pos h_45]))
        | (rw [q_82]; exact hQ _ (by unfold rc_next; rw [if_neg h_45, if_pos ⟨h_65, h_77⟩]))
        | (refine hQ _ ?_; unfold rc_next; rw [if_neg h_45, if_neg (by grind)])
      · have h_77 : x 19 e = 0 := h_77
        refine mj_aldn dX3_reckonNext_80 rfl ?_
        refine mj_ildn dX3_reckonNext_81 rfl ?_
        refine mj_cvv (K := mX3_reckonConviction) (c_conv R (ev_clear (mj_up x 32 3 (nI (e + 1))) e) n hn hsz e hj rfl nb hb hnb kc k0 hk hk0 hkc (hcd h_65)) ckX3_reckonConviction lkX3_56 ⟨Nat.le_of_ble_eq_true rfl, Nat.le_of_ble_eq_true rfl⟩ rfl dX3_reckonNext_82 rfl rfl (Nat.le_of_ble_eq_true rfl) (fun x_82 q_82 => ?_)
        refine mj_retv rfl dX3_reckonNext_85 ?_
        first
        | (rw [q_50]; exact hQ _ (by unfold rc_next; rw [if_pos h_45]))
        | (rw [q_82]; exact hQ _ (by unfold rc_next; rw [if_neg h_45, if_pos ⟨h_65, h_77⟩]))
        | (refine hQ _ ?_; unfold rc_next; rw [if_neg h_45, if_neg (by grind)])
  · have h_45 : x 14 e = 2 := h_45
    refine mj_aldn dX3_reckonNext_48 rfl ?_
    refine mj_ildn dX3_reckonNext_49 rfl ?_
    refine mj_cvv (K := mX3_reckonLong) (c_long R (ev_clear (mj_up x 32 3 (nI (e + 1))) e) n hn hsz e hj nb (by omega) hnb) ckX3_reckonLong lkX3_50 ⟨Nat.le_of_ble_eq_true rfl, Nat.le_of_ble_eq_true rfl⟩ rfl dX3_reckonNext_50 rfl rfl (Nat.le_of_ble_eq_true rfl) (fun x_50 q_50 => ?_)
    refine mj_goto (tgt := 85) dX3_reckonNext_53 rfl ?_
    refine mj_retv rfl dX3_reckonNext_85 ?_
    first
    | (rw [q_50]; exact hQ _ (by unfold rc_next; rw [if_pos h_45]))
    | (rw [q_82]; exact hQ _ (by unfold rc_next; rw [if_neg h_45, if_pos ⟨h_65, h_77⟩]))
    | (refine hQ _ ?_; unfold rc_next; rw [if_neg h_45, if_neg (by grind)])
end
section
/-! what reckoning leaves as it was: cells 20 to 32 alone are another -/
def fr_k (k : Nat) : Prop := k < 20 ∨ 32 < k
theorem fr_clear {x : mj_X} {e k : Nat} (h : fr_k k) : ev_clear x e k = x k := by
  unfold fr_k at h; unfold ev_clear; rw [up_ne (by omega), up_ne (by omega), up_ne (by omega), up_ne (by omega)]
theorem fr_badd {x : mj_X} {n k : Nat} {d f m e t g : Int32} (h : fr_k k) : bn_add x n d f m e t g k = x k := by
  unfold fr_k at h; unfold bn_add
  rw [up_ne (by omega), up_ne (by omega), up_ne (by omega), up_ne (by omega), up_ne (by omega), up_ne (by omega), up_ne (by omega), up_ne (by omega)]
theorem fr_short {x : mj_X} {j k : Nat} {t : Int32} (h : fr_k k) : bn_short x j t k = x k := by
  unfold fr_k at h; unfold bn_short; rw [up_ne (by omega), up_ne (by omega)]
theorem fr_spend {x : mj_X} {d : Int32} {u k : Nat} (h : fr_k k) : ev_spend x d u k = x k := by
  unfold fr_k at h; unfold ev_spend; rw [if_neg (by omega), if_neg (by omega)]
theorem spend_ne {x : mj_X} {d : Int32} {u k : Nat} (h1 : k ≠ 21) (h2 : k ≠ 23) : ev_spend x d u k = x k := by unfold ev_spend; rw [if_neg h1, if_neg h2]
theorem fr_c1 {x : mj_X} {e k : Nat} (h : fr_k k) : rc_c1 x e k = x k := by
  unfold fr_k at h; unfold rc_c1; rw [up_ne (by omega), up_ne (by omega)]
theorem fr_c2 {x : mj_X} {e k : Nat} (h : fr_k k) : rc_c2 x e k = x k := by
  unfold rc_c2; split
  · rw [fr_badd h, fr_c1 h]
  · exact fr_c1 h
theorem fr_great {x : mj_X} {d t : Int32} {e sf k : Nat} (h : fr_k k) : rc_great x d e sf t k = x k := by
  unfold rc_great; rw [fr_spend h, fr_badd h]
theorem fr_conv {x : mj_X} {e k : Nat} (h : fr_k k) : rc_conv x e k = x k := by
  unfold rc_conv; split
  · rw [fr_great h, fr_c2 h]
  · exact fr_c2 h
theorem fr_long {x : mj_X} {e k : Nat} (h : fr_k k) : rc_long x e k = x k := by
  unfold rc_long; split
  · unfold fr_k at h; rw [up_ne (by omega)]
  · exact fr_short h
theorem fr_up32 {x : mj_X} {k : Nat} {v : Int32} (h : fr_k k) : mj_up x 32 3 v k = x k := by unfold fr_k at h; rw [up_ne (by omega)]
theorem fr_next {x : mj_X} {e k : Nat} (h : fr_k k) : rc_next x e k = x k := by
  unfold rc_next; split
  · rw [fr_long h, fr_clear h, fr_up32 h]
  · split
    · rw [fr_conv h, fr_clear h, fr_up32 h]
    · rw [fr_clear h, fr_up32 h]
theorem fr_it {x : mj_X} {k : Nat} (h : fr_k k) : ∀ e, rc_it x e k = x k
  | 0 => by unfold fr_k at h; unfold rc_it; rw [up_ne (by omega), up_ne (by omega)]
  | e + 1 => by rw [rc_it, fr_next h, fr_it h e]
/-! the counters -/
theorem nb_badd {x : mj_X} {n : Nat} {d f m e t g : Int32} : bn_add x n d f m e t g 24 7 = nI (n + 1) := by unfold bn_add; rw [up_eq, upd_eq]
theorem nb_c2 {x : mj_X} {e nb : Nat} (hb : nb ≤ 82) (h : x 24 7 = nI nb) : ∃ m, m ≤ nb + 1 ∧ nb ≤ m ∧ rc_c2 x e 24 7 = nI m := by
  unfold rc_c2; split
  · exact ⟨nb + 1, by omega, by omega, by rw [nb_badd, bnN_eq hb h]⟩
  · exact ⟨nb, by omega, by omega, h⟩
theorem nb_conv {x : mj_X} {e nb : Nat} (hb : nb < 82) (h : x 24 7 = nI nb) : ∃ m, m ≤ nb + 2 ∧ nb ≤ m ∧ rc_conv x e 24 7 = nI m := by
  obtain ⟨m, h1, h3, h2⟩ := nb_c2 (e := e) (by omega) h
  unfold rc_conv; split
  · refine ⟨m + 1, by omega, by omega, ?_⟩
    unfold rc_great
    rw [spend_ne (by decide) (by decide), nb_badd, bnN_eq (by omega) h2]
  · exact ⟨m, by omega, h3, h2⟩
theorem nb_long {x : mj_X} {e nb : Nat} (h : x 24 7 = nI nb) : rc_long x e 24 7 = nI nb := by
  unfold rc_long; split
  · exact h
  · exact h
theorem nb_next {x : mj_X} {e nb : Nat} (hb : nb < 82) (h : x 24 7 = nI nb) : ∃ m, m ≤ nb + 2 ∧ nb ≤ m ∧ rc_next x e 24 7 = nI m := by
  have h0 : ev_clear (mj_up x 32 3 (nI (e + 1))) e 24 7 = nI nb := h
  unfold rc_next; split
  · exact ⟨nb, by omega, by omega, nb_long h0⟩
  · split
    · exact nb_conv hb h0
    · exact ⟨nb, by omega, by omega, h0⟩
theorem sf_c2 {x : mj_X} {e : Nat} : rc_c2 x e 32 3 = x 32 3 := by unfold rc_c2; split <;> rfl
theorem sf_next {x : mj_X} {e : Nat} : rc_next x e 32 3 = nI (e + 1) := by
  unfold rc_next; split
  · unfold rc_long; split <;> rfl
  · split
    · unfold rc_conv; split
      · unfold rc_great
        show rc_c2 _ e 32 3 = _
        rw [sf_c2]; rfl
      · rw [sf_c2]; rfl
    · rfl
theorem it_ok (x : mj_X) : ∀ e, e ≤ 41 → rc_it x e 32 3 = nI e ∧ ∃ nb, nb ≤ 2 * e ∧ rc_it x e 24 7 = nI nb
  | 0, _ => ⟨rfl, 0, by omega, rfl⟩
  | e + 1, h => by
    obtain ⟨h1, nb, h2, h3⟩ := it_ok x e (by omega)
    obtain ⟨m, h4, _, h5⟩ := nb_next (e := e) (by omega) h3
    exact ⟨sf_next, m, by omega, h5⟩
theorem cd_fr {x y : mj_X} {e : Nat} (h3 : y 3 = x 3) (h14 : y 14 = x 14) (h16 : y 16 = x 16) (h : cd_ok x e) : cd_ok y e := by
  obtain ⟨a, b, c⟩ := h
  exact ⟨a, b, by rw [h3, h14, h16]; exact c⟩
set_option maxHeartbeats 1000000 in
theorem c_rall (R : List mj_S) (x : mj_X) (n : Nat) (hn : n ≤ 41) (hsz : x 11 12 = nI n) (hcd : ∀ e, e < n → cd_ok x e) : mj_CV mX3_reckonAll (shX ++ R) [.ref 32] x (fun y => y = rc_it x n) := by
  refine mj_startV (ls := [some (.ref 32), none]) (by decide) rfl rfl (fun Q hQ => ?_)
  have loop : ∀ (k j : Nat), j ≤ n → n < j + k → mj_V mX3_reckonAll (shX ++ R) Q (rc_it x j) 15 [some (.ref 32), some (.int (nI j))] [] := by
    intro k
    induction k with
    | zero => intro j h1 h2; omega
    | succ k ih =>
      intro j h1 h2
      obtain ⟨s1, nb, s2, s3⟩ := it_ok x j (by omega)
      have hz : rc_it x j 11 12 = nI n := by rw [fr_it (Or.inl (by decide))]; exact hsz
      refine mj_ildn dX3_reckonAll_15 rfl ?_
      refine mj_aldn dX3_reckonAll_16 rfl ?_
      refine mj_getr fkX3_15 dX3_reckonAll_17 rfl rfl ?_
      refine mj_geti fkX3_32 dX3_reckonAll_20 rfl rfl ?_
      refine mj_ic_ge (tgt := 36) dX3_reckonAll_23 rfl (fun h_23 => ?_) (fun h_23 => ?_)
      · have hj : j = n := by rw [hz, nI_leI (by omega) (by omega)] at h_23; omega
        subst hj
        refine mj_retv rfl dX3_reckonAll_36 ?_
        exact hQ _ rfl
      · have hlt : j < n := by rw [hz, nI_leI (by omega) (by omega)] at h_23; omega
        refine mj_aldn dX3_reckonAll_26 rfl ?_
        refine mj_cvv (K := mX3_reckonNext) (c_rnext R (rc_it x j) n hn hz j hlt s1 nb (by omega) s3 (cd_fr (fr_it (Or.inl (by decide)) j) (fr_it (Or.inl (by decide)) j) (fr_it (Or.inl (by decide)) j) (hcd j hlt))) ckX3_reckonNext lkX3_35 ⟨Nat.le_of_ble_eq_true rfl, Nat.le_of_ble_eq_true rfl⟩ rfl dX3_reckonAll_27 rfl rfl (Nat.le_of_ble_eq_true rfl) (fun x_27 q_27 => ?_)
        subst q_27
        refine mj_inc1 dX3_reckonAll_30 ni_1 rfl ?_
        refine mj_goto (tgt := 15) dX3_reckonAll_33 rfl ?_
        exact mj_xl (ih (j + 1) (by omega) (by omega)) rfl (by rw [nI_1])
  refine mj_aldn dX3_reckonAll_0 rfl ?_
  refine mj_getr fkX3_19 dX3_reckonAll_1 rfl rfl ?_
  refine mj_iconst dX3_reckonAll_4 ni_0 ?_
  refine mj_puti fkX3_23 pkX0_7 dX3_reckonAll_5 rfl rfl ?_
  refine mj_aldn dX3_reckonAll_8 rfl ?_
  refine mj_iconst dX3_reckonAll_9 ni_0 ?_
  refine mj_puti fkX3_29 pkX3_3 dX3_reckonAll_10 rfl rfl ?_
  refine mj_iconst dX3_reckonAll_13 ni_0 ?_
  refine mj_istn1 dX3_reckonAll_14 rfl ?_
  exact loop (n + 1) 0 (by omega) (by omega)
end
