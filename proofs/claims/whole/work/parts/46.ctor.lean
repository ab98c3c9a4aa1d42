/-! constructors -/
theorem wA : mj_wd (.arrayClass .int) := ⟨List.mem_append_right _ (List.mem_of_getElem? (i := 47) (by decide +kernel)), rfl⟩
theorem wO1 : mj_wd (.instanceMethod Lib.objectInit) := ⟨List.mem_append_right _ (List.mem_of_getElem? (i := 20) (by decide +kernel)), rfl⟩
theorem wO2 : mj_wd (.code Lib.objectInit ⟨#[0xb1]⟩ 1 none) := ⟨List.mem_append_right _ (List.mem_of_getElem? (i := 21) (by decide +kernel)), rfl⟩
theorem woX0_3 : mj_wd (.methodLink RX0 3 Lib.objectInit) := ⟨List.mem_append_right _ (List.mem_of_getElem? (i := 140) (by decide +kernel)), rfl⟩
theorem woX1_3 : mj_wd (.methodLink RX1 3 Lib.objectInit) := ⟨List.mem_append_right _ (List.mem_of_getElem? (i := 192) (by decide +kernel)), rfl⟩
theorem woX2_3 : mj_wd (.methodLink RX2 3 Lib.objectInit) := ⟨List.mem_append_right _ (List.mem_of_getElem? (i := 74) (by decide +kernel)), rfl⟩
theorem woX3_3 : mj_wd (.methodLink RX3 3 Lib.objectInit) := ⟨List.mem_append_right _ (List.mem_of_getElem? (i := 173) (by decide +kernel)), rfl⟩
theorem woX4_3 : mj_wd (.methodLink RX4 3 Lib.objectInit) := ⟨List.mem_append_right _ (List.mem_of_getElem? (i := 27) (by decide +kernel)), rfl⟩
theorem woX5_3 : mj_wd (.methodLink RX5 3 Lib.objectInit) := ⟨List.mem_append_right _ (List.mem_of_getElem? (i := 53) (by decide +kernel)), rfl⟩
theorem woX6_1 : mj_wd (.methodLink RX6 1 Lib.objectInit) := ⟨List.mem_append_right _ (List.mem_of_getElem? (i := 19) (by decide +kernel)), rfl⟩
theorem woX7_1 : mj_wd (.methodLink RX7 1 Lib.objectInit) := ⟨List.mem_append_right _ (List.mem_of_getElem? (i := 681) (by decide +kernel)), rfl⟩
theorem lkX6_9 : mj_lk RX6 9 yX4_init := Or.inr ⟨"PointsOffice", List.mem_append_right _ (List.mem_of_getElem? (i := 24) (by decide +kernel)), rfl⟩
theorem lkX6_18 : mj_lk RX6 18 yX5_init := Or.inr ⟨"PointsOffice", List.mem_append_right _ (List.mem_of_getElem? (i := 50) (by decide +kernel)), rfl⟩
theorem lkX6_28 : mj_lk RX6 28 yX2_init := Or.inr ⟨"PointsOffice", List.mem_append_right _ (List.mem_of_getElem? (i := 71) (by decide +kernel)), rfl⟩
theorem lkX6_35 : mj_lk RX6 35 yX0_init := Or.inr ⟨"PointsOffice", List.mem_append_right _ (List.mem_of_getElem? (i := 137) (by decide +kernel)), rfl⟩
theorem lkX6_42 : mj_lk RX6 42 yX3_init := Or.inr ⟨"PointsOffice", List.mem_append_right _ (List.mem_of_getElem? (i := 170) (by decide +kernel)), rfl⟩
theorem lkX6_51 : mj_lk RX6 51 yX1_init := Or.inr ⟨"PointsOffice", List.mem_append_right _ (List.mem_of_getElem? (i := 189) (by decide +kernel)), rfl⟩
theorem lkL_9 : mj_lk "PointsOfficeLaw" 9 yX6_init := Or.inl ⟨List.mem_append_right _ (List.mem_of_getElem? (i := 16) (by decide +kernel)), rfl⟩
theorem lkL_12 : mj_lk "PointsOfficeLaw" 12 yX7_init := Or.inl ⟨List.mem_append_right _ (List.mem_of_getElem? (i := 678) (by decide +kernel)), rfl⟩
theorem ckX0_init : mj_ck mX0_init 0 := ⟨⟨List.mem_append_right _ (List.mem_of_getElem? (i := 139) (by decide +kernel)), rfl⟩, ⟨List.mem_append_right _ (List.mem_of_getElem? (i := 5) (by decide +kernel)), rfl⟩, ⟨by decide +kernel, by decide +kernel⟩, by decide +kernel⟩
theorem ciX0_init : mj_wd (.instanceMethod yX0_init) := ⟨List.mem_append_right _ (List.mem_of_getElem? (i := 138) (by decide +kernel)), rfl⟩
theorem cnX0 : mj_wd (.instantiable RX0 8) := ⟨List.mem_append_right _ (List.mem_of_getElem? (i := 136) (by decide +kernel)), rfl⟩
theorem czX0 : mj_wd (.initialized RX0) := ⟨List.mem_append_right _ (List.mem_of_getElem? (i := 5) (by decide +kernel)), rfl⟩
theorem ckX1_init : mj_ck mX1_init 0 := ⟨⟨List.mem_append_right _ (List.mem_of_getElem? (i := 191) (by decide +kernel)), rfl⟩, ⟨List.mem_append_right _ (List.mem_of_getElem? (i := 7) (by decide +kernel)), rfl⟩, ⟨by decide +kernel, by decide +kernel⟩, by decide +kernel⟩
theorem ciX1_init : mj_wd (.instanceMethod yX1_init) := ⟨List.mem_append_right _ (List.mem_of_getElem? (i := 190) (by decide +kernel)), rfl⟩
theorem cnX1 : mj_wd (.instantiable RX1 7) := ⟨List.mem_append_right _ (List.mem_of_getElem? (i := 188) (by decide +kernel)), rfl⟩
theorem czX1 : mj_wd (.initialized RX1) := ⟨List.mem_append_right _ (List.mem_of_getElem? (i := 7) (by decide +kernel)), rfl⟩
theorem ckX2_init : mj_ck mX2_init 0 := ⟨⟨List.mem_append_right _ (List.mem_of_getElem? (i := 73) (by decide +kernel)), rfl⟩, ⟨List.mem_append_right _ (List.mem_of_getElem? (i := 4) (by decide +kernel)), rfl⟩, ⟨by decide +kernel, by decide +kernel⟩, by decide +kernel⟩
theorem ciX2_init : mj_wd (.instanceMethod yX2_init) := ⟨List.mem_append_right _ (List.mem_of_getElem? (i := 72) (by decide +kernel)), rfl⟩
theorem cnX2 : mj_wd (.instantiable RX2 13) := ⟨List.mem_append_right _ (List.mem_of_getElem? (i := 70) (by decide +kernel)), rfl⟩
theorem czX2 : mj_wd (.initialized RX2) := ⟨List.mem_append_right _ (List.mem_of_getElem? (i := 4) (by decide +kernel)), rfl⟩
theorem ckX3_init : mj_ck mX3_init 3 := ⟨⟨List.mem_append_right _ (List.mem_of_getElem? (i := 172) (by decide +kernel)), rfl⟩, ⟨List.mem_append_right _ (List.mem_of_getElem? (i := 6) (by decide +kernel)), rfl⟩, ⟨by decide +kernel, by decide +kernel⟩, by decide +kernel⟩
theorem ciX3_init : mj_wd (.instanceMethod yX3_init) := ⟨List.mem_append_right _ (List.mem_of_getElem? (i := 171) (by decide +kernel)), rfl⟩
theorem cnX3 : mj_wd (.instantiable RX3 4) := ⟨List.mem_append_right _ (List.mem_of_getElem? (i := 169) (by decide +kernel)), rfl⟩
theorem czX3 : mj_wd (.initialized RX3) := ⟨List.mem_append_right _ (List.mem_of_getElem? (i := 6) (by decide +kernel)), rfl⟩
theorem ckX4_init : mj_ck mX4_init 0 := ⟨⟨List.mem_append_right _ (List.mem_of_getElem? (i := 26) (by decide +kernel)), rfl⟩, ⟨List.mem_append_right _ (List.mem_of_getElem? (i := 2) (by decide +kernel)), rfl⟩, ⟨by decide +kernel, by decide +kernel⟩, by decide +kernel⟩
theorem ciX4_init : mj_wd (.instanceMethod yX4_init) := ⟨List.mem_append_right _ (List.mem_of_getElem? (i := 25) (by decide +kernel)), rfl⟩
theorem cnX4 : mj_wd (.instantiable RX4 5) := ⟨List.mem_append_right _ (List.mem_of_getElem? (i := 23) (by decide +kernel)), rfl⟩
theorem czX4 : mj_wd (.initialized RX4) := ⟨List.mem_append_right _ (List.mem_of_getElem? (i := 2) (by decide +kernel)), rfl⟩
theorem ckX5_init : mj_ck mX5_init 0 := ⟨⟨List.mem_append_right _ (List.mem_of_getElem? (i := 52) (by decide +kernel)), rfl⟩, ⟨List.mem_append_right _ (List.mem_of_getElem? (i := 3) (by decide +kernel)), rfl⟩, ⟨by decide +kernel, by decide +kernel⟩, by decide +kernel⟩
theorem ciX5_init : mj_wd (.instanceMethod yX5_init) := ⟨List.mem_append_right _ (List.mem_of_getElem? (i := 51) (by decide +kernel)), rfl⟩
theorem cnX5 : mj_wd (.instantiable RX5 4) := ⟨List.mem_append_right _ (List.mem_of_getElem? (i := 49) (by decide +kernel)), rfl⟩
theorem czX5 : mj_wd (.initialized RX5) := ⟨List.mem_append_right _ (List.mem_of_getElem? (i := 3) (by decide +kernel)), rfl⟩
theorem ckX6_init : mj_ck mX6_init 0 := ⟨⟨List.mem_append_right _ (List.mem_of_getElem? (i := 18) (by decide +kernel)), rfl⟩, ⟨List.mem_append_right _ (List.mem_of_getElem? (i := 1) (by decide +kernel)), rfl⟩, ⟨by decide +kernel, by decide +kernel⟩, by decide +kernel⟩
theorem ciX6_init : mj_wd (.instanceMethod yX6_init) := ⟨List.mem_append_right _ (List.mem_of_getElem? (i := 17) (by decide +kernel)), rfl⟩
theorem cnX6 : mj_wd (.instantiable RX6 8) := ⟨List.mem_append_right _ (List.mem_of_getElem? (i := 15) (by decide +kernel)), rfl⟩
theorem czX6 : mj_wd (.initialized RX6) := ⟨List.mem_append_right _ (List.mem_of_getElem? (i := 1) (by decide +kernel)), rfl⟩
theorem ckX7_init : mj_ck mX7_init 0 := ⟨⟨List.mem_append_right _ (List.mem_of_getElem? (i := 680) (by decide +kernel)), rfl⟩, ⟨List.mem_append_right _ (List.mem_of_getElem? (i := 12) (by decide +kernel)), rfl⟩, ⟨by decide +kernel, by decide +kernel⟩, by decide +kernel⟩
theorem ciX7_init : mj_wd (.instanceMethod yX7_init) := ⟨List.mem_append_right _ (List.mem_of_getElem? (i := 679) (by decide +kernel)), rfl⟩
theorem cnX7 : mj_wd (.instantiable RX7 26) := ⟨List.mem_append_right _ (List.mem_of_getElem? (i := 677) (by decide +kernel)), rfl⟩
theorem czX7 : mj_wd (.initialized RX7) := ⟨List.mem_append_right _ (List.mem_of_getElem? (i := 12) (by decide +kernel)), rfl⟩
theorem clL_7 : mj_wd (.classLink "PointsOfficeLaw" 7 RX6) := ⟨List.mem_append_right _ (List.mem_of_getElem? (i := 14) (by decide +kernel)), rfl⟩
theorem clX6_7 : mj_wd (.classLink RX6 7 RX4) := ⟨List.mem_append_right _ (List.mem_of_getElem? (i := 22) (by decide +kernel)), rfl⟩
theorem clX6_16 : mj_wd (.classLink RX6 16 RX5) := ⟨List.mem_append_right _ (List.mem_of_getElem? (i := 48) (by decide +kernel)), rfl⟩
theorem clX6_26 : mj_wd (.classLink RX6 26 RX2) := ⟨List.mem_append_right _ (List.mem_of_getElem? (i := 69) (by decide +kernel)), rfl⟩
theorem clX6_33 : mj_wd (.classLink RX6 33 RX0) := ⟨List.mem_append_right _ (List.mem_of_getElem? (i := 135) (by decide +kernel)), rfl⟩
theorem clX6_40 : mj_wd (.classLink RX6 40 RX3) := ⟨List.mem_append_right _ (List.mem_of_getElem? (i := 168) (by decide +kernel)), rfl⟩
theorem clX6_49 : mj_wd (.classLink RX6 49 RX1) := ⟨List.mem_append_right _ (List.mem_of_getElem? (i := 187) (by decide +kernel)), rfl⟩
theorem clL_10 : mj_wd (.classLink "PointsOfficeLaw" 10 RX7) := ⟨List.mem_append_right _ (List.mem_of_getElem? (i := 676) (by decide +kernel)), rfl⟩
theorem flX6_10 : mj_wd (.fieldLink RX6 10 RX6 (TX6 0).2.1 (TX6 0).2.2.1) := ⟨List.mem_append_right _ (List.mem_of_getElem? (i := 329) (by decide +kernel)), rfl⟩
theorem flX6_19 : mj_wd (.fieldLink RX6 19 RX6 (TX6 1).2.1 (TX6 1).2.2.1) := ⟨List.mem_append_right _ (List.mem_of_getElem? (i := 330) (by decide +kernel)), rfl⟩
theorem flX6_23 : mj_wd (.fieldLink RX6 23 RX6 (TX6 2).2.1 (TX6 2).2.2.1) := ⟨List.mem_append_right _ (List.mem_of_getElem? (i := 331) (by decide +kernel)), rfl⟩
theorem flX6_29 : mj_wd (.fieldLink RX6 29 RX6 (TX6 3).2.1 (TX6 3).2.2.1) := ⟨List.mem_append_right _ (List.mem_of_getElem? (i := 332) (by decide +kernel)), rfl⟩
theorem flX6_36 : mj_wd (.fieldLink RX6 36 RX6 (TX6 4).2.1 (TX6 4).2.2.1) := ⟨List.mem_append_right _ (List.mem_of_getElem? (i := 333) (by decide +kernel)), rfl⟩
theorem flX6_45 : mj_wd (.fieldLink RX6 45 RX6 (TX6 5).2.1 (TX6 5).2.2.1) := ⟨List.mem_append_right _ (List.mem_of_getElem? (i := 334) (by decide +kernel)), rfl⟩
theorem flX6_52 : mj_wd (.fieldLink RX6 52 RX6 (TX6 6).2.1 (TX6 6).2.2.1) := ⟨List.mem_append_right _ (List.mem_of_getElem? (i := 335) (by decide +kernel)), rfl⟩
theorem flX6_98 : mj_wd (.fieldLink RX6 98 RX6 (TX6 7).2.1 (TX6 7).2.2.1) := ⟨List.mem_append_right _ (List.mem_of_getElem? (i := 336) (by decide +kernel)), rfl⟩
theorem flX0_11 : mj_wd (.fieldLink RX0 11 RX0 (TX0 0).2.1 (TX0 0).2.2.1) := ⟨List.mem_append_right _ (List.mem_of_getElem? (i := 141) (by decide +kernel)), rfl⟩
theorem flX0_15 : mj_wd (.fieldLink RX0 15 RX0 (TX0 1).2.1 (TX0 1).2.2.1) := ⟨List.mem_append_right _ (List.mem_of_getElem? (i := 142) (by decide +kernel)), rfl⟩
theorem flX0_18 : mj_wd (.fieldLink RX0 18 RX0 (TX0 2).2.1 (TX0 2).2.2.1) := ⟨List.mem_append_right _ (List.mem_of_getElem? (i := 143) (by decide +kernel)), rfl⟩
theorem flX0_21 : mj_wd (.fieldLink RX0 21 RX0 (TX0 3).2.1 (TX0 3).2.2.1) := ⟨List.mem_append_right _ (List.mem_of_getElem? (i := 144) (by decide +kernel)), rfl⟩
theorem flX0_24 : mj_wd (.fieldLink RX0 24 RX0 (TX0 4).2.1 (TX0 4).2.2.1) := ⟨List.mem_append_right _ (List.mem_of_getElem? (i := 145) (by decide +kernel)), rfl⟩
theorem flX0_27 : mj_wd (.fieldLink RX0 27 RX0 (TX0 5).2.1 (TX0 5).2.2.1) := ⟨List.mem_append_right _ (List.mem_of_getElem? (i := 146) (by decide +kernel)), rfl⟩
theorem flX0_30 : mj_wd (.fieldLink RX0 30 RX0 (TX0 6).2.1 (TX0 6).2.2.1) := ⟨List.mem_append_right _ (List.mem_of_getElem? (i := 147) (by decide +kernel)), rfl⟩
theorem flX0_33 : mj_wd (.fieldLink RX0 33 RX0 (TX0 7).2.1 (TX0 7).2.2.1) := ⟨List.mem_append_right _ (List.mem_of_getElem? (i := 148) (by decide +kernel)), rfl⟩
theorem flX1_9 : mj_wd (.fieldLink RX1 9 RX1 (TX1 0).2.1 (TX1 0).2.2.1) := ⟨List.mem_append_right _ (List.mem_of_getElem? (i := 193) (by decide +kernel)), rfl⟩
theorem flX1_15 : mj_wd (.fieldLink RX1 15 RX1 (TX1 1).2.1 (TX1 1).2.2.1) := ⟨List.mem_append_right _ (List.mem_of_getElem? (i := 194) (by decide +kernel)), rfl⟩
theorem flX1_18 : mj_wd (.fieldLink RX1 18 RX1 (TX1 2).2.1 (TX1 2).2.2.1) := ⟨List.mem_append_right _ (List.mem_of_getElem? (i := 195) (by decide +kernel)), rfl⟩
theorem flX1_21 : mj_wd (.fieldLink RX1 21 RX1 (TX1 3).2.1 (TX1 3).2.2.1) := ⟨List.mem_append_right _ (List.mem_of_getElem? (i := 196) (by decide +kernel)), rfl⟩
theorem flX1_28 : mj_wd (.fieldLink RX1 28 RX1 (TX1 4).2.1 (TX1 4).2.2.1) := ⟨List.mem_append_right _ (List.mem_of_getElem? (i := 198) (by decide +kernel)), rfl⟩
theorem flX1_31 : mj_wd (.fieldLink RX1 31 RX1 (TX1 5).2.1 (TX1 5).2.2.1) := ⟨List.mem_append_right _ (List.mem_of_getElem? (i := 200) (by decide +kernel)), rfl⟩
theorem flX1_34 : mj_wd (.fieldLink RX1 34 RX1 (TX1 6).2.1 (TX1 6).2.2.1) := ⟨List.mem_append_right _ (List.mem_of_getElem? (i := 202) (by decide +kernel)), rfl⟩
theorem flX2_11 : mj_wd (.fieldLink RX2 11 RX2 (TX2 0).2.1 (TX2 0).2.2.1) := ⟨List.mem_append_right _ (List.mem_of_getElem? (i := 75) (by decide +kernel)), rfl⟩
theorem flX2_15 : mj_wd (.fieldLink RX2 15 RX2 (TX2 1).2.1 (TX2 1).2.2.1) := ⟨List.mem_append_right _ (List.mem_of_getElem? (i := 78) (by decide +kernel)), rfl⟩
theorem flX2_18 : mj_wd (.fieldLink RX2 18 RX2 (TX2 2).2.1 (TX2 2).2.2.1) := ⟨List.mem_append_right _ (List.mem_of_getElem? (i := 81) (by decide +kernel)), rfl⟩
theorem flX2_21 : mj_wd (.fieldLink RX2 21 RX2 (TX2 3).2.1 (TX2 3).2.2.1) := ⟨List.mem_append_right _ (List.mem_of_getElem? (i := 83) (by decide +kernel)), rfl⟩
theorem flX2_24 : mj_wd (.fieldLink RX2 24 RX2 (TX2 4).2.1 (TX2 4).2.2.1) := ⟨List.mem_append_right _ (List.mem_of_getElem? (i := 86) (by decide +kernel)), rfl⟩
theorem flX2_27 : mj_wd (.fieldLink RX2 27 RX2 (TX2 5).2.1 (TX2 5).2.2.1) := ⟨List.mem_append_right _ (List.mem_of_getElem? (i := 88) (by decide +kernel)), rfl⟩
theorem flX2_30 : mj_wd (.fieldLink RX2 30 RX2 (TX2 6).2.1 (TX2 6).2.2.1) := ⟨List.mem_append_right _ (List.mem_of_getElem? (i := 91) (by decide +kernel)), rfl⟩
theorem flX2_33 : mj_wd (.fieldLink RX2 33 RX2 (TX2 7).2.1 (TX2 7).2.2.1) := ⟨List.mem_append_right _ (List.mem_of_getElem? (i := 94) (by decide +kernel)), rfl⟩
theorem flX2_36 : mj_wd (.fieldLink RX2 36 RX2 (TX2 8).2.1 (TX2 8).2.2.1) := ⟨List.mem_append_right _ (List.mem_of_getElem? (i := 97) (by decide +kernel)), rfl⟩
theorem flX2_39 : mj_wd (.fieldLink RX2 39 RX2 (TX2 9).2.1 (TX2 9).2.2.1) := ⟨List.mem_append_right _ (List.mem_of_getElem? (i := 99) (by decide +kernel)), rfl⟩
theorem flX2_42 : mj_wd (.fieldLink RX2 42 RX2 (TX2 10).2.1 (TX2 10).2.2.1) := ⟨List.mem_append_right _ (List.mem_of_getElem? (i := 101) (by decide +kernel)), rfl⟩
theorem flX2_45 : mj_wd (.fieldLink RX2 45 RX2 (TX2 11).2.1 (TX2 11).2.2.1) := ⟨List.mem_append_right _ (List.mem_of_getElem? (i := 103) (by decide +kernel)), rfl⟩
theorem flX2_48 : mj_wd (.fieldLink RX2 48 RX2 (TX2 12).2.1 (TX2 12).2.2.1) := ⟨List.mem_append_right _ (List.mem_of_getElem? (i := 105) (by decide +kernel)), rfl⟩
theorem flX3_9 : mj_wd (.fieldLink RX3 9 RX3 (TX3 0).2.1 (TX3 0).2.2.1) := ⟨List.mem_append_right _ (List.mem_of_getElem? (i := 174) (by decide +kernel)), rfl⟩
theorem flX3_15 : mj_wd (.fieldLink RX3 15 RX3 (TX3 1).2.1 (TX3 1).2.2.1) := ⟨List.mem_append_right _ (List.mem_of_getElem? (i := 175) (by decide +kernel)), rfl⟩
theorem flX3_19 : mj_wd (.fieldLink RX3 19 RX3 (TX3 2).2.1 (TX3 2).2.2.1) := ⟨List.mem_append_right _ (List.mem_of_getElem? (i := 176) (by decide +kernel)), rfl⟩
theorem flX3_29 : mj_wd (.fieldLink RX3 29 RX3 (TX3 3).2.1 (TX3 3).2.2.1) := ⟨List.mem_append_right _ (List.mem_of_getElem? (i := 177) (by decide +kernel)), rfl⟩
theorem flX4_9 : mj_wd (.fieldLink RX4 9 RX4 (TX4 0).2.1 (TX4 0).2.2.1) := ⟨List.mem_append_right _ (List.mem_of_getElem? (i := 28) (by decide +kernel)), rfl⟩
theorem flX4_15 : mj_wd (.fieldLink RX4 15 RX4 (TX4 1).2.1 (TX4 1).2.2.1) := ⟨List.mem_append_right _ (List.mem_of_getElem? (i := 29) (by decide +kernel)), rfl⟩
theorem flX4_24 : mj_wd (.fieldLink RX4 24 RX4 (TX4 2).2.1 (TX4 2).2.2.1) := ⟨List.mem_append_right _ (List.mem_of_getElem? (i := 31) (by decide +kernel)), rfl⟩
theorem flX4_27 : mj_wd (.fieldLink RX4 27 RX4 (TX4 4).2.1 (TX4 4).2.2.1) := ⟨List.mem_append_right _ (List.mem_of_getElem? (i := 34) (by decide +kernel)), rfl⟩
theorem flX4_30 : mj_wd (.fieldLink RX4 30 RX4 (TX4 3).2.1 (TX4 3).2.2.1) := ⟨List.mem_append_right _ (List.mem_of_getElem? (i := 33) (by decide +kernel)), rfl⟩
theorem flX5_9 : mj_wd (.fieldLink RX5 9 RX5 (TX5 0).2.1 (TX5 0).2.2.1) := ⟨List.mem_append_right _ (List.mem_of_getElem? (i := 54) (by decide +kernel)), rfl⟩
theorem flX5_15 : mj_wd (.fieldLink RX5 15 RX5 (TX5 1).2.1 (TX5 1).2.2.1) := ⟨List.mem_append_right _ (List.mem_of_getElem? (i := 55) (by decide +kernel)), rfl⟩
theorem flX5_18 : mj_wd (.fieldLink RX5 18 RX5 (TX5 2).2.1 (TX5 2).2.2.1) := ⟨List.mem_append_right _ (List.mem_of_getElem? (i := 56) (by decide +kernel)), rfl⟩
theorem flX5_24 : mj_wd (.fieldLink RX5 24 RX5 (TX5 3).2.1 (TX5 3).2.2.1) := ⟨List.mem_append_right _ (List.mem_of_getElem? (i := 57) (by decide +kernel)), rfl⟩
theorem flX7_7 : mj_wd (.fieldLink RX7 7 RX7 (TX7 1).2.1 (TX7 1).2.2.1) := ⟨List.mem_append_right _ (List.mem_of_getElem? (i := 695) (by decide +kernel)), rfl⟩
theorem flX7_13 : mj_wd (.fieldLink RX7 13 RX7 (TX7 2).2.1 (TX7 2).2.2.1) := ⟨List.mem_append_right _ (List.mem_of_getElem? (i := 696) (by decide +kernel)), rfl⟩
theorem flX7_16 : mj_wd (.fieldLink RX7 16 RX7 (TX7 3).2.1 (TX7 3).2.2.1) := ⟨List.mem_append_right _ (List.mem_of_getElem? (i := 697) (by decide +kernel)), rfl⟩
theorem flX7_19 : mj_wd (.fieldLink RX7 19 RX7 (TX7 7).2.1 (TX7 7).2.2.1) := ⟨List.mem_append_right _ (List.mem_of_getElem? (i := 701) (by decide +kernel)), rfl⟩
theorem flX7_22 : mj_wd (.fieldLink RX7 22 RX7 (TX7 8).2.1 (TX7 8).2.2.1) := ⟨List.mem_append_right _ (List.mem_of_getElem? (i := 702) (by decide +kernel)), rfl⟩
theorem flX7_25 : mj_wd (.fieldLink RX7 25 RX7 (TX7 9).2.1 (TX7 9).2.2.1) := ⟨List.mem_append_right _ (List.mem_of_getElem? (i := 703) (by decide +kernel)), rfl⟩
theorem flX7_28 : mj_wd (.fieldLink RX7 28 RX7 (TX7 11).2.1 (TX7 11).2.2.1) := ⟨List.mem_append_right _ (List.mem_of_getElem? (i := 705) (by decide +kernel)), rfl⟩
theorem flX7_31 : mj_wd (.fieldLink RX7 31 RX7 (TX7 12).2.1 (TX7 12).2.2.1) := ⟨List.mem_append_right _ (List.mem_of_getElem? (i := 706) (by decide +kernel)), rfl⟩
theorem flX7_34 : mj_wd (.fieldLink RX7 34 RX7 (TX7 16).2.1 (TX7 16).2.2.1) := ⟨List.mem_append_right _ (List.mem_of_getElem? (i := 710) (by decide +kernel)), rfl⟩
theorem flX7_37 : mj_wd (.fieldLink RX7 37 RX7 (TX7 17).2.1 (TX7 17).2.2.1) := ⟨List.mem_append_right _ (List.mem_of_getElem? (i := 711) (by decide +kernel)), rfl⟩
theorem flX7_40 : mj_wd (.fieldLink RX7 40 RX7 (TX7 18).2.1 (TX7 18).2.2.1) := ⟨List.mem_append_right _ (List.mem_of_getElem? (i := 712) (by decide +kernel)), rfl⟩
theorem flX7_43 : mj_wd (.fieldLink RX7 43 RX7 (TX7 20).2.1 (TX7 20).2.2.1) := ⟨List.mem_append_right _ (List.mem_of_getElem? (i := 714) (by decide +kernel)), rfl⟩
theorem flX7_46 : mj_wd (.fieldLink RX7 46 RX7 (TX7 21).2.1 (TX7 21).2.2.1) := ⟨List.mem_append_right _ (List.mem_of_getElem? (i := 715) (by decide +kernel)), rfl⟩
theorem flX7_49 : mj_wd (.fieldLink RX7 49 RX7 (TX7 22).2.1 (TX7 22).2.2.1) := ⟨List.mem_append_right _ (List.mem_of_getElem? (i := 716) (by decide +kernel)), rfl⟩
theorem flX7_52 : mj_wd (.fieldLink RX7 52 RX7 (TX7 23).2.1 (TX7 23).2.2.1) := ⟨List.mem_append_right _ (List.mem_of_getElem? (i := 717) (by decide +kernel)), rfl⟩
theorem flX7_55 : mj_wd (.fieldLink RX7 55 RX7 (TX7 24).2.1 (TX7 24).2.2.1) := ⟨List.mem_append_right _ (List.mem_of_getElem? (i := 718) (by decide +kernel)), rfl⟩
theorem flX7_58 : mj_wd (.fieldLink RX7 58 RX7 (TX7 25).2.1 (TX7 25).2.2.1) := ⟨List.mem_append_right _ (List.mem_of_getElem? (i := 719) (by decide +kernel)), rfl⟩
theorem flX7_71 : mj_wd (.fieldLink RX7 71 RX7 (TX7 10).2.1 (TX7 10).2.2.1) := ⟨List.mem_append_right _ (List.mem_of_getElem? (i := 704) (by decide +kernel)), rfl⟩
theorem flX7_83 : mj_wd (.fieldLink RX7 83 RX7 (TX7 0).2.1 (TX7 0).2.2.1) := ⟨List.mem_append_right _ (List.mem_of_getElem? (i := 694) (by decide +kernel)), rfl⟩
theorem flX7_86 : mj_wd (.fieldLink RX7 86 RX7 (TX7 14).2.1 (TX7 14).2.2.1) := ⟨List.mem_append_right _ (List.mem_of_getElem? (i := 708) (by decide +kernel)), rfl⟩
theorem flX7_115 : mj_wd (.fieldLink RX7 115 RX7 (TX7 13).2.1 (TX7 13).2.2.1) := ⟨List.mem_append_right _ (List.mem_of_getElem? (i := 707) (by decide +kernel)), rfl⟩
theorem flX7_124 : mj_wd (.fieldLink RX7 124 RX7 (TX7 6).2.1 (TX7 6).2.2.1) := ⟨List.mem_append_right _ (List.mem_of_getElem? (i := 700) (by decide +kernel)), rfl⟩
theorem flX7_127 : mj_wd (.fieldLink RX7 127 RX7 (TX7 4).2.1 (TX7 4).2.2.1) := ⟨List.mem_append_right _ (List.mem_of_getElem? (i := 698) (by decide +kernel)), rfl⟩
theorem flX7_130 : mj_wd (.fieldLink RX7 130 RX7 (TX7 5).2.1 (TX7 5).2.2.1) := ⟨List.mem_append_right _ (List.mem_of_getElem? (i := 699) (by decide +kernel)), rfl⟩
theorem flX7_133 : mj_wd (.fieldLink RX7 133 RX7 (TX7 15).2.1 (TX7 15).2.2.1) := ⟨List.mem_append_right _ (List.mem_of_getElem? (i := 709) (by decide +kernel)), rfl⟩
theorem flX7_199 : mj_wd (.fieldLink RX7 199 RX7 (TX7 19).2.1 (TX7 19).2.2.1) := ⟨List.mem_append_right _ (List.mem_of_getElem? (i := 713) (by decide +kernel)), rfl⟩
theorem n4 : gC mX4_init 1 200 [.inl (6, [.null, .null, .null, .null, .null, .null, .null, .int 0]), .inl (4, [.null, .int 0, .int 0, .int 0, .int 0])] [.ref 1] (fun g => g = [.inl (6, [.null, .null, .null, .null, .null, .null, .null, .int 0]), .inl (4, [.ref 2, .int 0, .int 0, .int 0, .int 0]), .inr (200, fun _ => 0)]) := by
  refine g_start (ls := [some (.ref 1)]) (by decide) rfl rfl (fun p l e s m args below meth c D ad cA h0 B hnm => ?_)
  refine g_aldn B dX4_init_0 rfl ?_
  refine g_obj B woX4_3 wO1 wO2 dX4_init_1 (by decide) (by decide) ?_
  refine g_aldn B dX4_init_4 rfl ?_
  refine g_sipush (v := nI 200) B dX4_init_5 (by decide) ?_
  refine g_newa (n := 200) B (by decide) rfl rfl (by decide) wA (by decide) (by decide) dX4_init_8 ?_
  refine g_putF (c1 := 2) (ty := .array .int) B (by decide) fkX4_9 flX4_9 rfl hnm tyX4_ok nmX4 rfl (by decide +kernel) (fun _ => rfl) (fun _ => rfl) rfl (by decide) dX4_init_10 ?_
  exact g_retv B rfl dX4_init_13 rfl
theorem n5 : gC mX5_init 3 18 [.inl (6, [.ref 1, .null, .null, .null, .null, .null, .null, .int 0]), .inl (4, [.ref 2, .int 0, .int 0, .int 0, .int 0]), .inr (200, fun _ => 0), .inl (5, [.null, .null, .null, .int 0])] [.ref 3] (fun g => g = [.inl (6, [.ref 1, .null, .null, .null, .null, .null, .null, .int 0]), .inl (4, [.ref 2, .int 0, .int 0, .int 0, .int 0]), .inr (200, fun _ => 0), .inl (5, [.ref 4, .ref 5, .ref 6, .int 0]), .inr (6, fun _ => 0), .inr (6, fun _ => 0), .inr (6, fun _ => 0)]) := by
  refine g_start (ls := [some (.ref 3)]) (by decide) rfl rfl (fun p l e s m args below meth c D ad cA h0 B hnm => ?_)
  refine g_aldn B dX5_init_0 rfl ?_
  refine g_obj B woX5_3 wO1 wO2 dX5_init_1 (by decide) (by decide) ?_
  refine g_aldn B dX5_init_4 rfl ?_
  refine g_bipush (v := nI 6) B dX5_init_5 (by decide) ?_
  refine g_newa (n := 6) B (by decide) rfl rfl (by decide) wA (by decide) (by decide) dX5_init_7 ?_
  refine g_putF (c1 := 4) (ty := .array .int) B (by decide) fkX5_9 flX5_9 rfl hnm tyX5_ok nmX5 rfl (by decide +kernel) (fun _ => rfl) (fun _ => rfl) rfl (by decide) dX5_init_9 ?_
  refine g_aldn B dX5_init_12 rfl ?_
  refine g_bipush (v := nI 6) B dX5_init_13 (by decide) ?_
  refine g_newa (n := 6) B (by decide) rfl rfl (by decide) wA (by decide) (by decide) dX5_init_15 ?_
  refine g_putF (c1 := 5) (ty := .array .int) B (by decide) fkX5_15 flX5_15 rfl hnm tyX5_ok nmX5 rfl (by decide +kernel) (fun _ => rfl) (fun _ => rfl) rfl (by decide) dX5_init_17 ?_
  refine g_aldn B dX5_init_20 rfl ?_
  refine g_bipush (v := nI 6) B dX5_init_21 (by decide) ?_
  refine g_newa (n := 6) B (by decide) rfl rfl (by decide) wA (by decide) (by decide) dX5_init_23 ?_
  refine g_putF (c1 := 6) (ty := .array .int) B (by decide) fkX5_18 flX5_18 rfl hnm tyX5_ok nmX5 rfl (by decide +kernel) (fun _ => rfl) (fun _ => rfl) rfl (by decide) dX5_init_25 ?_
  exact g_retv B rfl dX5_init_28 rfl
theorem n5b : gC mX5_init 3 18 [.inl (6, [.ref 1, .ref 3, .null, .null, .null, .null, .null, .int 0]), .inl (4, [.ref 2, .int 0, .int 0, .int 0, .int 0]), .inr (200, fun _ => 0), .inl (5, [.ref 4, .ref 5, .ref 6, .int 0]), .inr (6, fun _ => 0), .inr (6, fun _ => 0), .inr (6, fun _ => 0), .inl (5, [.null, .null, .null, .int 0])] [.ref 7] (fun g => g = [.inl (6, [.ref 1, .ref 3, .null, .null, .null, .null, .null, .int 0]), .inl (4, [.ref 2, .int 0, .int 0, .int 0, .int 0]), .inr (200, fun _ => 0), .inl (5, [.ref 4, .ref 5, .ref 6, .int 0]), .inr (6, fun _ => 0), .inr (6, fun _ => 0), .inr (6, fun _ => 0), .inl (5, [.ref 8, .ref 9, .ref 10, .int 0]), .inr (6, fun _ => 0), .inr (6, fun _ => 0), .inr (6, fun _ => 0)]) := by
  refine g_start (ls := [some (.ref 7)]) (by decide) rfl rfl (fun p l e s m args below meth c D ad cA h0 B hnm => ?_)
  refine g_aldn B dX5_init_0 rfl ?_
  refine g_obj B woX5_3 wO1 wO2 dX5_init_1 (by decide) (by decide) ?_
  refine g_aldn B dX5_init_4 rfl ?_
  refine g_bipush (v := nI 6) B dX5_init_5 (by decide) ?_
  refine g_newa (n := 6) B (by decide) rfl rfl (by decide) wA (by decide) (by decide) dX5_init_7 ?_
  refine g_putF (c1 := 8) (ty := .array .int) B (by decide) fkX5_9 flX5_9 rfl hnm tyX5_ok nmX5 rfl (by decide +kernel) (fun _ => rfl) (fun _ => rfl) rfl (by decide) dX5_init_9 ?_
  refine g_aldn B dX5_init_12 rfl ?_
  refine g_bipush (v := nI 6) B dX5_init_13 (by decide) ?_
  refine g_newa (n := 6) B (by decide) rfl rfl (by decide) wA (by decide) (by decide) dX5_init_15 ?_
  refine g_putF (c1 := 9) (ty := .array .int) B (by decide) fkX5_15 flX5_15 rfl hnm tyX5_ok nmX5 rfl (by decide +kernel) (fun _ => rfl) (fun _ => rfl) rfl (by decide) dX5_init_17 ?_
  refine g_aldn B dX5_init_20 rfl ?_
  refine g_bipush (v := nI 6) B dX5_init_21 (by decide) ?_
  refine g_newa (n := 6) B (by decide) rfl rfl (by decide) wA (by decide) (by decide) dX5_init_23 ?_
  refine g_putF (c1 := 10) (ty := .array .int) B (by decide) fkX5_18 flX5_18 rfl hnm tyX5_ok nmX5 rfl (by decide +kernel) (fun _ => rfl) (fun _ => rfl) rfl (by decide) dX5_init_25 ?_
  exact g_retv B rfl dX5_init_28 rfl
theorem n2 : gC mX2_init 12 492 [.inl (6, [.ref 1, .ref 3, .ref 7, .null, .null, .null, .null, .int 0]), .inl (4, [.ref 2, .int 0, .int 0, .int 0, .int 0]), .inr (200, fun _ => 0), .inl (5, [.ref 4, .ref 5, .ref 6, .int 0]), .inr (6, fun _ => 0), .inr (6, fun _ => 0), .inr (6, fun _ => 0), .inl (5, [.ref 8, .ref 9, .ref 10, .int 0]), .inr (6, fun _ => 0), .inr (6, fun _ => 0), .inr (6, fun _ => 0), .inl (2, [.null, .null, .null, .null, .null, .null, .null, .null, .null, .null, .null, .null, .int 0])] [.ref 11] (fun g => g = [.inl (6, [.ref 1, .ref 3, .ref 7, .null, .null, .null, .null, .int 0]), .inl (4, [.ref 2, .int 0, .int 0, .int 0, .int 0]), .inr (200, fun _ => 0), .inl (5, [.ref 4, .ref 5, .ref 6, .int 0]), .inr (6, fun _ => 0), .inr (6, fun _ => 0), .inr (6, fun _ => 0), .inl (5, [.ref 8, .ref 9, .ref 10, .int 0]), .inr (6, fun _ => 0), .inr (6, fun _ => 0), .inr (6, fun _ => 0), .inl (2, [.ref 12, .ref 13, .ref 14, .ref 15, .ref 16, .ref 17, .ref 18, .ref 19, .ref 20, .ref 21, .ref 22, .ref 23, .int 0]), .inr (41, fun _ => 0), .inr (41, fun _ => 0), .inr (41, fun _ => 0), .inr (41, fun _ => 0), .inr (41, fun _ => 0), .inr (41, fun _ => 0), .inr (41, fun _ => 0), .inr (41, fun _ => 0), .inr (41, fun _ => 0), .inr (41, fun _ => 0), .inr (41, fun _ => 0), .inr (41, fun _ => 0)]) := by
  refine g_start (ls := [some (.ref 11)]) (by decide) rfl rfl (fun p l e s m args below meth c D ad cA h0 B hnm => ?_)
  refine g_aldn B dX2_init_0 rfl ?_
  refine g_obj B woX2_3 wO1 wO2 dX2_init_1 (by decide) (by decide) ?_
  refine g_aldn B dX2_init_4 rfl ?_
  refine g_bipush (v := nI 41) B dX2_init_5 (by decide) ?_
  refine g_newa (n := 41) B (by decide) rfl rfl (by decide) wA (by decide) (by decide) dX2_init_7 ?_
  refine g_putF (c1 := 12) (ty := .array .int) B (by decide) fkX2_11 flX2_11 rfl hnm tyX2_ok nmX2 rfl (by decide +kernel) (fun _ => rfl) (fun _ => rfl) rfl (by decide) dX2_init_9 ?_
  refine g_aldn B dX2_init_12 rfl ?_
  refine g_bipush (v := nI 41) B dX2_init_13 (by decide) ?_
  refine g_newa (n := 41) B (by decide) rfl rfl (by decide) wA (by decide) (by decide) dX2_init_15 ?_
  refine g_putF (c1 := 13) (ty := .array .int) B (by decide) fkX2_15 flX2_15 rfl hnm tyX2_ok nmX2 rfl (by decide +kernel) (fun _ => rfl) (fun _ => rfl) rfl (by decide) dX2_init_17 ?_
  refine g_aldn B dX2_init_20 rfl ?_
  refine g_bipush (v := nI 41) B dX2_init_21 (by decide) ?_
  refine g_newa (n := 41) B (by decide) rfl rfl (by decide) wA (by decide) (by decide) dX2_init_23 ?_
  refine g_putF (c1 := 14) (ty := .array .int) B (by decide) fkX2_18 flX2_18 rfl hnm tyX2_ok nmX2 rfl (by decide +kernel) (fun _ => rfl) (fun _ => rfl) rfl (by decide) dX2_init_25 ?_
  refine g_aldn B dX2_init_28 rfl ?_
  refine g_bipush (v := nI 41) B dX2_init_29 (by decide) ?_
  refine g_newa (n := 41) B (by decide) rfl rfl (by decide) wA (by decide) (by decide) dX2_init_31 ?_
  refine g_putF (c1 := 15) (ty := .array .int) B (by decide) fkX2_21 flX2_21 rfl hnm tyX2_ok nmX2 rfl (by decide +kernel) (fun _ => rfl) (fun _ => rfl) rfl (by decide) dX2_init_33 ?_
  refine g_aldn B dX2_init_36 rfl ?_
  refine g_bipush (v := nI 41) B dX2_init_37 (by decide) ?_
  refine g_newa (n := 41) B (by decide) rfl rfl (by decide) wA (by decide) (by decide) dX2_init_39 ?_
  refine g_putF (c1 := 16) (ty := .array .int) B (by decide) fkX2_24 flX2_24 rfl hnm tyX2_ok nmX2 rfl (by decide +kernel) (fun _ => rfl) (fun _ => rfl) rfl (by decide) dX2_init_41 ?_
  refine g_aldn B dX2_init_44 rfl ?_
  refine g_bipush (v := nI 41) B dX2_init_45 (by decide) ?_
  refine g_newa (n := 41) B (by decide) rfl rfl (by decide) wA (by decide) (by decide) dX2_init_47 ?_
  refine g_putF (c1 := 17) (ty := .array .int) B (by decide) fkX2_27 flX2_27 rfl hnm tyX2_ok nmX2 rfl (by decide +kernel) (fun _ => rfl) (fun _ => rfl) rfl (by decide) dX2_init_49 ?_
  refine g_aldn B dX2_init_52 rfl ?_
  refine g_bipush (v := nI 41) B dX2_init_53 (by decide) ?_
  refine g_newa (n := 41) B (by decide) rfl rfl (by decide) wA (by decide) (by decide) dX2_init_55 ?_
  refine g_putF (c1 := 18) (ty := .array .int) B (by decide) fkX2_30 flX2_30 rfl hnm tyX2_ok nmX2 rfl (by decide +kernel) (fun _ => rfl) (fun _ => rfl) rfl (by decide) dX2_init_57 ?_
  refine g_aldn B dX2_init_60 rfl ?_
  refine g_bipush (v := nI 41) B dX2_init_61 (by decide) ?_
  refine g_newa (n := 41) B (by decide) rfl rfl (by decide) wA (by decide) (by decide) dX2_init_63 ?_
  refine g_putF (c1 := 19) (ty := .array .int) B (by decide) fkX2_33 flX2_33 rfl hnm tyX2_ok nmX2 rfl (by decide +kernel) (fun _ => rfl) (fun _ => rfl) rfl (by decide) dX2_init_65 ?_
  refine g_aldn B dX2_init_68 rfl ?_
  refine g_bipush (v := nI 41) B dX2_init_69 (by decide) ?_
  refine g_newa (n := 41) B (by decide) rfl rfl (by decide) wA (by decide) (by decide) dX2_init_71 ?_
  refine g_putF (c1 := 20) (ty := .array .int) B (by decide) fkX2_36 flX2_36 rfl hnm tyX2_ok nmX2 rfl (by decide +kernel) (fun _ => rfl) (fun _ => rfl) rfl (by decide) dX2_init_73 ?_
  refine g_aldn B dX2_init_76 rfl ?_
  refine g_bipush (v := nI 41) B dX2_init_77 (by decide) ?_
  refine g_newa (n := 41) B (by decide) rfl rfl (by decide) wA (by decide) (by decide) dX2_init_79 ?_
  refine g_putF (c1 := 21) (ty := .array .int) B (by decide) fkX2_39 flX2_39 rfl hnm tyX2_ok nmX2 rfl (by decide +kernel) (fun _ => rfl) (fun _ => rfl) rfl (by decide) dX2_init_81 ?_
  refine g_aldn B dX2_init_84 rfl ?_
  refine g_bipush (v := nI 41) B dX2_init_85 (by decide) ?_
  refine g_newa (n := 41) B (by decide) rfl rfl (by decide) wA (by decide) (by decide) dX2_init_87 ?_
  refine g_putF (c1 := 22) (ty := .array .int) B (by decide) fkX2_42 flX2_42 rfl hnm tyX2_ok nmX2 rfl (by decide +kernel) (fun _ => rfl) (fun _ => rfl) rfl (by decide) dX2_init_89 ?_
  refine g_aldn B dX2_init_92 rfl ?_
  refine g_bipush (v := nI 41) B dX2_init_93 (by decide) ?_
  refine g_newa (n := 41) B (by decide) rfl rfl (by decide) wA (by decide) (by decide) dX2_init_95 ?_
  refine g_putF (c1 := 23) (ty := .array .int) B (by decide) fkX2_45 flX2_45 rfl hnm tyX2_ok nmX2 rfl (by decide +kernel) (fun _ => rfl) (fun _ => rfl) rfl (by decide) dX2_init_97 ?_
  exact g_retv B rfl dX2_init_100 rfl
theorem n0 : gC mX0_init 7 574 [.inl (6, [.ref 1, .ref 3, .ref 7, .ref 11, .null, .null, .null, .int 0]), .inl (4, [.ref 2, .int 0, .int 0, .int 0, .int 0]), .inr (200, fun _ => 0), .inl (5, [.ref 4, .ref 5, .ref 6, .int 0]), .inr (6, fun _ => 0), .inr (6, fun _ => 0), .inr (6, fun _ => 0), .inl (5, [.ref 8, .ref 9, .ref 10, .int 0]), .inr (6, fun _ => 0), .inr (6, fun _ => 0), .inr (6, fun _ => 0), .inl (2, [.ref 12, .ref 13, .ref 14, .ref 15, .ref 16, .ref 17, .ref 18, .ref 19, .ref 20, .ref 21, .ref 22, .ref 23, .int 0]), .inr (41, fun _ => 0), .inr (41, fun _ => 0), .inr (41, fun _ => 0), .inr (41, fun _ => 0), .inr (41, fun _ => 0), .inr (41, fun _ => 0), .inr (41, fun _ => 0), .inr (41, fun _ => 0), .inr (41, fun _ => 0), .inr (41, fun _ => 0), .inr (41, fun _ => 0), .inr (41, fun _ => 0), .inl (0, [.null, .null, .null, .null, .null, .null, .null, .int 0])] [.ref 24] (fun g => g = [.inl (6, [.ref 1, .ref 3, .ref 7, .ref 11, .null, .null, .null, .int 0]), .inl (4, [.ref 2, .int 0, .int 0, .int 0, .int 0]), .inr (200, fun _ => 0), .inl (5, [.ref 4, .ref 5, .ref 6, .int 0]), .inr (6, fun _ => 0), .inr (6, fun _ => 0), .inr (6, fun _ => 0), .inl (5, [.ref 8, .ref 9, .ref 10, .int 0]), .inr (6, fun _ => 0), .inr (6, fun _ => 0), .inr (6, fun _ => 0), .inl (2, [.ref 12, .ref 13, .ref 14, .ref 15, .ref 16, .ref 17, .ref 18, .ref 19, .ref 20, .ref 21, .ref 22, .ref 23, .int 0]), .inr (41, fun _ => 0), .inr (41, fun _ => 0), .inr (41, fun _ => 0), .inr (41, fun _ => 0), .inr (41, fun _ => 0), .inr (41, fun _ => 0), .inr (41, fun _ => 0), .inr (41, fun _ => 0), .inr (41, fun _ => 0), .inr (41, fun _ => 0), .inr (41, fun _ => 0), .inr (41, fun _ => 0), .inl (0, [.ref 25, .ref 26, .ref 27, .ref 28, .ref 29, .ref 30, .ref 31, .int 0]), .inr (82, fun _ => 0), .inr (82, fun _ => 0), .inr (82, fun _ => 0), .inr (82, fun _ => 0), .inr (82, fun _ => 0), .inr (82, fun _ => 0), .inr (82, fun _ => 0)]) := by
  refine g_start (ls := [some (.ref 24)]) (by decide) rfl rfl (fun p l e s m args below meth c D ad cA h0 B hnm => ?_)
  refine g_aldn B dX0_init_0 rfl ?_
  refine g_obj B woX0_3 wO1 wO2 dX0_init_1 (by decide) (by decide) ?_
  refine g_aldn B dX0_init_4 rfl ?_
  refine g_bipush (v := nI 82) B dX0_init_5 (by decide) ?_
  refine g_newa (n := 82) B (by decide) rfl rfl (by decide) wA (by decide) (by decide) dX0_init_7 ?_
  refine g_putF (c1 := 25) (ty := .array .int) B (by decide) fkX0_11 flX0_11 rfl hnm tyX0_ok nmX0 rfl (by decide +kernel) (fun _ => rfl) (fun _ => rfl) rfl (by decide) dX0_init_9 ?_
  refine g_aldn B dX0_init_12 rfl ?_
  refine g_bipush (v := nI 82) B dX0_init_13 (by decide) ?_
  refine g_newa (n := 82) B (by decide) rfl rfl (by decide) wA (by decide) (by decide) dX0_init_15 ?_
  refine g_putF (c1 := 26) (ty := .array .int) B (by decide) fkX0_15 flX0_15 rfl hnm tyX0_ok nmX0 rfl (by decide +kernel) (fun _ => rfl) (fun _ => rfl) rfl (by decide) dX0_init_17 ?_
  refine g_aldn B dX0_init_20 rfl ?_
  refine g_bipush (v := nI 82) B dX0_init_21 (by decide) ?_
  refine g_newa (n := 82) B (by decide) rfl rfl (by decide) wA (by decide) (by decide) dX0_init_23 ?_
  refine g_putF (c1 := 27) (ty := .array .int) B (by decide) fkX0_18 flX0_18 rfl hnm tyX0_ok nmX0 rfl (by decide +kernel) (fun _ => rfl) (fun _ => rfl) rfl (by decide) dX0_init_25 ?_
  refine g_aldn B dX0_init_28 rfl ?_
  refine g_bipush (v := nI 82) B dX0_init_29 (by decide) ?_
  refine g_newa (n := 82) B (by decide) rfl rfl (by decide) wA (by decide) (by decide) dX0_init_31 ?_
  refine g_putF (c1 := 28) (ty := .array .int) B (by decide) fkX0_21 flX0_21 rfl hnm tyX0_ok nmX0 rfl (by decide +kernel) (fun _ => rfl) (fun _ => rfl) rfl (by decide) dX0_init_33 ?_
  refine g_aldn B dX0_init_36 rfl ?_
  refine g_bipush (v := nI 82) B dX0_init_37 (by decide) ?_
  refine g_newa (n := 82) B (by decide) rfl rfl (by decide) wA (by decide) (by decide) dX0_init_39 ?_
  refine g_putF (c1 := 29) (ty := .array .int) B (by decide) fkX0_24 flX0_24 rfl hnm tyX0_ok nmX0 rfl (by decide +kernel) (fun _ => rfl) (fun _ => rfl) rfl (by decide) dX0_init_41 ?_
  refine g_aldn B dX0_init_44 rfl ?_
  refine g_bipush (v := nI 82) B dX0_init_45 (by decide) ?_
  refine g_newa (n := 82) B (by decide) rfl rfl (by decide) wA (by decide) (by decide) dX0_init_47 ?_
  refine g_putF (c1 := 30) (ty := .array .int) B (by decide) fkX0_27 flX0_27 rfl hnm tyX0_ok nmX0 rfl (by decide +kernel) (fun _ => rfl) (fun _ => rfl) rfl (by decide) dX0_init_49 ?_
  refine g_aldn B dX0_init_52 rfl ?_
  refine g_bipush (v := nI 82) B dX0_init_53 (by decide) ?_
  refine g_newa (n := 82) B (by decide) rfl rfl (by decide) wA (by decide) (by decide) dX0_init_55 ?_
  refine g_putF (c1 := 31) (ty := .array .int) B (by decide) fkX0_30 flX0_30 rfl hnm tyX0_ok nmX0 rfl (by decide +kernel) (fun _ => rfl) (fun _ => rfl) rfl (by decide) dX0_init_57 ?_
  exact g_retv B rfl dX0_init_60 rfl
theorem n3 : gC mX3_init 0 0 [.inl (6, [.ref 1, .ref 3, .ref 7, .ref 11, .ref 24, .null, .null, .int 0]), .inl (4, [.ref 2, .int 0, .int 0, .int 0, .int 0]), .inr (200, fun _ => 0), .inl (5, [.ref 4, .ref 5, .ref 6, .int 0]), .inr (6, fun _ => 0), .inr (6, fun _ => 0), .inr (6, fun _ => 0), .inl (5, [.ref 8, .ref 9, .ref 10, .int 0]), .inr (6, fun _ => 0), .inr (6, fun _ => 0), .inr (6, fun _ => 0), .inl (2, [.ref 12, .ref 13, .ref 14, .ref 15, .ref 16, .ref 17, .ref 18, .ref 19, .ref 20, .ref 21, .ref 22, .ref 23, .int 0]), .inr (41, fun _ => 0), .inr (41, fun _ => 0), .inr (41, fun _ => 0), .inr (41, fun _ => 0), .inr (41, fun _ => 0), .inr (41, fun _ => 0), .inr (41, fun _ => 0), .inr (41, fun _ => 0), .inr (41, fun _ => 0), .inr (41, fun _ => 0), .inr (41, fun _ => 0), .inr (41, fun _ => 0), .inl (0, [.ref 25, .ref 26, .ref 27, .ref 28, .ref 29, .ref 30, .ref 31, .int 0]), .inr (82, fun _ => 0), .inr (82, fun _ => 0), .inr (82, fun _ => 0), .inr (82, fun _ => 0), .inr (82, fun _ => 0), .inr (82, fun _ => 0), .inr (82, fun _ => 0), .inl (3, [.null, .null, .null, .int 0])] [.ref 32, .ref 3, .ref 11, .ref 24] (fun g => g = [.inl (6, [.ref 1, .ref 3, .ref 7, .ref 11, .ref 24, .null, .null, .int 0]), .inl (4, [.ref 2, .int 0, .int 0, .int 0, .int 0]), .inr (200, fun _ => 0), .inl (5, [.ref 4, .ref 5, .ref 6, .int 0]), .inr (6, fun _ => 0), .inr (6, fun _ => 0), .inr (6, fun _ => 0), .inl (5, [.ref 8, .ref 9, .ref 10, .int 0]), .inr (6, fun _ => 0), .inr (6, fun _ => 0), .inr (6, fun _ => 0), .inl (2, [.ref 12, .ref 13, .ref 14, .ref 15, .ref 16, .ref 17, .ref 18, .ref 19, .ref 20, .ref 21, .ref 22, .ref 23, .int 0]), .inr (41, fun _ => 0), .inr (41, fun _ => 0), .inr (41, fun _ => 0), .inr (41, fun _ => 0), .inr (41, fun _ => 0), .inr (41, fun _ => 0), .inr (41, fun _ => 0), .inr (41, fun _ => 0), .inr (41, fun _ => 0), .inr (41, fun _ => 0), .inr (41, fun _ => 0), .inr (41, fun _ => 0), .inl (0, [.ref 25, .ref 26, .ref 27, .ref 28, .ref 29, .ref 30, .ref 31, .int 0]), .inr (82, fun _ => 0), .inr (82, fun _ => 0), .inr (82, fun _ => 0), .inr (82, fun _ => 0), .inr (82, fun _ => 0), .inr (82, fun _ => 0), .inr (82, fun _ => 0), .inl (3, [.ref 3, .ref 11, .ref 24, .int 0])]) := by
  refine g_start (ls := [some (.ref 32), some (.ref 3), some (.ref 11), some (.ref 24)]) (by decide) rfl rfl (fun p l e s m args below meth c D ad cA h0 B hnm => ?_)
  refine g_aldn B dX3_init_0 rfl ?_
  refine g_obj B woX3_3 wO1 wO2 dX3_init_1 (by decide) (by decide) ?_
  refine g_aldn B dX3_init_4 rfl ?_
  refine g_aldn B dX3_init_5 rfl ?_
  refine g_putF (c1 := 3) (ty := .object "PointsOffice$Rules") B (by decide) fkX3_9 flX3_9 rfl hnm tyX3_ok nmX3 rfl (by decide +kernel) (fun _ => rfl) (fun _ => rfl) rfl (by decide) dX3_init_6 ?_
  refine g_aldn B dX3_init_9 rfl ?_
  refine g_aldn B dX3_init_10 rfl ?_
  refine g_putF (c1 := 11) (ty := .object "PointsOffice$Events") B (by decide) fkX3_15 flX3_15 rfl hnm tyX3_ok nmX3 rfl (by decide +kernel) (fun _ => rfl) (fun _ => rfl) rfl (by decide) dX3_init_11 ?_
  refine g_aldn B dX3_init_14 rfl ?_
  refine g_aldn B dX3_init_15 rfl ?_
  refine g_putF (c1 := 24) (ty := .object "PointsOffice$Bans") B (by decide) fkX3_19 flX3_19 rfl hnm tyX3_ok nmX3 rfl (by decide +kernel) (fun _ => rfl) (fun _ => rfl) rfl (by decide) dX3_init_16 ?_
  exact g_retv B rfl dX3_init_19 rfl
theorem n1c : gC mX1_init 3 18 [.inl (6, [.ref 1, .ref 3, .ref 7, .ref 11, .ref 24, .ref 32, .null, .int 0]), .inl (4, [.ref 2, .int 0, .int 0, .int 0, .int 0]), .inr (200, fun _ => 0), .inl (5, [.ref 4, .ref 5, .ref 6, .int 0]), .inr (6, fun _ => 0), .inr (6, fun _ => 0), .inr (6, fun _ => 0), .inl (5, [.ref 8, .ref 9, .ref 10, .int 0]), .inr (6, fun _ => 0), .inr (6, fun _ => 0), .inr (6, fun _ => 0), .inl (2, [.ref 12, .ref 13, .ref 14, .ref 15, .ref 16, .ref 17, .ref 18, .ref 19, .ref 20, .ref 21, .ref 22, .ref 23, .int 0]), .inr (41, fun _ => 0), .inr (41, fun _ => 0), .inr (41, fun _ => 0), .inr (41, fun _ => 0), .inr (41, fun _ => 0), .inr (41, fun _ => 0), .inr (41, fun _ => 0), .inr (41, fun _ => 0), .inr (41, fun _ => 0), .inr (41, fun _ => 0), .inr (41, fun _ => 0), .inr (41, fun _ => 0), .inl (0, [.ref 25, .ref 26, .ref 27, .ref 28, .ref 29, .ref 30, .ref 31, .int 0]), .inr (82, fun _ => 0), .inr (82, fun _ => 0), .inr (82, fun _ => 0), .inr (82, fun _ => 0), .inr (82, fun _ => 0), .inr (82, fun _ => 0), .inr (82, fun _ => 0), .inl (3, [.ref 3, .ref 11, .ref 24, .int 0]), .inl (1, [.null, .null, .null, .int 0, .int 0, .int 0, .int 0])] [.ref 33] (fun g => g = [.inl (6, [.ref 1, .ref 3, .ref 7, .ref 11, .ref 24, .ref 32, .null, .int 0]), .inl (4, [.ref 2, .int 0, .int 0, .int 0, .int 0]), .inr (200, fun _ => 0), .inl (5, [.ref 4, .ref 5, .ref 6, .int 0]), .inr (6, fun _ => 0), .inr (6, fun _ => 0), .inr (6, fun _ => 0), .inl (5, [.ref 8, .ref 9, .ref 10, .int 0]), .inr (6, fun _ => 0), .inr (6, fun _ => 0), .inr (6, fun _ => 0), .inl (2, [.ref 12, .ref 13, .ref 14, .ref 15, .ref 16, .ref 17, .ref 18, .ref 19, .ref 20, .ref 21, .ref 22, .ref 23, .int 0]), .inr (41, fun _ => 0), .inr (41, fun _ => 0), .inr (41, fun _ => 0), .inr (41, fun _ => 0), .inr (41, fun _ => 0), .inr (41, fun _ => 0), .inr (41, fun _ => 0), .inr (41, fun _ => 0), .inr (41, fun _ => 0), .inr (41, fun _ => 0), .inr (41, fun _ => 0), .inr (41, fun _ => 0), .inl (0, [.ref 25, .ref 26, .ref 27, .ref 28, .ref 29, .ref 30, .ref 31, .int 0]), .inr (82, fun _ => 0), .inr (82, fun _ => 0), .inr (82, fun _ => 0), .inr (82, fun _ => 0), .inr (82, fun _ => 0), .inr (82, fun _ => 0), .inr (82, fun _ => 0), .inl (3, [.ref 3, .ref 11, .ref 24, .int 0]), .inl (1, [.ref 34, .ref 35, .ref 36, .int 0, .int 0, .int 0, .int 0]), .inr (6, fun _ => 0), .inr (6, fun _ => 0), .inr (6, fun _ => 0)]) := by
  refine g_start (ls := [some (.ref 33)]) (by decide) rfl rfl (fun p l e s m args below meth c D ad cA h0 B hnm => ?_)
  refine g_aldn B dX1_init_0 rfl ?_
  refine g_obj B woX1_3 wO1 wO2 dX1_init_1 (by decide) (by decide) ?_
  refine g_aldn B dX1_init_4 rfl ?_
  refine g_bipush (v := nI 6) B dX1_init_5 (by decide) ?_
  refine g_newa (n := 6) B (by decide) rfl rfl (by decide) wA (by decide) (by decide) dX1_init_7 ?_
  refine g_putF (c1 := 34) (ty := .array .int) B (by decide) fkX1_9 flX1_9 rfl hnm tyX1_ok nmX1 rfl (by decide +kernel) (fun _ => rfl) (fun _ => rfl) rfl (by decide) dX1_init_9 ?_
  refine g_aldn B dX1_init_12 rfl ?_
  refine g_bipush (v := nI 6) B dX1_init_13 (by decide) ?_
  refine g_newa (n := 6) B (by decide) rfl rfl (by decide) wA (by decide) (by decide) dX1_init_15 ?_
  refine g_putF (c1 := 35) (ty := .array .int) B (by decide) fkX1_15 flX1_15 rfl hnm tyX1_ok nmX1 rfl (by decide +kernel) (fun _ => rfl) (fun _ => rfl) rfl (by decide) dX1_init_17 ?_
  refine g_aldn B dX1_init_20 rfl ?_
  refine g_bipush (v := nI 6) B dX1_init_21 (by decide) ?_
  refine g_newa (n := 6) B (by decide) rfl rfl (by decide) wA (by decide) (by decide) dX1_init_23 ?_
  refine g_putF (c1 := 36) (ty := .array .int) B (by decide) fkX1_18 flX1_18 rfl hnm tyX1_ok nmX1 rfl (by decide +kernel) (fun _ => rfl) (fun _ => rfl) rfl (by decide) dX1_init_25 ?_
  exact g_retv B rfl dX1_init_28 rfl
