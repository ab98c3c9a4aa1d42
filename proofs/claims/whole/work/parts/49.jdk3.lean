/-! String.length, String.charAt of the constant -/
theorem jw38 : mj_wd (.fieldLink "java/lang/String" 38 "java/lang/String" "COMPACT_STRINGS" "Z") := ⟨List.mem_append_right _ (List.mem_of_getElem? (i := 228) (by decide +kernel)), rfl⟩
theorem jw9 : mj_wd (.fieldLink "java/lang/String" 9 "java/lang/String" "value" "[B") := ⟨List.mem_append_right _ (List.mem_of_getElem? (i := 1039) (by decide +kernel)), rfl⟩
theorem jw15 : mj_wd (.fieldLink "java/lang/String" 15 "java/lang/String" "coder" "B") := ⟨List.mem_append_right _ (List.mem_of_getElem? (i := 1040) (by decide +kernel)), rfl⟩
theorem jw1053 : mj_wd (.fieldLink "java/lang/String" 1053 "jdk/internal/util/Preconditions" "SIOOBE_FORMATTER" "Ljava/util/function/BiFunction;") := ⟨List.mem_append_right _ (List.mem_of_getElem? (i := 244) (by decide +kernel)), rfl⟩
theorem jm335 : mj_wd (.methodLink "java/lang/String" 335 yJ0_coder_7d493) := ⟨List.mem_append_right _ (List.mem_of_getElem? (i := 224) (by decide +kernel)), rfl⟩
theorem jm492 : mj_wd (.methodLink "java/lang/String" 492 yJ0_isLatin1_aae02) := ⟨List.mem_append_right _ (List.mem_of_getElem? (i := 234) (by decide +kernel)), rfl⟩
theorem jm495 : mj_wd (.methodLink "java/lang/String" 495 yJ1_charAt_3b067) := ⟨List.mem_append_right _ (List.mem_of_getElem? (i := 238) (by decide +kernel)), rfl⟩
theorem jm9 : mj_wd (.methodLink "java/lang/StringLatin1" 9 yJ0_checkIndex_df160) := ⟨List.mem_append_right _ (List.mem_of_getElem? (i := 241) (by decide +kernel)), rfl⟩
theorem jm1059 : mj_wd (.methodLink "java/lang/String" 1059 yJ3_checkIndex_8e157) := ⟨List.mem_append_right _ (List.mem_of_getElem? (i := 246) (by decide +kernel)), rfl⟩
theorem jm58 : mj_wd (.methodLink "PointsOffice" 58 yJ0_length_8abf5) := ⟨List.mem_append_right _ (List.mem_of_getElem? (i := 220) (by decide +kernel)), rfl⟩
theorem jm64 : mj_wd (.methodLink "PointsOffice" 64 yJ0_charAt_5068e) := ⟨List.mem_append_right _ (List.mem_of_getElem? (i := 230) (by decide +kernel)), rfl⟩
theorem tx_nar : ∀ j, j < 46 → ((txB.getD j 0 &&& 255).toUInt32 % 65536).toInt32 = txB.getD j 0 := by decide +kernel
theorem tx_chr : ∀ j, j < 46 → (txB.getD j 0).toUInt32.toUInt16.toUInt32.toInt32 = txB.getD j 0 := by decide +kernel
theorem j_chk3 (gw : List gS) (j : Nat) (hj : j < 46) : sC mJ3_checkIndex_8e157 gw [.int (nI j), .int (nI 46), .ref 106] (some (.int (nI j))) := by
  refine s_start (ls := [some (.int (nI j)), some (.int (nI 46)), some (.ref 106)]) (by decide) rfl rfl (fun p l e s m args below meth c D ad cA h0 B => ?_)
  refine g_ildn B dJ3_checkIndex_8e157_0 rfl ?_
  refine g_if_lt (tgt := 9) B dJ3_checkIndex_8e157_1 rfl (fun h => absurd h (nI_pos (by omega))) (fun _ => ?_)
  refine g_ildn B dJ3_checkIndex_8e157_4 rfl ?_
  refine g_ildn B dJ3_checkIndex_8e157_5 rfl ?_
  refine g_ic_lt (tgt := 16) B dJ3_checkIndex_8e157_6 rfl (fun _ => ?_) (fun h => absurd (nI_lt hj (by decide)) h)
  refine g_ildn B dJ3_checkIndex_8e157_16 rfl ?_
  exact s_ret B rfl rfl dJ3_checkIndex_8e157_17
theorem j_chk3n (gw : List gS) (j : Nat) (hj : j < 46) : sC mJ3_checkIndex_8e157 gw [.int (nI j), .int (nI 46), .null] (some (.int (nI j))) := by
  refine s_start (ls := [some (.int (nI j)), some (.int (nI 46)), some (.null)]) (by decide) rfl rfl (fun p l e s m args below meth c D ad cA h0 B => ?_)
  refine g_ildn B dJ3_checkIndex_8e157_0 rfl ?_
  refine g_if_lt (tgt := 9) B dJ3_checkIndex_8e157_1 rfl (fun h => absurd h (nI_pos (by omega))) (fun _ => ?_)
  refine g_ildn B dJ3_checkIndex_8e157_4 rfl ?_
  refine g_ildn B dJ3_checkIndex_8e157_5 rfl ?_
  refine g_ic_lt (tgt := 16) B dJ3_checkIndex_8e157_6 rfl (fun _ => ?_) (fun h => absurd (nI_lt hj (by decide)) h)
  refine g_ildn B dJ3_checkIndex_8e157_16 rfl ?_
  exact s_ret B rfl rfl dJ3_checkIndex_8e157_17
theorem j_chk (gw : List gS) (hl : gw.length ≤ 100) (j : Nat) (hj : j < 46) : sC mJ0_checkIndex_df160 gw [.int (nI j), .int (nI 46)] none := by
  refine s_start (ls := [some (.int (nI j)), some (.int (nI 46))]) (by decide) rfl rfl (fun p l e s m args below meth c D ad cA h0 B => ?_)
  refine g_ildn B dJ0_checkIndex_df160_0 rfl ?_
  refine g_ildn B dJ0_checkIndex_df160_1 rfl ?_
  rcases B.2.2.2.2.2.2.1.2.2.1.2.2.2.1 with hq | hq
  · refine g_gets (v := .ref 106) B hq jw1053 dJ0_checkIndex_df160_2 ?_
    refine s_callS (As := [.int (nI j), .int (nI 46), .ref 106]) (st := []) B hl rfl (j_chk3 gw j hj) ckJ3_checkIndex_8e157 jm1059 ⟨by decide, by decide⟩ ⟨by decide, by decide⟩ rfl dJ0_checkIndex_df160_5 (by decide) ?_
    refine g_popi B dJ0_checkIndex_df160_8 ?_
    exact s_retv B rfl dJ0_checkIndex_df160_9
  · refine g_gets (v := .null) B hq jw1053 dJ0_checkIndex_df160_2 ?_
    refine s_callS (As := [.int (nI j), .int (nI 46), .null]) (st := []) B hl rfl (j_chk3n gw j hj) ckJ3_checkIndex_8e157 jm1059 ⟨by decide, by decide⟩ ⟨by decide, by decide⟩ rfl dJ0_checkIndex_df160_5 (by decide) ?_
    refine g_popi B dJ0_checkIndex_df160_8 ?_
    exact s_retv B rfl dJ0_checkIndex_df160_9
theorem j_lat (gw : List gS) (hl : gw.length ≤ 100) (j : Nat) (hj : j < 46) : sC mJ1_charAt_3b067 gw [.ref 105, .int (nI j)] (some (.int (txB.getD j 0))) := by
  refine s_start (ls := [some (.ref 105), some (.int (nI j))]) (by decide) rfl rfl (fun p l e s m args below meth c D ad cA h0 B => ?_)
  refine g_ildn B dJ1_charAt_3b067_0 rfl ?_
  refine g_aldn B dJ1_charAt_3b067_1 rfl ?_
  refine g_tlen B dJ1_charAt_3b067_2 ?_
  refine s_callS (As := [.int (nI j), .int (nI 46)]) (st := []) B hl rfl (j_chk gw hl j hj) ckJ0_checkIndex_df160 jm9 ⟨by decide, by decide⟩ ⟨by decide, by decide⟩ rfl dJ1_charAt_3b067_3 (by decide) ?_
  refine g_aldn B dJ1_charAt_3b067_6 rfl ?_
  refine g_ildn B dJ1_charAt_3b067_7 rfl ?_
  refine g_tb B rfl hj dJ1_charAt_3b067_8 ?_
  refine g_sipush (v := 255) B dJ1_charAt_3b067_9 (by decide) ?_
  refine g_iand B dJ1_charAt_3b067_12 ?_
  refine g_i2c B (tx_nar j hj) dJ1_charAt_3b067_13 ?_
  refine s_ret B rfl ?_ dJ1_charAt_3b067_14
  show Value.int ((txB.getD j 0).toUInt32.toUInt16.toUInt32.toInt32) = _
  rw [tx_chr j hj]
theorem j_cod (gw : List gS) : sC mJ0_coder_7d493 gw [.ref 104] (some (.int 0)) := by
  refine s_start (ls := [some (.ref 104)]) (by decide) rfl rfl (fun p l e s m args below meth c D ad cA h0 B => ?_)
  refine g_gets (v := .int 1) B B.2.2.2.2.2.2.1.2.2.1.2.2.1 jw38 dJ0_coder_7d493_0 ?_
  refine g_if_eq (tgt := 13) B dJ0_coder_7d493_3 rfl (fun h => absurd h (by decide)) (fun _ => ?_)
  refine g_aldn B dJ0_coder_7d493_6 rfl ?_
  refine g_getS (v := .int 0) B (B.2.2.2.2.2.2.1.2.2.1.2.1.1 0 (by decide)).2.1 jw15 dJ0_coder_7d493_7 ?_
  refine g_goto (tgt := 14) B dJ0_coder_7d493_10 rfl ?_
  exact s_ret B rfl rfl dJ0_coder_7d493_14
theorem j_isL (gw : List gS) : sC mJ0_isLatin1_aae02 gw [.ref 104] (some (.int 1)) := by
  refine s_start (ls := [some (.ref 104)]) (by decide) rfl rfl (fun p l e s m args below meth c D ad cA h0 B => ?_)
  refine g_gets (v := .int 1) B B.2.2.2.2.2.2.1.2.2.1.2.2.1 jw38 dJ0_isLatin1_aae02_0 ?_
  refine g_if_eq (tgt := 17) B dJ0_isLatin1_aae02_3 rfl (fun h => absurd h (by decide)) (fun _ => ?_)
  refine g_aldn B dJ0_isLatin1_aae02_6 rfl ?_
  refine g_getS (v := .int 0) B (B.2.2.2.2.2.2.1.2.2.1.2.1.1 0 (by decide)).2.1 jw15 dJ0_isLatin1_aae02_7 ?_
  refine g_if_ne (tgt := 17) B dJ0_isLatin1_aae02_10 rfl (fun h => absurd rfl h) (fun _ => ?_)
  refine g_iconst (v := 1) B dJ0_isLatin1_aae02_13 (by decide) ?_
  refine g_goto (tgt := 18) B dJ0_isLatin1_aae02_14 rfl ?_
  exact s_ret B rfl rfl dJ0_isLatin1_aae02_18
theorem j_len (gw : List gS) (hl : gw.length ≤ 100) : sC mJ0_length_8abf5 gw [.ref 104] (some (.int (nI 46))) := by
  refine s_start (ls := [some (.ref 104)]) (by decide) rfl rfl (fun p l e s m args below meth c D ad cA h0 B => ?_)
  refine g_aldn B dJ0_length_8abf5_0 rfl ?_
  refine g_getS (v := .ref 105) B (B.2.2.2.2.2.2.1.2.2.1.2.1.1 0 (by decide)).2.2.1 jw9 dJ0_length_8abf5_1 ?_
  refine g_tlen B dJ0_length_8abf5_4 ?_
  refine g_aldn B dJ0_length_8abf5_5 rfl ?_
  refine s_callV (As := []) (st := [.int (nI 46)]) B hl rfl (j_cod gw) rfl ckJ0_coder_7d493 jm335 ⟨by decide, by decide⟩ ⟨by decide, by decide⟩ rfl dJ0_length_8abf5_6 (by decide) ?_
  refine g_ishr B dJ0_length_8abf5_9 ?_
  exact s_ret B rfl rfl dJ0_length_8abf5_10
theorem j_char (gw : List gS) (hl : gw.length ≤ 100) (j : Nat) (hj : j < 46) : sC mJ0_charAt_5068e gw [.ref 104, .int (nI j)] (some (.int (txB.getD j 0))) := by
  refine s_start (ls := [some (.ref 104), some (.int (nI j))]) (by decide) rfl rfl (fun p l e s m args below meth c D ad cA h0 B => ?_)
  refine g_aldn B dJ0_charAt_5068e_0 rfl ?_
  refine s_callV (As := []) (st := []) B hl rfl (j_isL gw) rfl ckJ0_isLatin1_aae02 jm492 ⟨by decide, by decide⟩ ⟨by decide, by decide⟩ rfl dJ0_charAt_5068e_1 (by decide) ?_
  refine g_if_eq (tgt := 16) B dJ0_charAt_5068e_4 rfl (fun h => absurd h (by decide)) (fun _ => ?_)
  refine g_aldn B dJ0_charAt_5068e_7 rfl ?_
  refine g_getS (v := .ref 105) B (B.2.2.2.2.2.2.1.2.2.1.2.1.1 0 (by decide)).2.2.1 jw9 dJ0_charAt_5068e_8 ?_
  refine g_ildn B dJ0_charAt_5068e_11 rfl ?_
  refine s_callS (As := [.ref 105, .int (nI j)]) (st := []) B hl rfl (j_lat gw hl j hj) ckJ1_charAt_3b067 jm495 ⟨by decide, by decide⟩ ⟨by decide, by decide⟩ rfl dJ0_charAt_5068e_12 (by decide) ?_
  refine s_ret B rfl ?_ dJ0_charAt_5068e_15
  show Value.int ((txB.getD j 0).toUInt32.toUInt16.toUInt32.toInt32) = _
  rw [tx_chr j hj]
