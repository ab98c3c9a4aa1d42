theorem tx_S_at {x y : mj_X} {c : Nat} {pl : Int32} {s : tx_P} (hc : 3 ≤ c) (a : Nat) (h : tx_S x y c pl s) : tx_S x (mj_up y 1 2 (nI a)) c pl (a, s.2) := by
  obtain ⟨h1, h2, h3, h4, h5, h6, h7, h8, h9⟩ := h
  refine ⟨by rw [up_eq, upd_eq], by rw [up_eq, upd_ne (by decide)]; exact h2, by rw [up_eq, upd_ne (by decide)]; exact h3, fun i hi => by rw [up_ne (by omega)]; exact h4 i hi, fun i hi => by rw [up_ne (by omega), up_ne (by omega)]; exact h5 i hi, by rw [up_ne (by omega)]; exact h6, h7, by rw [up_eq, upd_ne (by decide)]; exact h8, fun k a b c d e => by rw [up_ne a]; exact h9 k a b c d e⟩
theorem tx_S_num {x y : mj_X} {c : Nat} {pl : Int32} {s : tx_P} (hc : 3 ≤ c) (i : Nat) (v : Int32) (h : tx_S x y c pl s) : tx_S x (mj_up y (c + 1) i v) c pl (s.1, upd s.2.1 i v, s.2.2) := by
  obtain ⟨h1, h2, h3, h4, h5, h6, h7, h8, h9⟩ := h
  refine ⟨by rw [up_ne (by omega)]; exact h1, by rw [up_ne (by omega)]; exact h2, by rw [up_ne (by omega)]; exact h3, fun j hj => ?_, fun j hj => by rw [up_ne (by omega), up_ne (by omega)]; exact h5 j hj, by rw [up_ne (by omega)]; exact h6, h7, by rw [up_ne (by omega)]; exact h8, fun k a b c d e => by rw [up_ne c]; exact h9 k a b c d e⟩
  rw [up_eq]
  by_cases e : j = i
  · subst e; rw [upd_eq]; exact upd_eq.symm
  · rw [upd_ne e, h4 j hj]; exact (upd_ne e).symm
theorem tx_S_err {x y : mj_X} {c : Nat} {pl : Int32} {s : tx_P} (hc : 3 ≤ c) {r : Int32} (hr : r ≠ 0) (h : tx_S x y c pl s) : tx_E x (mj_up y 1 4 r) c pl r := by
  obtain ⟨h1, h2, h3, h4, h5, h6, h7, h8, h9⟩ := h
  exact ⟨by rw [up_eq, upd_eq], hr, by rw [up_eq, upd_ne (by decide)]; exact h2, by rw [up_eq, upd_ne (by decide)]; exact h8, fun k a b c d e => by rw [up_ne a]; exact h9 k a b c d e⟩
theorem tx_S_code {x y : mj_X} {c : Nat} {pl : Int32} {s : tx_P} (hc : 3 ≤ c) (p b : Int32) (hk : s.2.2.2.2 < 6) (h : tx_S x y c pl s) : tx_S x (mj_up (mj_up (mj_up y (c + 2) s.2.2.2.2 p) (c + 3) s.2.2.2.2 b) c 3 (nI (s.2.2.2.2 + 1))) c pl (s.1, s.2.1, upd s.2.2.1 s.2.2.2.2 p, upd s.2.2.2.1 s.2.2.2.2 b, s.2.2.2.2 + 1) := by
  obtain ⟨h1, h2, h3, h4, h5, h6, h7, h8, h9⟩ := h
  have n1 : ∀ k, k ≠ c → k ≠ c + 2 → k ≠ c + 3 → mj_up (mj_up (mj_up y (c + 2) s.2.2.2.2 p) (c + 3) s.2.2.2.2 b) c 3 (nI (s.2.2.2.2 + 1)) k = y k := fun k a b c => by rw [up_ne a, up_ne c, up_ne b]
  refine ⟨by rw [n1 1 (by omega) (by omega) (by omega)]; exact h1, by rw [n1 1 (by omega) (by omega) (by omega)]; exact h2, by rw [n1 1 (by omega) (by omega) (by omega)]; exact h3, fun j hj => by rw [n1 (c + 1) (by omega) (by omega) (by omega)]; exact h4 j hj, ?_, by rw [up_eq, upd_eq], hk, by rw [n1 1 (by omega) (by omega) (by omega)]; exact h8, fun k a b c d e => by rw [n1 k b d e]; exact h9 k a b c d e⟩
  intro j hj
  dsimp only at hj ⊢
  rw [up_ne (show c + 2 ≠ c by omega), up_ne (show c + 2 ≠ c + 3 by omega), up_eq, up_ne (show c + 3 ≠ c by omega), up_eq, up_ne (show c + 3 ≠ c + 2 by omega)]
  by_cases e : j = s.2.2.2.2
  · rw [e, upd_eq, upd_eq, upd_eq, upd_eq]
    exact ⟨rfl, rfl⟩
  · rw [upd_ne e, upd_ne e, upd_ne e, upd_ne e]
    exact h5 j (by omega)
theorem tx_S_y2 {x y : mj_X} {c : Nat} {pl : Int32} {s : tx_P} (hc : 3 ≤ c) (h : tx_S x y c pl s) : y 1 1 = x 1 1 ∧ y 2 = x 2 := ⟨h.2.2.2.2.2.2.2.1, h.2.2.2.2.2.2.2.2 2 (by decide) (by omega) (by omega) (by omega) (by omega)⟩
theorem tx_ok {pk : Nat → Int32} {i fig a : Nat} {low v : Int32} (hi : (i = 0 ∧ fig = 3 ∧ low = 1) ∨ (i = 1 ∧ fig = 2 ∧ low = 1) ∨ (i = 2 ∧ fig = 2 ∧ low = 1) ∨ (i = 3 ∧ fig = 3 ∧ low = 0) ∨ (i = 4 ∧ fig = 3 ∧ low = 0) ∨ (i = 5 ∧ fig = 3 ∧ low = 0)) (h : tx_num pk fig a 0 = some v) : ru_ok (nI i) v = !decide (v < low) := by
  have hb := tx_num_le (by omega) h
  unfold ru_ok
  rcases hi with ⟨rfl, rfl, rfl⟩ | ⟨rfl, rfl, rfl⟩ | ⟨rfl, rfl, rfl⟩ | ⟨rfl, rfl, rfl⟩ | ⟨rfl, rfl, rfl⟩ | ⟨rfl, rfl, rfl⟩
  all_goals
    obtain ⟨b1, b2⟩ := hb
    rw [nI_clamp (by decide)]
    simp only [mj_st0, mj_st1, List.getD_cons_zero, List.getD_cons_succ]
    rw [Bool.eq_iff_iff]
    simp only [decide_eq_true_eq, Bool.not_eq_true', decide_eq_false_iff_not]
    rw [Int32.le_iff_toInt_le] at b1
    simp only [Int32.le_iff_toInt_le, Int32.lt_iff_toInt_lt]
    simp only [show (nI 0).toInt = 0 from by decide, show (nI 1).toInt = 1 from by decide, show (nI 2).toInt = 2 from by decide, show (nI 3).toInt = 3 from by decide, show (nI 4).toInt = 4 from by decide, show (nI 5).toInt = 5 from by decide, tl_0, tl_1, tl_6, tl_999, tl_99] at b1 b2 ⊢
    omega
set_option maxHeartbeats 1000000 in
theorem c_rule0 (R : List mj_S) (x : mj_X) (c i f : Nat) (hf : f ≤ 3) (hw : ¬ x 1 4 = 0) : mj_CV mX4_readRule (shX ++ R) [.ref 1, .ref c, .int (nI i), .int (nI f)] x (fun w => w = x) := by
  refine mj_startV (ls := [some (.ref 1), some (.ref c), some (.int (nI i)), some (.int (nI f)), none]) (by decide) rfl rfl (fun Q hQ => ?_)
  refine mj_aldn dX4_readRule_0 rfl ?_
  refine mj_ildn dX4_readRule_1 rfl ?_
  refine mj_cvp (K := mX4_readNumber) (c_num0 R x f hf hw) ckX4_readNumber lkX4_51 ⟨Nat.le_of_ble_eq_true rfl, Nat.le_of_ble_eq_true rfl⟩ rfl dX4_readRule_2 rfl rfl (Nat.le_of_ble_eq_true rfl) ?_
  refine mj_ist4 dX4_readRule_5 rfl ?_
  refine mj_aldn dX4_readRule_7 rfl ?_
  refine mj_geti fkX4_27 dX4_readRule_8 rfl rfl ?_
  refine mj_if_eq (tgt := 15) dX4_readRule_11 rfl (fun h_11 => False.elim (by exact hw h_11)) (fun h_11 => ?_)
  refine mj_retv rfl dX4_readRule_14 ?_
  exact hQ _ rfl
set_option maxHeartbeats 1000000 in
theorem c_rule (R : List mj_S) (x : mj_X) (len : Nat) (hlen : len ≤ 200) (hl : x 1 1 = nI len) (c : Nat) (hc : 3 ≤ c) (hs : ru_sh (shX ++ R) c) (y : mj_X) (pl : Int32) (s : tx_P) (hS : tx_S x y c pl s) (ha : s.1 ≤ 800) (i f : Nat) (low : Int32) (hif : (i = 0 ∧ f = 3 ∧ low = 1) ∨ (i = 1 ∧ f = 2 ∧ low = 1) ∨ (i = 2 ∧ f = 2 ∧ low = 1) ∨ (i = 3 ∧ f = 3 ∧ low = 0) ∨ (i = 4 ∧ f = 3 ∧ low = 0) ∨ (i = 5 ∧ f = 3 ∧ low = 0)) : mj_CV mX4_readRule (shX ++ R) [.ref 1, .ref c, .int (nI i), .int (nI f)] y (fun w => tx_R x w c pl (tx_rule (tx_pk (x 2) len) i f low s)) := by
  refine mj_startV (ls := [some (.ref 1), some (.ref c), some (.int (nI i)), some (.int (nI f)), none]) (by decide) rfl rfl (fun Q hQ => ?_)
  have hf : f ≤ 3 := by omega
  have hi : i < 6 := by omega
  have hy := tx_S_y2 hc hS
  refine mj_aldn dX4_readRule_0 rfl ?_
  refine mj_ildn dX4_readRule_1 rfl ?_
  refine mj_cvi (K := mX4_readNumber) (c_num R x len hlen hl y hy.1 hy.2 s.1 (by omega) hS.1 hS.2.2.1 f hf) ckX4_readNumber lkX4_51 ⟨Nat.le_of_ble_eq_true rfl, Nat.le_of_ble_eq_true rfl⟩ rfl dX4_readRule_2 rfl rfl (Nat.le_of_ble_eq_true rfl) (fun z_2 x_2 q_2 => ?_)
  unfold tx_rule at hQ
  cases hn : tx_num (tx_pk (x 2) len) f s.1 0 with
  | none =>
    rw [hn] at q_2 hQ
    obtain ⟨b, rfl⟩ := q_2
    refine mj_ist4 dX4_readRule_5 rfl ?_
    refine mj_aldn dX4_readRule_7 rfl ?_
    refine mj_geti fkX4_27 dX4_readRule_8 rfl rfl ?_
    refine mj_if_eq (tgt := 15) dX4_readRule_11 rfl (fun h_11 => False.elim (by exact (by decide : ¬ (1 : Int32) = 0) h_11)) (fun h_11 => ?_)
    refine mj_retv rfl dX4_readRule_14 ?_
    exact hQ _ (tx_S_err hc (by decide) (tx_S_at hc b hS))
  | some v =>
    rw [hn] at q_2 hQ
    obtain ⟨rfl, rfl⟩ := q_2
    have hS1 := tx_S_at hc (s.1 + f) hS
    have hok := tx_ok hif hn
    refine mj_ist4 dX4_readRule_5 rfl ?_
    refine mj_aldn dX4_readRule_7 rfl ?_
    refine mj_geti fkX4_27 dX4_readRule_8 rfl rfl ?_
    refine mj_if_eq (tgt := 15) dX4_readRule_11 rfl (fun h_11 => ?_) (fun h_11 => False.elim (by exact h_11 hS1.2.2.1))
    refine mj_aldn dX4_readRule_15 rfl ?_
    refine mj_ildn dX4_readRule_16 rfl ?_
    refine mj_ild dX4_readRule_17 rfl ?_
    refine mj_cvp (K := mX5_allows) (c_allows _ c hs _ (nI i) z_2) ckX5_allows lkX4_55 ⟨Nat.le_of_ble_eq_true rfl, Nat.le_of_ble_eq_true rfl⟩ rfl dX4_readRule_19 hs.1 rfl (Nat.le_of_ble_eq_true rfl) ?_
    refine mj_if_eq (tgt := 35) dX4_readRule_22 rfl (fun h_22 => ?_) (fun h_22 => ?_)
    · rw [bi_z, hok] at h_22
      have h_22 : z_2 < low := by simpa using h_22
      refine mj_aldn dX4_readRule_35 rfl ?_
      refine mj_iconst dX4_readRule_36 ni_2 ?_
      refine mj_puti fkX4_27 pkX4_4 dX4_readRule_37 rfl rfl ?_
      refine mj_retv rfl dX4_readRule_40 ?_
      first
      | (dsimp only at hQ; rw [if_pos h_22] at hQ; exact hQ _ (tx_S_err hc (by decide) hS1))
      | (dsimp only at hQ; rw [if_neg h_22] at hQ; rw [q_29]; exact hQ _ (tx_S_num hc i z_2 hS1))
    · rw [bi_nz, hok] at h_22
      have h_22 : ¬ z_2 < low := by simpa using h_22
      refine mj_aldn dX4_readRule_25 rfl ?_
      refine mj_ildn dX4_readRule_26 rfl ?_
      refine mj_ild dX4_readRule_27 rfl ?_
      refine mj_cvv (K := mX5_put) (c_put _ c hs _ i hi z_2) ckX5_put lkX4_59 ⟨Nat.le_of_ble_eq_true rfl, Nat.le_of_ble_eq_true rfl⟩ rfl dX4_readRule_29 hs.1 rfl (Nat.le_of_ble_eq_true rfl) (fun x_29 q_29 => ?_)
      refine mj_goto (tgt := 40) dX4_readRule_32 rfl ?_
      refine mj_retv rfl dX4_readRule_40 ?_
      first
      | (dsimp only at hQ; rw [if_pos h_22] at hQ; exact hQ _ (tx_S_err hc (by decide) hS1))
      | (dsimp only at hQ; rw [if_neg h_22] at hQ; rw [q_29]; exact hQ _ (tx_S_num hc i z_2 hS1))
set_option maxHeartbeats 1000000 in
theorem c_end0 (R : List mj_S) (x : mj_X) (hw : ¬ x 1 4 = 0) : mj_CV mX4_readEnd (shX ++ R) [.ref 1] x (fun w => w = x) := by
  refine mj_startV (ls := [some (.ref 1)]) (by decide) rfl rfl (fun Q hQ => ?_)
  refine mj_aldn dX4_readEnd_0 rfl ?_
  refine mj_geti fkX4_27 dX4_readEnd_1 rfl rfl ?_
  refine mj_if_eq (tgt := 8) dX4_readEnd_4 rfl (fun h_4 => False.elim (by exact hw h_4)) (fun h_4 => ?_)
  refine mj_retv rfl dX4_readEnd_7 ?_
  exact hQ _ rfl
set_option maxHeartbeats 1000000 in
theorem c_end (R : List mj_S) (x : mj_X) (len : Nat) (hlen : len ≤ 200) (hl : x 1 1 = nI len) (c : Nat) (hc : 3 ≤ c) (hs : ru_sh (shX ++ R) c) (y : mj_X) (pl : Int32) (s : tx_P) (hS : tx_S x y c pl s) (ha : s.1 ≤ 900) : mj_CV mX4_readEnd (shX ++ R) [.ref 1] y (fun w => tx_R x w c pl (tx_end (tx_pk (x 2) len) s)) := by
  refine mj_startV (ls := [some (.ref 1)]) (by decide) rfl rfl (fun Q hQ => ?_)
  have hy := tx_S_y2 hc hS
  have e1 : y 1 2 + 1 = nI (s.1 + 1) := by rw [hS.1, nI_1]
  refine mj_aldn dX4_readEnd_0 rfl ?_
  refine mj_geti fkX4_27 dX4_readEnd_1 rfl rfl ?_
  refine mj_if_eq (tgt := 8) dX4_readEnd_4 rfl (fun h_4 => ?_) (fun h_4 => False.elim (by exact h_4 hS.2.2.1))
  refine mj_aldn dX4_readEnd_8 rfl ?_
  refine mj_cvp (K := mX4_peek) (c_peek R x len hlen hl y hy.1 hy.2 s.1 (by omega) hS.1) ckX4_peek lkX4_37 ⟨Nat.le_of_ble_eq_true rfl, Nat.le_of_ble_eq_true rfl⟩ rfl dX4_readEnd_9 rfl rfl (Nat.le_of_ble_eq_true rfl) ?_
  refine mj_bipush dX4_readEnd_12 nb_59 ?_
  refine mj_ic_ne (tgt := 30) dX4_readEnd_14 rfl (fun h_14 => ?_) (fun h_14 => ?_)
  · refine mj_aldn dX4_readEnd_30 rfl ?_
    refine mj_iconst dX4_readEnd_31 ni_1 ?_
    refine mj_puti fkX4_27 pkX4_4 dX4_readEnd_32 rfl rfl ?_
    refine mj_retv rfl dX4_readEnd_35 ?_
    unfold tx_end at hQ
    first
    | (rw [if_neg h_14] at hQ; exact hQ _ (tx_S_err hc (by decide) hS))
    | (rw [if_pos h_14] at hQ; rw [e1]; exact hQ _ (tx_S_at hc (s.1 + 1) hS))
  · refine mj_aldn dX4_readEnd_17 rfl ?_
    refine mj_dupr dX4_readEnd_18 ?_
    refine mj_geti fkX4_24 dX4_readEnd_19 rfl rfl ?_
    refine mj_iconst dX4_readEnd_22 ni_1 ?_
    refine mj_iadd dX4_readEnd_23 ?_
    refine mj_puti fkX4_24 pkX4_2 dX4_readEnd_24 rfl rfl ?_
    refine mj_goto (tgt := 35) dX4_readEnd_27 rfl ?_
    refine mj_retv rfl dX4_readEnd_35 ?_
    unfold tx_end at hQ
    first
    | (rw [if_neg h_14] at hQ; exact hQ _ (tx_S_err hc (by decide) hS))
    | (rw [if_pos h_14] at hQ; rw [e1]; exact hQ _ (tx_S_at hc (s.1 + 1) hS))
set_option maxHeartbeats 1000000 in
theorem c_rcode (R : List mj_S) (x : mj_X) (len : Nat) (hlen : len ≤ 200) (hl : x 1 1 = nI len) (c : Nat) (hc : 3 ≤ c) (hs : ru_sh (shX ++ R) c) (y : mj_X) (pl : Int32) (s : tx_P) (hS : tx_S x y c pl s) (ha : s.1 ≤ 800) : mj_CV mX4_readCode (shX ++ R) [.ref 1, .ref c] y (fun w => tx_R x w c pl (tx_code (tx_pk (x 2) len) s)) := by
  refine mj_startV (ls := [some (.ref 1), some (.ref c), none, none]) (by decide) rfl rfl (fun Q hQ => ?_)
  have hy := tx_S_y2 hc hS
  have hk6 := hS.2.2.2.2.2.2.1
  have hck := hS.2.2.2.2.2.1
  unfold tx_code at hQ
  refine mj_aldn dX4_readCode_0 rfl ?_
  refine mj_geti fkX4_63 dX4_readCode_1 hs.1 rfl ?_
  refine mj_bipush dX4_readCode_4 nb_6 ?_
  refine mj_ic_lt (tgt := 15) dX4_readCode_6 rfl (fun h_6 => ?_) (fun h_6 => ?_)
  · rw [hck] at h_6
    have h_6 : s.2.2.2.2 < 6 := (nI_ltI (b := 6) (by omega) (by decide)).mp h_6
    rw [if_neg (by omega)] at hQ
    refine mj_aldn dX4_readCode_15 rfl ?_
    refine mj_iconst dX4_readCode_16 ni_1 ?_
    refine mj_cvi (K := mX4_readNumber) (c_num R x len hlen hl y hy.1 hy.2 s.1 (by omega) hS.1 hS.2.2.1 1 (by omega)) ckX4_readNumber lkX4_51 ⟨Nat.le_of_ble_eq_true rfl, Nat.le_of_ble_eq_true rfl⟩ rfl dX4_readCode_17 rfl rfl (Nat.le_of_ble_eq_true rfl) (fun z_17 x_17 q_17 => ?_)
    cases hn : tx_num (tx_pk (x 2) len) 1 s.1 0 with
    | none =>
      rw [hn] at q_17 hQ
      obtain ⟨b, rfl⟩ := q_17
      refine mj_istn2 dX4_readCode_20 rfl ?_
      refine mj_aldn dX4_readCode_21 rfl ?_
      refine mj_geti fkX4_27 dX4_readCode_22 rfl rfl ?_
      refine mj_if_ne (tgt := 37) dX4_readCode_25 rfl (fun h_25 => ?_) (fun h_25 => False.elim (by exact (by decide : ¬ (1 : Int32) = 0) h_25))
      refine mj_aldn dX4_readCode_37 rfl ?_
      refine mj_iconst dX4_readCode_38 ni_2 ?_
      refine mj_cvp (K := mX4_readNumber) (c_num0 R _ 2 (by omega) (by decide : ¬ (1 : Int32) = 0)) ckX4_readNumber lkX4_51 ⟨Nat.le_of_ble_eq_true rfl, Nat.le_of_ble_eq_true rfl⟩ rfl dX4_readCode_39 rfl rfl (Nat.le_of_ble_eq_true rfl) ?_
      refine mj_istn3 dX4_readCode_42 rfl ?_
      refine mj_aldn dX4_readCode_43 rfl ?_
      refine mj_geti fkX4_27 dX4_readCode_44 rfl rfl ?_
      refine mj_if_ne (tgt := 56) dX4_readCode_47 rfl (fun h_47 => ?_) (fun h_47 => False.elim (by exact (by decide : ¬ (1 : Int32) = 0) h_47))
      refine mj_retv rfl dX4_readCode_56 ?_
      exact hQ _ (tx_S_err hc (by decide) (tx_S_at hc b hS))
    | some p =>
      rw [hn] at q_17 hQ
      obtain ⟨rfl, rfl⟩ := q_17
      dsimp only at hQ
      have hb := (tx_num_le (by omega) hn).1
      have hS1 := tx_S_at hc (s.1 + 1) hS
      refine mj_istn2 dX4_readCode_20 rfl ?_
      refine mj_aldn dX4_readCode_21 rfl ?_
      refine mj_geti fkX4_27 dX4_readCode_22 rfl rfl ?_
      refine mj_if_ne (tgt := 37) dX4_readCode_25 rfl (fun h_25 => False.elim (by exact h_25 hS1.2.2.1)) (fun h_25 => ?_)
      refine mj_ildn dX4_readCode_28 rfl ?_
      refine mj_if_ne (tgt := 37) dX4_readCode_29 rfl (fun h_29 => ?_) (fun h_29 => ?_)
      · rw [if_neg (by grind)] at hQ
        refine mj_aldn dX4_readCode_37 rfl ?_
        refine mj_iconst dX4_readCode_38 ni_2 ?_
        refine mj_cvi (K := mX4_readNumber) (c_num R x len hlen hl _ (tx_S_y2 hc hS1).1 (tx_S_y2 hc hS1).2 (s.1 + 1) (by omega) hS1.1 hS1.2.2.1 2 (by omega)) ckX4_readNumber lkX4_51 ⟨Nat.le_of_ble_eq_true rfl, Nat.le_of_ble_eq_true rfl⟩ rfl dX4_readCode_39 rfl rfl (Nat.le_of_ble_eq_true rfl) (fun z_39 x_39 q_39 => ?_)
        cases hn2 : tx_num (tx_pk (x 2) len) 2 (s.1 + 1) 0 with
        | none =>
          rw [hn2] at q_39 hQ
          obtain ⟨b, rfl⟩ := q_39
          refine mj_istn3 dX4_readCode_42 rfl ?_
          refine mj_aldn dX4_readCode_43 rfl ?_
          refine mj_geti fkX4_27 dX4_readCode_44 rfl rfl ?_
          refine mj_if_ne (tgt := 56) dX4_readCode_47 rfl (fun h_47 => ?_) (fun h_47 => False.elim (by exact (by decide : ¬ (1 : Int32) = 0) h_47))
          refine mj_retv rfl dX4_readCode_56 ?_
          exact hQ _ (tx_S_err hc (by decide) (tx_S_at hc b hS1))
        | some b =>
          rw [hn2] at q_39 hQ
          obtain ⟨rfl, rfl⟩ := q_39
          have hS2 := tx_S_at hc (s.1 + 1 + 2) hS1
          refine mj_istn3 dX4_readCode_42 rfl ?_
          refine mj_aldn dX4_readCode_43 rfl ?_
          refine mj_geti fkX4_27 dX4_readCode_44 rfl rfl ?_
          refine mj_if_ne (tgt := 56) dX4_readCode_47 rfl (fun h_47 => False.elim (by exact h_47 hS2.2.2.1)) (fun h_47 => ?_)
          refine mj_aldn dX4_readCode_50 rfl ?_
          refine mj_ildn dX4_readCode_51 rfl ?_
          refine mj_ildn dX4_readCode_52 rfl ?_
          refine mj_cvv (K := mX5_addCode) (c_addCode _ c hs _ s.2.2.2.2 h_6 hS2.2.2.2.2.2.1 z_17 z_39) ckX5_addCode lkX4_66 ⟨Nat.le_of_ble_eq_true rfl, Nat.le_of_ble_eq_true rfl⟩ rfl dX4_readCode_53 hs.1 rfl (Nat.le_of_ble_eq_true rfl) (fun x_53 q_53 => ?_)
          refine mj_retv rfl dX4_readCode_56 ?_
          rw [q_53]; exact hQ _ (tx_S_code (s := (s.1 + 3, s.2)) hc z_17 z_39 h_6 hS2)
      · rw [if_pos (by rw [h_29]; decide)] at hQ
        have hE := tx_S_err hc (r := 2) (by decide) hS1
        refine mj_aldn dX4_readCode_32 rfl ?_
        refine mj_iconst dX4_readCode_33 ni_2 ?_
        refine mj_puti fkX4_27 pkX4_4 dX4_readCode_34 rfl rfl ?_
        refine mj_aldn dX4_readCode_37 rfl ?_
        refine mj_iconst dX4_readCode_38 ni_2 ?_
        refine mj_cvp (K := mX4_readNumber) (c_num0 R _ 2 (by omega) (by decide : ¬ (2 : Int32) = 0)) ckX4_readNumber lkX4_51 ⟨Nat.le_of_ble_eq_true rfl, Nat.le_of_ble_eq_true rfl⟩ rfl dX4_readCode_39 rfl rfl (Nat.le_of_ble_eq_true rfl) ?_
        refine mj_istn3 dX4_readCode_42 rfl ?_
        refine mj_aldn dX4_readCode_43 rfl ?_
        refine mj_geti fkX4_27 dX4_readCode_44 rfl rfl ?_
        refine mj_if_ne (tgt := 56) dX4_readCode_47 rfl (fun h_47 => ?_) (fun h_47 => False.elim (by exact (by decide : ¬ (2 : Int32) = 0) h_47))
        refine mj_retv rfl dX4_readCode_56 ?_
        exact hQ _ hE
  · have h_6 : ¬ s.2.2.2.2 < 6 := fun h => h_6 (by rw [hck]; exact nI_lt h (by decide))
    rw [if_pos (by omega)] at hQ
    refine mj_aldn dX4_readCode_9 rfl ?_
    refine mj_iconst dX4_readCode_10 ni_3 ?_
    refine mj_puti fkX4_27 pkX4_4 dX4_readCode_11 rfl rfl ?_
    refine mj_retv rfl dX4_readCode_14 ?_
    exact hQ _ (tx_S_err hc (by decide) hS)
theorem tx_rule_le {pk : Nat → Int32} {i f : Nat} {low : Int32} {s s' : tx_P} (h : tx_rule pk i f low s = .inr s') : s'.1 = s.1 + f ∧ s'.2.2.2.2 = s.2.2.2.2 := by
  unfold tx_rule at h
  split at h
  · cases h
  · split at h
    · cases h
    · cases h; exact ⟨rfl, rfl⟩
theorem tx_code_le {pk : Nat → Int32} {s s' : tx_P} (h : tx_code pk s = .inr s') : s'.1 = s.1 + 3 := by
  unfold tx_code at h
  split at h
  · cases h
  · split at h
    · cases h
    · split at h
      · cases h
      · split at h
        · cases h
        · cases h; rfl
theorem tx_body_le {pk : Nat → Int32} {c : Int32} {s s' : tx_P} (h : tx_body pk c s = .inr s') : s.1 ≤ s'.1 ∧ s'.1 ≤ s.1 + 6 := by
  unfold tx_body at h
  split at h
  · have := tx_rule_le h; omega
  · split at h
    · have := tx_code_le h; omega
    · split at h
      · have := tx_rule_le h; omega
      · split at h
        · have := tx_rule_le h; omega
        · split at h
          · cases hr : tx_rule pk 4 3 0 s with
            | inl e => rw [hr] at h; cases h
            | inr s2 =>
              rw [hr] at h
              have h1 := tx_rule_le hr
              have h2 := tx_rule_le (show tx_rule pk 5 3 0 s2 = .inr s' from h)
              omega
          · split at h
            · have := tx_rule_le h; omega
            · cases h
theorem tx_S_pl {x y : mj_X} {c : Nat} {pl : Int32} {s : tx_P} (hc : 3 ≤ c) (v : Int32) (h : tx_S x y c pl s) : tx_S x (mj_up y 1 3 v) c v s := by
  obtain ⟨h1, h2, h3, h4, h5, h6, h7, h8, h9⟩ := h
  exact ⟨by rw [up_eq, upd_ne (by decide)]; exact h1, by rw [up_eq, upd_eq], by rw [up_eq, upd_ne (by decide)]; exact h3, fun i hi => by rw [up_ne (by omega)]; exact h4 i hi, fun i hi => by rw [up_ne (by omega), up_ne (by omega)]; exact h5 i hi, by rw [up_ne (by omega)]; exact h6, h7, by rw [up_eq, upd_ne (by decide)]; exact h8, fun k a b c d e => by rw [up_ne a]; exact h9 k a b c d e⟩
set_option maxHeartbeats 1000000 in
theorem c_item (R : List mj_S) (x : mj_X) (len : Nat) (hlen : len ≤ 200) (hl : x 1 1 = nI len) (c : Nat) (hc : 3 ≤ c) (hs : ru_sh (shX ++ R) c) (y : mj_X) (pl : Int32) (s : tx_P) (hS : tx_S x y c pl s) (ha : s.1 ≤ 700) : mj_CV mX4_readItem (shX ++ R) [.ref 1, .ref c] y (fun w => tx_R x w c pl (tx_item (tx_pk (x 2) len) s)) := by
  refine mj_startV (ls := [some (.ref 1), some (.ref c), none]) (by decide) rfl rfl (fun Q hQ => ?_)
  have hy := tx_S_y2 hc hS
  have e1 : y 1 2 + 1 = nI (s.1 + 1) := by rw [hS.1, nI_1]
  have hS1 := tx_S_at hc (s.1 + 1) hS
  have fin : ∀ w : mj_X, tx_R x w c pl (tx_body (tx_pk (x 2) len) ((tx_pk (x 2) len) s.1) (s.1 + 1, s.2)) → mj_V mX4_readItem (shX ++ R) Q w 146 [some (.ref 1), some (.ref c), some (.int ((tx_pk (x 2) len) s.1))] [] := by
    intro w hw
    cases hb : tx_body (tx_pk (x 2) len) ((tx_pk (x 2) len) s.1) (s.1 + 1, s.2) with
    | inl e =>
      rw [hb] at hw
      have hw : tx_E x w c pl e := hw
      refine mj_aldn dX4_readItem_146 rfl ?_
      refine mj_cvv (K := mX4_readEnd) (c_end0 R w (by rw [hw.1]; exact hw.2.1)) ckX4_readEnd lkX4_48 ⟨Nat.le_of_ble_eq_true rfl, Nat.le_of_ble_eq_true rfl⟩ rfl dX4_readItem_147 rfl rfl (Nat.le_of_ble_eq_true rfl) (fun x_147 q_147 => ?_)
      refine mj_retv rfl dX4_readItem_150 ?_
      rw [q_147]; refine hQ _ ?_; unfold tx_item; rw [hb]; exact hw
    | inr s2 =>
      rw [hb] at hw
      have hw : tx_S x w c pl s2 := hw
      have hle := tx_body_le hb
      dsimp only at hle
      refine mj_aldn dX4_readItem_146 rfl ?_
      refine mj_cvv (K := mX4_readEnd) (c_end R x len hlen hl c hc hs w pl s2 hw (by omega)) ckX4_readEnd lkX4_48 ⟨Nat.le_of_ble_eq_true rfl, Nat.le_of_ble_eq_true rfl⟩ rfl dX4_readItem_147 rfl rfl (Nat.le_of_ble_eq_true rfl) (fun x_147 q_147 => ?_)
      refine mj_retv rfl dX4_readItem_150 ?_
      refine hQ _ ?_; unfold tx_item; rw [hb]; exact q_147
  refine mj_aldn dX4_readItem_0 rfl ?_
  refine mj_cvp (K := mX4_peek) (c_peek R x len hlen hl y hy.1 hy.2 s.1 (by omega) hS.1) ckX4_peek lkX4_37 ⟨Nat.le_of_ble_eq_true rfl, Nat.le_of_ble_eq_true rfl⟩ rfl dX4_readItem_1 rfl rfl (Nat.le_of_ble_eq_true rfl) ?_
  refine mj_istn2 dX4_readItem_4 rfl ?_
  refine mj_aldn dX4_readItem_5 rfl ?_
  refine mj_dupr dX4_readItem_6 ?_
  refine mj_geti fkX4_24 dX4_readItem_7 rfl rfl ?_
  refine mj_iconst dX4_readItem_10 ni_1 ?_
  refine mj_iadd dX4_readItem_11 ?_
  refine mj_puti fkX4_24 pkX4_2 dX4_readItem_12 rfl rfl ?_
  rw [e1]
  refine mj_ildn dX4_readItem_15 rfl ?_
  by_cases s16_0 : (tx_pk (x 2) len) s.1 = 98
  · refine mj_lookup (off := 80) (tgt := 96) dX4_readItem_16 (by decide) (by rw [s16_0]; decide) rfl ?_
    refine mj_aldn dX4_readItem_96 rfl ?_
    refine mj_aldn dX4_readItem_97 rfl ?_
    refine mj_iconst dX4_readItem_98 ni_2 ?_
    refine mj_iconst dX4_readItem_99 ni_2 ?_
    refine mj_cvv (K := mX4_readRule) (c_rule R x len hlen hl c hc hs _ pl _ hS1 (by dsimp only; omega) 2 2 1 (Or.inr (Or.inr (Or.inl ⟨rfl, rfl, rfl⟩)))) ckX4_readRule lkX4_41 ⟨Nat.le_of_ble_eq_true rfl, Nat.le_of_ble_eq_true rfl⟩ rfl dX4_readItem_100 rfl rfl (Nat.le_of_ble_eq_true rfl) (fun x_100 q_100 => ?_)
    refine mj_goto (tgt := 146) dX4_readItem_103 rfl ?_
    exact fin _ (by simp only [tx_body]; simp only [*, if_true, if_false] <;> exact q_100)
  by_cases s16_1 : (tx_pk (x 2) len) s.1 = 107
  · refine mj_lookup (off := 117) (tgt := 133) dX4_readItem_16 (by decide) (by rw [s16_1]; decide) rfl ?_
    refine mj_aldn dX4_readItem_133 rfl ?_
    refine mj_aldn dX4_readItem_134 rfl ?_
    refine mj_cvv (K := mX4_readCode) (c_rcode R x len hlen hl c hc hs _ pl _ hS1 (by dsimp only; omega)) ckX4_readCode lkX4_45 ⟨Nat.le_of_ble_eq_true rfl, Nat.le_of_ble_eq_true rfl⟩ rfl dX4_readItem_135 rfl rfl (Nat.le_of_ble_eq_true rfl) (fun x_135 q_135 => ?_)
    refine mj_goto (tgt := 146) dX4_readItem_138 rfl ?_
    exact fin _ (by simp only [tx_body]; simp only [*, if_true, if_false] <;> exact q_135)
  by_cases s16_2 : (tx_pk (x 2) len) s.1 = 108
  · refine mj_lookup (off := 70) (tgt := 86) dX4_readItem_16 (by decide) (by rw [s16_2]; decide) rfl ?_
    refine mj_aldn dX4_readItem_86 rfl ?_
    refine mj_aldn dX4_readItem_87 rfl ?_
    refine mj_iconst dX4_readItem_88 ni_1 ?_
    refine mj_iconst dX4_readItem_89 ni_2 ?_
    refine mj_cvv (K := mX4_readRule) (c_rule R x len hlen hl c hc hs _ pl _ hS1 (by dsimp only; omega) 1 2 1 (Or.inr (Or.inl ⟨rfl, rfl, rfl⟩))) ckX4_readRule lkX4_41 ⟨Nat.le_of_ble_eq_true rfl, Nat.le_of_ble_eq_true rfl⟩ rfl dX4_readItem_90 rfl rfl (Nat.le_of_ble_eq_true rfl) (fun x_90 q_90 => ?_)
    refine mj_goto (tgt := 146) dX4_readItem_93 rfl ?_
    exact fin _ (by simp only [tx_body]; simp only [*, if_true, if_false] <;> exact q_90)
  by_cases s16_3 : (tx_pk (x 2) len) s.1 = 109
  · refine mj_lookup (off := 90) (tgt := 106) dX4_readItem_16 (by decide) (by rw [s16_3]; decide) rfl ?_
    refine mj_aldn dX4_readItem_106 rfl ?_
    refine mj_aldn dX4_readItem_107 rfl ?_
    refine mj_iconst dX4_readItem_108 ni_3 ?_
    refine mj_iconst dX4_readItem_109 ni_3 ?_
    refine mj_cvv (K := mX4_readRule) (c_rule R x len hlen hl c hc hs _ pl _ hS1 (by dsimp only; omega) 3 3 0 (Or.inr (Or.inr (Or.inr (Or.inl ⟨rfl, rfl, rfl⟩))))) ckX4_readRule lkX4_41 ⟨Nat.le_of_ble_eq_true rfl, Nat.le_of_ble_eq_true rfl⟩ rfl dX4_readItem_110 rfl rfl (Nat.le_of_ble_eq_true rfl) (fun x_110 q_110 => ?_)
    refine mj_goto (tgt := 146) dX4_readItem_113 rfl ?_
    exact fin _ (by simp only [tx_body]; simp only [*, if_true, if_false] <;> exact q_110)
  by_cases s16_4 : (tx_pk (x 2) len) s.1 = 115
  · refine mj_lookup (off := 100) (tgt := 116) dX4_readItem_16 (by decide) (by rw [s16_4]; decide) rfl ?_
    refine mj_aldn dX4_readItem_116 rfl ?_
    refine mj_aldn dX4_readItem_117 rfl ?_
    refine mj_iconst dX4_readItem_118 ni_4 ?_
    refine mj_iconst dX4_readItem_119 ni_3 ?_
    refine mj_cvv (K := mX4_readRule) (c_rule R x len hlen hl c hc hs _ pl _ hS1 (by dsimp only; omega) 4 3 0 (Or.inr (Or.inr (Or.inr (Or.inr (Or.inl ⟨rfl, rfl, rfl⟩)))))) ckX4_readRule lkX4_41 ⟨Nat.le_of_ble_eq_true rfl, Nat.le_of_ble_eq_true rfl⟩ rfl dX4_readItem_120 rfl rfl (Nat.le_of_ble_eq_true rfl) (fun x_120 q_120 => ?_)
    have e5 : tx_body (tx_pk (x 2) len) ((tx_pk (x 2) len) s.1) (s.1 + 1, s.2) = tx_bind (tx_rule (tx_pk (x 2) len) 4 3 0 (s.1 + 1, s.2)) (tx_rule (tx_pk (x 2) len) 5 3 0) := by simp only [tx_body]; simp [s16_0, s16_1, s16_2, s16_3, s16_4]
    cases hr : tx_rule (tx_pk (x 2) len) 4 3 0 (s.1 + 1, s.2) with
    | inl e =>
      rw [hr] at q_120
      have q_120 : tx_E x x_120 c pl e := q_120
      refine mj_aldn dX4_readItem_123 rfl ?_
      refine mj_aldn dX4_readItem_124 rfl ?_
      refine mj_iconst dX4_readItem_125 ni_5 ?_
      refine mj_iconst dX4_readItem_126 ni_3 ?_
      refine mj_cvv (K := mX4_readRule) (c_rule0 R x_120 c 5 3 (by omega) (by rw [q_120.1]; exact q_120.2.1)) ckX4_readRule lkX4_41 ⟨Nat.le_of_ble_eq_true rfl, Nat.le_of_ble_eq_true rfl⟩ rfl dX4_readItem_127 rfl rfl (Nat.le_of_ble_eq_true rfl) (fun x_127 q_127 => ?_)
      refine mj_goto (tgt := 146) dX4_readItem_130 rfl ?_
      rw [q_127]; exact fin _ (by rw [e5, hr]; exact q_120)
    | inr s2 =>
      rw [hr] at q_120
      have q_120 : tx_S x x_120 c pl s2 := q_120
      have hle := tx_rule_le hr
      dsimp only at hle
      refine mj_aldn dX4_readItem_123 rfl ?_
      refine mj_aldn dX4_readItem_124 rfl ?_
      refine mj_iconst dX4_readItem_125 ni_5 ?_
      refine mj_iconst dX4_readItem_126 ni_3 ?_
      refine mj_cvv (K := mX4_readRule) (c_rule R x len hlen hl c hc hs _ pl s2 q_120 (by omega) 5 3 0 (Or.inr (Or.inr (Or.inr (Or.inr (Or.inr ⟨rfl, rfl, rfl⟩)))))) ckX4_readRule lkX4_41 ⟨Nat.le_of_ble_eq_true rfl, Nat.le_of_ble_eq_true rfl⟩ rfl dX4_readItem_127 rfl rfl (Nat.le_of_ble_eq_true rfl) (fun x_127 q_127 => ?_)
      refine mj_goto (tgt := 146) dX4_readItem_130 rfl ?_
      exact fin _ (by rw [e5, hr]; exact q_127)
  by_cases s16_5 : (tx_pk (x 2) len) s.1 = 119
  · refine mj_lookup (off := 60) (tgt := 76) dX4_readItem_16 (by decide) (by rw [s16_5]; decide) rfl ?_
    refine mj_aldn dX4_readItem_76 rfl ?_
    refine mj_aldn dX4_readItem_77 rfl ?_
    refine mj_iconst dX4_readItem_78 ni_0 ?_
    refine mj_iconst dX4_readItem_79 ni_3 ?_
    refine mj_cvv (K := mX4_readRule) (c_rule R x len hlen hl c hc hs _ pl _ hS1 (by dsimp only; omega) 0 3 1 (Or.inl ⟨rfl, rfl, rfl⟩)) ckX4_readRule lkX4_41 ⟨Nat.le_of_ble_eq_true rfl, Nat.le_of_ble_eq_true rfl⟩ rfl dX4_readItem_80 rfl rfl (Nat.le_of_ble_eq_true rfl) (fun x_80 q_80 => ?_)
    refine mj_goto (tgt := 146) dX4_readItem_83 rfl ?_
    exact fin _ (by simp only [tx_body]; simp only [*, if_true, if_false] <;> exact q_80)
  refine mj_lookup (off := 125) (tgt := 141) dX4_readItem_16 (by decide) (by rw [lv_osw s16_0 (a := 98) (by decide)]; rw [lv_osw s16_1 (a := 107) (by decide)]; rw [lv_osw s16_2 (a := 108) (by decide)]; rw [lv_osw s16_3 (a := 109) (by decide)]; rw [lv_osw s16_4 (a := 115) (by decide)]; rw [lv_osw s16_5 (a := 119) (by decide)]; rfl) rfl ?_
  refine mj_aldn dX4_readItem_141 rfl ?_
  refine mj_iconst dX4_readItem_142 ni_3 ?_
  refine mj_puti fkX4_27 pkX4_4 dX4_readItem_143 rfl rfl ?_
  exact fin _ (by simp only [tx_body]; simp only [*, if_true, if_false] <;> exact (tx_S_err hc (by decide) hS1))
def tx_in : tx_P := (0, mj_st2, fun _ => 0, fun _ => 0, 0)
/-- behind the reading of the whole text into the rules c -/
def tx_A (x y : mj_X) (c : Nat) (r : (Nat × Int32) ⊕ tx_P) : Prop := match r with
  | .inl e => tx_E x y c (nI e.1) e.2
  | .inr s => ∃ pl, tx_S x y c pl s
set_option maxHeartbeats 1000000 in
theorem c_into (R : List mj_S) (x : mj_X) (len : Nat) (hlen : len ≤ 200) (hl : x 1 1 = nI len) (c : Nat) (hc : 3 ≤ c) (hs : ru_sh (shX ++ R) c) : mj_CV mX4_readInto (shX ++ R) [.ref 1, .ref c] x (fun w => tx_A x w c (tx_all (tx_pk (x 2) len) len 200 tx_in)) := by
  refine mj_startV (ls := [some (.ref 1), some (.ref c), none]) (by decide) rfl rfl (fun Q hQ => ?_)
  have fail : ∀ (w : mj_X) (i : Int32) (a : Nat) (e : Int32), tx_E x w c (nI a) e → tx_all (tx_pk (x 2) len) len 200 tx_in = .inl (a, e) → mj_V mX4_readInto (shX ++ R) Q w 16 [some (.ref 1), some (.ref c), some (.int i)] [] := by
    intro w i a e hw hr
    refine mj_ildn dX4_readInto_16 rfl ?_
    refine mj_sipush dX4_readInto_17 ns_200 ?_
    refine mj_ic_ge (tgt := 60) dX4_readInto_20 rfl (fun h_20 => ?_) (fun h_20 => ?_)
    · refine mj_retv rfl dX4_readInto_60 ?_
      exact hQ _ (by rw [hr]; exact hw)
    · refine mj_aldn dX4_readInto_23 rfl ?_
      refine mj_geti fkX4_24 dX4_readInto_24 rfl rfl ?_
      refine mj_aldn dX4_readInto_27 rfl ?_
      refine mj_geti fkX4_15 dX4_readInto_28 rfl rfl ?_
      refine mj_ic_ge (tgt := 60) dX4_readInto_31 rfl (fun h_31 => ?_) (fun h_31 => ?_)
      · refine mj_retv rfl dX4_readInto_60 ?_
        exact hQ _ (by rw [hr]; exact hw)
      · refine mj_aldn dX4_readInto_34 rfl ?_
        refine mj_geti fkX4_27 dX4_readInto_35 rfl rfl ?_
        refine mj_if_ne (tgt := 60) dX4_readInto_38 rfl (fun h_38 => ?_) (fun h_38 => False.elim (by rw [hw.1] at h_38; exact hw.2.1 h_38))
        refine mj_retv rfl dX4_readInto_60 ?_
        exact hQ _ (by rw [hr]; exact hw)
  have loop : ∀ (k j : Nat) (y : mj_X) (pl : Int32) (s : tx_P), j + k = 200 → s.1 ≤ 900 → tx_S x y c pl s → tx_all (tx_pk (x 2) len) len k s = tx_all (tx_pk (x 2) len) len 200 tx_in → mj_V mX4_readInto (shX ++ R) Q y 16 [some (.ref 1), some (.ref c), some (.int (nI j))] [] := by
    intro k
    induction k with
    | zero =>
      intro j y pl s hj h9 hS hr
      have hj : j = 200 := by omega
      subst hj
      refine mj_ildn dX4_readInto_16 rfl ?_
      refine mj_sipush dX4_readInto_17 ns_200 ?_
      refine mj_ic_ge (tgt := 60) dX4_readInto_20 rfl (fun h_20 => ?_) (fun h_20 => False.elim (by exact h_20 (by decide)))
      refine mj_retv rfl dX4_readInto_60 ?_
      exact hQ _ (by rw [← hr]; exact ⟨pl, hS⟩)
    | succ k ih =>
      intro j y pl s hj h9 hS hr
      have hy := tx_S_y2 hc hS
      refine mj_ildn dX4_readInto_16 rfl ?_
      refine mj_sipush dX4_readInto_17 ns_200 ?_
      refine mj_ic_ge (tgt := 60) dX4_readInto_20 rfl (fun h_20 => False.elim (by exact nl_lt (show j < 200 by omega) (by decide) h_20)) (fun h_20 => ?_)
      refine mj_aldn dX4_readInto_23 rfl ?_
      refine mj_geti fkX4_24 dX4_readInto_24 rfl rfl ?_
      refine mj_aldn dX4_readInto_27 rfl ?_
      refine mj_geti fkX4_15 dX4_readInto_28 rfl rfl ?_
      refine mj_ic_ge (tgt := 60) dX4_readInto_31 rfl (fun h_31 => ?_) (fun h_31 => ?_)
      · rw [hS.1, hy.1, hl, nI_leI (by omega) (by omega)] at h_31
        refine mj_retv rfl dX4_readInto_60 ?_
        exact hQ _ (by rw [← hr, tx_all, if_neg (by omega)]; exact ⟨pl, hS⟩)
      · rw [hS.1, hy.1, hl, nI_leI (by omega) (by omega)] at h_31
        refine mj_aldn dX4_readInto_34 rfl ?_
        refine mj_geti fkX4_27 dX4_readInto_35 rfl rfl ?_
        refine mj_if_ne (tgt := 60) dX4_readInto_38 rfl (fun h_38 => False.elim (by exact h_38 hS.2.2.1)) (fun h_38 => ?_)
        refine mj_aldn dX4_readInto_41 rfl ?_
        refine mj_aldn dX4_readInto_42 rfl ?_
        refine mj_geti fkX4_24 dX4_readInto_43 rfl rfl ?_
        refine mj_puti fkX4_30 pkX4_3 dX4_readInto_46 rfl rfl ?_
        rw [hS.1]
        refine mj_aldn dX4_readInto_49 rfl ?_
        refine mj_aldn dX4_readInto_50 rfl ?_
        refine mj_cvv (K := mX4_readItem) (c_item R x len hlen hl c hc hs _ _ s (tx_S_pl hc (nI s.1) hS) (by omega)) ckX4_readItem lkX4_33 ⟨Nat.le_of_ble_eq_true rfl, Nat.le_of_ble_eq_true rfl⟩ rfl dX4_readInto_51 rfl rfl (Nat.le_of_ble_eq_true rfl) (fun x_51 q_51 => ?_)
        refine mj_inc2 dX4_readInto_54 ni_1 rfl ?_
        refine mj_goto (tgt := 16) dX4_readInto_57 rfl ?_
        rw [tx_all, if_pos (show s.1 < len by omega)] at hr
        cases hit : tx_item (tx_pk (x 2) len) s with
        | inl e =>
          rw [hit] at q_51 hr
          exact fail _ _ s.1 e q_51 hr.symm
        | inr s2 =>
          rw [hit] at q_51 hr
          have h99 : s2.1 ≤ 900 := by
            unfold tx_item at hit
            cases hb : tx_body (tx_pk (x 2) len) ((tx_pk (x 2) len) s.1) (s.1 + 1, s.2) with
            | inl e => rw [hb] at hit; cases hit
            | inr s3 =>
              rw [hb] at hit
              have h1 := tx_body_le hb
              have hit : tx_end (tx_pk (x 2) len) s3 = .inr s2 := hit
              unfold tx_end at hit
              split at hit
              · cases hit
                dsimp only at h1 ⊢
                omega
              · cases hit
          exact mj_ls (ih (j + 1) _ _ s2 (by omega) h99 q_51 hr) (by rw [nI_1])
  refine mj_aldn dX4_readInto_0 rfl ?_
  refine mj_cvv (K := mX5_reset) (c_reset _ c hs x) ckX5_reset lkX4_19 ⟨Nat.le_of_ble_eq_true rfl, Nat.le_of_ble_eq_true rfl⟩ rfl dX4_readInto_1 hs.1 rfl (Nat.le_of_ble_eq_true rfl) (fun x_1 q_1 => ?_)
  refine mj_aldn dX4_readInto_4 rfl ?_
  refine mj_iconst dX4_readInto_5 ni_0 ?_
  refine mj_puti fkX4_24 pkX4_2 dX4_readInto_6 rfl rfl ?_
  refine mj_aldn dX4_readInto_9 rfl ?_
  refine mj_iconst dX4_readInto_10 ni_0 ?_
  refine mj_puti fkX4_27 pkX4_4 dX4_readInto_11 rfl rfl ?_
  refine mj_iconst dX4_readInto_14 ni_0 ?_
  refine mj_istn2 dX4_readInto_15 rfl ?_
  refine loop 200 0 _ (x_1 1 3) tx_in (by omega) (by decide) ⟨rfl, rfl, rfl, fun i hi => ?_, fun i hi => absurd hi (Nat.not_lt_zero i), ?_, by decide, ?_, fun k a b d e f => ?_⟩ rfl
  · rw [up_ne (by omega), up_ne (by omega)]; exact q_1.1.1 i hi
  · rw [up_ne (by omega), up_ne (by omega)]; exact q_1.2
  · rw [up_eq, upd_ne (by decide), up_eq, upd_ne (by decide), q_1.1.2 1 (by omega) (by omega)]
  · rw [up_ne a, up_ne a]; exact q_1.1.2 k b d
