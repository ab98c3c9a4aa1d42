/-! RULES: object c, rows c + 1 numbers, c + 2 codePoints, c + 3 codeBans, codes at 3 -/
theorem ix_of {a : Int32} {n : Nat} (hn : n < 2 ^ 31) (h0 : 0 ≤ a) (h1 : a < nI n) : ∃ j, j < n ∧ a = nI j := by
  obtain ⟨j, hj, rfl⟩ := nI_of (x := a) (by grind)
  exact ⟨j, (nI_ltI hj hn).mp h1, rfl⟩
def ru_sh (sh : List mj_S) (c : Nat) : Prop := sh[c]? = some (.inl (5, [some (c + 1), some (c + 2), some (c + 3), none])) ∧ sh[c + 1]? = some (.inr 6) ∧ sh[c + 2]? = some (.inr 6) ∧ sh[c + 3]? = some (.inr 6)
theorem ru_sh3 (R : List mj_S) : ru_sh (shX ++ R) 3 := ⟨rfl, rfl, rfl, rfl⟩
theorem ru_sh7 (R : List mj_S) : ru_sh (shX ++ R) 7 := ⟨rfl, rfl, rfl, rfl⟩
def ru_is (a : Int32) : Bool := decide (0 ≤ a ∧ a < 6)
def ru_ok (a v : Int32) : Bool := decide (0 ≤ a ∧ a < 6 ∧ mj_st0 a.toNatClampNeg ≤ v ∧ v ≤ mj_st1 a.toNatClampNeg)
def ru_hc (k : Nat) (a : Int32) : Bool := decide (0 ≤ a ∧ a < nI k)
set_option maxHeartbeats 1000000 in
theorem c_isRule (sh : List mj_S) (x : mj_X) (a : Int32) : mj_CP mX5_isRule sh [.int a] x (bi (ru_is a)) := by
  refine mj_startP (ls := [some (.int a)]) (by decide) rfl rfl (fun Q hQ => ?_)
  refine mj_ildn dX5_isRule_0 rfl ?_
  refine mj_if_lt (tgt := 14) dX5_isRule_1 rfl (fun h_1 => ?_) (fun h_1 => ?_)
  · refine mj_iconst dX5_isRule_14 ni_0 ?_
    refine mj_retz rfl (by decide) dX5_isRule_15 ?_
    exact mj_q hQ (by unfold ru_is bi; simp; grind)
  · refine mj_ildn dX5_isRule_4 rfl ?_
    refine mj_bipush dX5_isRule_5 nb_6 ?_
    refine mj_ic_ge (tgt := 14) dX5_isRule_7 rfl (fun h_7 => ?_) (fun h_7 => ?_)
    · refine mj_iconst dX5_isRule_14 ni_0 ?_
      refine mj_retz rfl (by decide) dX5_isRule_15 ?_
      exact mj_q hQ (by unfold ru_is bi; simp; grind)
    · refine mj_iconst dX5_isRule_10 ni_1 ?_
      refine mj_goto (tgt := 15) dX5_isRule_11 rfl ?_
      refine mj_retz rfl (by decide) dX5_isRule_15 ?_
      exact mj_q hQ (by unfold ru_is bi; simp; grind)
set_option maxHeartbeats 1000000 in
theorem c_allows (sh : List mj_S) (c : Nat) (hs : ru_sh sh c) (x : mj_X) (a v : Int32) : mj_CP mX5_allows sh [.ref c, .int a, .int v] x (bi (ru_ok a v)) := by
  refine mj_startP (ls := [some (.ref c), some (.int a), some (.int v)]) (by decide) rfl rfl (fun Q hQ => ?_)
  refine mj_ildn dX5_allows_0 rfl ?_
  refine mj_csp (K := mX5_isRule) (c_isRule sh x a) ckX5_isRule lkX5_28 ⟨Nat.le_of_ble_eq_true rfl, Nat.le_of_ble_eq_true rfl⟩ rfl dX5_allows_1 (Nat.le_of_ble_eq_true rfl) ?_
  refine mj_if_eq (tgt := 29) dX5_allows_4 rfl (fun h_4 => ?_) (fun h_4 => ?_)
  · rw [bi_z] at h_4; simp only [ru_is, decide_eq_false_iff_not] at h_4
    refine mj_iconst dX5_allows_29 ni_0 ?_
    refine mj_retz rfl (by decide) dX5_allows_30 ?_
    exact mj_q hQ (by unfold ru_ok bi; simp; grind)
  · rw [bi_nz] at h_4; simp only [ru_is, decide_eq_true_eq] at h_4
    obtain ⟨j, hj, rfl⟩ := ix_of (n := 6) (by decide) h_4.1 h_4.2
    have ec := nI_clamp (n := j) (by omega)
    refine mj_ildn dX5_allows_7 rfl ?_
    refine mj_sta (c0 := 100) skX5_32 (by simp) dX5_allows_8 ?_
    refine mj_ildn dX5_allows_11 rfl ?_
    refine mj_stald (f := mj_st0) (by simp) dX5_allows_12 j hj rfl ?_
    refine mj_ic_lt (tgt := 29) dX5_allows_13 rfl (fun h_13 => ?_) (fun h_13 => ?_)
    · refine mj_iconst dX5_allows_29 ni_0 ?_
      refine mj_retz rfl (by decide) dX5_allows_30 ?_
      exact mj_q hQ (by unfold ru_ok bi; simp; grind)
    · refine mj_ildn dX5_allows_16 rfl ?_
      refine mj_sta (c0 := 101) skX5_35 (by simp) dX5_allows_17 ?_
      refine mj_ildn dX5_allows_20 rfl ?_
      refine mj_stald (f := mj_st1) (by simp) dX5_allows_21 j hj rfl ?_
      refine mj_ic_gt (tgt := 29) dX5_allows_22 rfl (fun h_22 => ?_) (fun h_22 => ?_)
      · refine mj_iconst dX5_allows_29 ni_0 ?_
        refine mj_retz rfl (by decide) dX5_allows_30 ?_
        exact mj_q hQ (by unfold ru_ok bi; simp; grind)
      · refine mj_iconst dX5_allows_25 ni_1 ?_
        refine mj_goto (tgt := 30) dX5_allows_26 rfl ?_
        refine mj_retz rfl (by decide) dX5_allows_30 ?_
        exact mj_q hQ (by unfold ru_ok bi; simp; grind)
set_option maxHeartbeats 1000000 in
theorem c_get (sh : List mj_S) (c : Nat) (hs : ru_sh sh c) (x : mj_X) (j : Nat) (hj : j < 6) : mj_CP mX5_get sh [.ref c, .int (nI j)] x (x (c + 1) j) := by
  refine mj_startP (ls := [some (.ref c), some (.int (nI j))]) (by decide) rfl rfl (fun Q hQ => ?_)
  refine mj_ildn dX5_get_0 rfl ?_
  refine mj_csp (K := mX5_isRule) (c_isRule sh x (nI j)) ckX5_isRule lkX5_28 ⟨Nat.le_of_ble_eq_true rfl, Nat.le_of_ble_eq_true rfl⟩ rfl dX5_get_1 (Nat.le_of_ble_eq_true rfl) ?_
  refine mj_if_eq (tgt := 16) dX5_get_4 rfl (fun h_4 => False.elim (by rw [bi_z] at h_4; simp only [ru_is, decide_eq_false_iff_not] at h_4; exact h_4 ⟨nI_pos' (by omega), nI_lt hj (by decide)⟩)) (fun h_4 => ?_)
  refine mj_aldn dX5_get_7 rfl ?_
  refine mj_getr fkX5_9 dX5_get_8 hs.1 rfl ?_
  refine mj_ildn dX5_get_11 rfl ?_
  refine mj_iald dX5_get_12 hs.2.1 j hj rfl (by decide) ?_
  refine mj_goto (tgt := 17) dX5_get_13 rfl ?_
  refine mj_ret rfl dX5_get_17 ?_
  exact hQ
set_option maxHeartbeats 1000000 in
theorem c_put (sh : List mj_S) (c : Nat) (hs : ru_sh sh c) (x : mj_X) (j : Nat) (hj : j < 6) (v : Int32) : mj_CV mX5_put sh [.ref c, .int (nI j), .int v] x (fun x1 => x1 = mj_up x (c + 1) j v) := by
  refine mj_startV (ls := [some (.ref c), some (.int (nI j)), some (.int v)]) (by decide) rfl rfl (fun Q hQ => ?_)
  refine mj_ildn dX5_put_0 rfl ?_
  refine mj_csp (K := mX5_isRule) (c_isRule sh x (nI j)) ckX5_isRule lkX5_28 ⟨Nat.le_of_ble_eq_true rfl, Nat.le_of_ble_eq_true rfl⟩ rfl dX5_put_1 (Nat.le_of_ble_eq_true rfl) ?_
  refine mj_if_eq (tgt := 14) dX5_put_4 rfl (fun h_4 => False.elim (by rw [bi_z] at h_4; simp only [ru_is, decide_eq_false_iff_not] at h_4; exact h_4 ⟨nI_pos' (by omega), nI_lt hj (by decide)⟩)) (fun h_4 => ?_)
  refine mj_aldn dX5_put_7 rfl ?_
  refine mj_getr fkX5_9 dX5_put_8 hs.1 rfl ?_
  refine mj_ildn dX5_put_11 rfl ?_
  refine mj_ildn dX5_put_12 rfl ?_
  refine mj_iast dX5_put_13 hs.2.1 j hj rfl (by decide) ?_
  refine mj_retv rfl dX5_put_14 ?_
  exact hQ _ rfl
set_option maxHeartbeats 1000000 in
theorem c_hasCode (sh : List mj_S) (c : Nat) (hs : ru_sh sh c) (x : mj_X) (k : Nat) (hk : k ≤ 6) (hsz : x c 3 = nI k) (a : Int32) : mj_CP mX5_hasCode sh [.ref c, .int a] x (bi (ru_hc k a)) := by
  refine mj_startP (ls := [some (.ref c), some (.int a)]) (by decide) rfl rfl (fun Q hQ => ?_)
  refine mj_ildn dX5_hasCode_0 rfl ?_
  refine mj_if_lt (tgt := 22) dX5_hasCode_1 rfl (fun h_1 => ?_) (fun h_1 => ?_)
  · refine mj_iconst dX5_hasCode_22 ni_0 ?_
    refine mj_retz rfl (by decide) dX5_hasCode_23 ?_
    exact mj_q hQ (by unfold ru_hc bi; simp; grind)
  · refine mj_ildn dX5_hasCode_4 rfl ?_
    refine mj_aldn dX5_hasCode_5 rfl ?_
    refine mj_geti fkX5_24 dX5_hasCode_6 hs.1 rfl ?_
    refine mj_ic_ge (tgt := 22) dX5_hasCode_9 rfl (fun h_9 => ?_) (fun h_9 => ?_)
    · rw [hsz] at h_9
      refine mj_iconst dX5_hasCode_22 ni_0 ?_
      refine mj_retz rfl (by decide) dX5_hasCode_23 ?_
      exact mj_q hQ (by unfold ru_hc bi; simp; grind)
    · rw [hsz] at h_9
      obtain ⟨j, hj, rfl⟩ := ix_of (n := k) (a := a) (by omega) (by grind) (by grind)
      refine mj_ildn dX5_hasCode_12 rfl ?_
      refine mj_bipush dX5_hasCode_13 nb_6 ?_
      refine mj_ic_ge (tgt := 22) dX5_hasCode_15 rfl (fun h_15 => False.elim (by exact nl_lt (show j < 6 by omega) (by decide) h_15)) (fun h_15 => ?_)
      refine mj_iconst dX5_hasCode_18 ni_1 ?_
      refine mj_goto (tgt := 23) dX5_hasCode_19 rfl ?_
      refine mj_retz rfl (by decide) dX5_hasCode_23 ?_
      exact mj_q hQ (by unfold ru_hc bi; simp; grind)
set_option maxHeartbeats 1000000 in
theorem c_pts (sh : List mj_S) (c : Nat) (hs : ru_sh sh c) (x : mj_X) (k : Nat) (hk : k ≤ 6) (hsz : x c 3 = nI k) (j : Nat) (hj : j < k) : mj_CP mX5_pointsOf sh [.ref c, .int (nI j)] x (x (c + 2) j) := by
  refine mj_startP (ls := [some (.ref c), some (.int (nI j))]) (by decide) rfl rfl (fun Q hQ => ?_)
  refine mj_aldn dX5_pointsOf_0 rfl ?_
  refine mj_ildn dX5_pointsOf_1 rfl ?_
  refine mj_cvp (K := mX5_hasCode) (c_hasCode sh c hs x k hk hsz (nI j)) ckX5_hasCode lkX5_38 ⟨Nat.le_of_ble_eq_true rfl, Nat.le_of_ble_eq_true rfl⟩ rfl dX5_pointsOf_2 hs.1 rfl (Nat.le_of_ble_eq_true rfl) ?_
  refine mj_if_eq (tgt := 17) dX5_pointsOf_5 rfl (fun h_5 => False.elim (by rw [bi_z] at h_5; simp only [ru_hc, decide_eq_false_iff_not] at h_5; exact h_5 ⟨nI_pos' (by omega), nI_lt hj (by omega)⟩)) (fun h_5 => ?_)
  refine mj_aldn dX5_pointsOf_8 rfl ?_
  refine mj_getr fkX5_15 dX5_pointsOf_9 hs.1 rfl ?_
  refine mj_ildn dX5_pointsOf_12 rfl ?_
  refine mj_iald dX5_pointsOf_13 hs.2.2.1 j (by omega) rfl (by decide) ?_
  refine mj_goto (tgt := 18) dX5_pointsOf_14 rfl ?_
  refine mj_ret rfl dX5_pointsOf_18 ?_
  exact hQ
set_option maxHeartbeats 1000000 in
theorem c_own (sh : List mj_S) (c : Nat) (hs : ru_sh sh c) (x : mj_X) (k : Nat) (hk : k ≤ 6) (hsz : x c 3 = nI k) (j : Nat) (hj : j < k) : mj_CP mX5_ownBanOf sh [.ref c, .int (nI j)] x (x (c + 3) j) := by
  refine mj_startP (ls := [some (.ref c), some (.int (nI j))]) (by decide) rfl rfl (fun Q hQ => ?_)
  refine mj_aldn dX5_ownBanOf_0 rfl ?_
  refine mj_ildn dX5_ownBanOf_1 rfl ?_
  refine mj_cvp (K := mX5_hasCode) (c_hasCode sh c hs x k hk hsz (nI j)) ckX5_hasCode lkX5_38 ⟨Nat.le_of_ble_eq_true rfl, Nat.le_of_ble_eq_true rfl⟩ rfl dX5_ownBanOf_2 hs.1 rfl (Nat.le_of_ble_eq_true rfl) ?_
  refine mj_if_eq (tgt := 17) dX5_ownBanOf_5 rfl (fun h_5 => False.elim (by rw [bi_z] at h_5; simp only [ru_hc, decide_eq_false_iff_not] at h_5; exact h_5 ⟨nI_pos' (by omega), nI_lt hj (by omega)⟩)) (fun h_5 => ?_)
  refine mj_aldn dX5_ownBanOf_8 rfl ?_
  refine mj_getr fkX5_18 dX5_ownBanOf_9 hs.1 rfl ?_
  refine mj_ildn dX5_ownBanOf_12 rfl ?_
  refine mj_iald dX5_ownBanOf_13 hs.2.2.2 j (by omega) rfl (by decide) ?_
  refine mj_goto (tgt := 18) dX5_ownBanOf_14 rfl ?_
  refine mj_ret rfl dX5_ownBanOf_18 ?_
  exact hQ
set_option maxHeartbeats 1000000 in
theorem c_addCode (sh : List mj_S) (c : Nat) (hs : ru_sh sh c) (x : mj_X) (k : Nat) (hk : k < 6) (hsz : x c 3 = nI k) (p b : Int32) : mj_CV mX5_addCode sh [.ref c, .int p, .int b] x (fun x1 => x1 = mj_up (mj_up (mj_up x (c + 2) k p) (c + 3) k b) c 3 (nI (k + 1))) := by
  have e1 : ∀ v, mj_up x (c + 2) k v c 3 = nI k := fun v => by rw [up_ne (by omega)]; exact hsz
  have e2 : ∀ v w, mj_up (mj_up x (c + 2) k v) (c + 3) k w c 3 = nI k := fun v w => by rw [up_ne (by omega), up_ne (by omega)]; exact hsz
  refine mj_startV (ls := [some (.ref c), some (.int p), some (.int b)]) (by decide) rfl rfl (fun Q hQ => ?_)
  refine mj_aldn dX5_addCode_0 rfl ?_
  refine mj_geti fkX5_24 dX5_addCode_1 hs.1 rfl ?_
  refine mj_if_lt (tgt := 46) dX5_addCode_4 rfl (fun h_4 => False.elim (by rw [hsz] at h_4; exact nI_pos (by omega) h_4)) (fun h_4 => ?_)
  refine mj_aldn dX5_addCode_7 rfl ?_
  refine mj_geti fkX5_24 dX5_addCode_8 hs.1 rfl ?_
  refine mj_bipush dX5_addCode_11 nb_6 ?_
  refine mj_ic_ge (tgt := 46) dX5_addCode_13 rfl (fun h_13 => False.elim (by rw [hsz] at h_13; exact nl_lt hk (by decide) h_13)) (fun h_13 => ?_)
  refine mj_aldn dX5_addCode_16 rfl ?_
  refine mj_getr fkX5_15 dX5_addCode_17 hs.1 rfl ?_
  refine mj_aldn dX5_addCode_20 rfl ?_
  refine mj_geti fkX5_24 dX5_addCode_21 hs.1 rfl ?_
  refine mj_ildn dX5_addCode_24 rfl ?_
  refine mj_iast dX5_addCode_25 hs.2.2.1 k hk hsz (by decide) ?_
  refine mj_aldn dX5_addCode_26 rfl ?_
  refine mj_getr fkX5_18 dX5_addCode_27 hs.1 rfl ?_
  refine mj_aldn dX5_addCode_30 rfl ?_
  refine mj_geti fkX5_24 dX5_addCode_31 hs.1 rfl ?_
  refine mj_ildn dX5_addCode_34 rfl ?_
  refine mj_iast dX5_addCode_35 hs.2.2.2 k hk (e1 p) (by decide) ?_
  refine mj_aldn dX5_addCode_36 rfl ?_
  refine mj_dupr dX5_addCode_37 ?_
  refine mj_geti fkX5_24 dX5_addCode_38 hs.1 rfl ?_
  refine mj_iconst dX5_addCode_41 ni_1 ?_
  refine mj_iadd dX5_addCode_42 ?_
  refine mj_puti fkX5_24 pkX5_3 dX5_addCode_43 hs.1 rfl ?_
  refine mj_retv rfl dX5_addCode_46 ?_
  exact hQ _ (by rw [← nI_1, ← e2 p b])
def ru_re (x y : mj_X) (c j : Nat) : Prop := (∀ i, i < j → y (c + 1) i = mj_st2 i) ∧ ∀ k, k ≠ c → k ≠ c + 1 → y k = x k
set_option maxHeartbeats 1000000 in
theorem c_reset (sh : List mj_S) (c : Nat) (hs : ru_sh sh c) (x : mj_X) : mj_CV mX5_reset sh [.ref c] x (fun y => ru_re x y c 6 ∧ y c 3 = 0) := by
  refine mj_startV (ls := [some (.ref c), none]) (by decide) rfl rfl (fun Q hQ => ?_)
  have loop : ∀ (k j : Nat) (y : mj_X), j ≤ 6 → 6 < j + k → ru_re x y c j → mj_V mX5_reset sh Q y 2 [some (.ref c), some (.int (nI j))] [] := by
    intro k
    induction k with
    | zero => intro j y h1 h2; omega
    | succ k ih =>
      intro j y h1 h2 hi
      refine mj_ildn dX5_reset_2 rfl ?_
      refine mj_bipush dX5_reset_3 nb_6 ?_
      refine mj_ic_ge (tgt := 25) dX5_reset_5 rfl (fun h_5 => ?_) (fun h_5 => ?_)
      · have hj : j = 6 := by have := (nI_leI (a := 6) (b := j) (by decide) (by omega)).mp h_5; omega
        subst hj
        refine mj_aldn dX5_reset_25 rfl ?_
        refine mj_iconst dX5_reset_26 ni_0 ?_
        refine mj_puti fkX5_24 pkX5_3 dX5_reset_27 hs.1 rfl ?_
        refine mj_retv rfl dX5_reset_30 ?_
        exact hQ _ ⟨⟨fun i h => by rw [up_ne (by omega)]; exact hi.1 i h, fun k a b => by rw [up_ne a]; exact hi.2 k a b⟩, by rw [up_eq, upd_eq]⟩
      · have hj : j < 6 := by have := mt (nI_leI (a := 6) (b := j) (by decide) (by omega)).mpr h_5; omega
        refine mj_aldn dX5_reset_8 rfl ?_
        refine mj_getr fkX5_9 dX5_reset_9 hs.1 rfl ?_
        refine mj_ildn dX5_reset_12 rfl ?_
        refine mj_sta (c0 := 102) skX5_21 (by simp) dX5_reset_13 ?_
        refine mj_ildn dX5_reset_16 rfl ?_
        refine mj_stald (f := mj_st2) (by simp) dX5_reset_17 j hj rfl ?_
        refine mj_iast dX5_reset_18 hs.2.1 j hj rfl (by decide) ?_
        refine mj_inc1 dX5_reset_19 ni_1 rfl ?_
        refine mj_goto (tgt := 2) dX5_reset_22 rfl ?_
        exact mj_ls (ih (j + 1) _ (by omega) (by omega) ⟨lt_s (fun a h => by rw [up_eq, upd_ne (by omega)]; exact hi.1 a h) (by rw [up_eq, upd_eq]), fun k a b => by rw [up_ne b]; exact hi.2 k a b⟩) (by simp [nI_1])
  refine mj_iconst dX5_reset_0 ni_0 ?_
  refine mj_istn1 dX5_reset_1 rfl ?_
  exact loop 7 0 x (by omega) (by omega) ⟨fun i h => by omega, fun _ _ _ => rfl⟩
/-- Rules.copy: 3 out of 7 -/
def ru_cp (x y : mj_X) (a b c : Nat) : Prop := (∀ i, i < a → y 4 i = x 8 i) ∧ (∀ i, i < b → y 5 i = x 9 i) ∧ (∀ i, i < c → y 6 i = x 10 i) ∧ ∀ k, k ≠ 3 → k ≠ 4 → k ≠ 5 → k ≠ 6 → y k = x k
set_option maxHeartbeats 1000000 in
theorem c_copy (R : List mj_S) (x : mj_X) : mj_CV mX5_copy (shX ++ R) [.ref 3, .ref 7] x (fun y => ru_cp x y 6 6 6 ∧ y 3 3 = x 7 3) := by
  refine mj_startV (ls := [some (.ref 3), some (.ref 7), none]) (by decide) rfl rfl (fun Q hQ => ?_)
  have loop2 : ∀ (k j : Nat) (y : mj_X), j ≤ 6 → 6 < j + k → ru_cp x y 6 j j → mj_V mX5_copy (shX ++ R) Q y 28 [some (.ref 3), some (.ref 7), some (.int (nI j))] [] := by
    intro k
    induction k with
    | zero => intro j y h1 h2; omega
    | succ k ih =>
      intro j y h1 h2 hi
      refine mj_ildn dX5_copy_28 rfl ?_
      refine mj_bipush dX5_copy_29 nb_6 ?_
      refine mj_ic_ge (tgt := 64) dX5_copy_31 rfl (fun h_31 => ?_) (fun h_31 => ?_)
      · have hj : j = 6 := by have := (nI_leI (a := 6) (b := j) (by decide) (by omega)).mp h_31; omega
        subst hj
        refine mj_aldn dX5_copy_64 rfl ?_
        refine mj_aldn dX5_copy_65 rfl ?_
        refine mj_geti fkX5_24 dX5_copy_66 rfl rfl ?_
        refine mj_puti fkX5_24 pkX5_3 dX5_copy_69 rfl rfl ?_
        refine mj_retv rfl dX5_copy_72 ?_
        exact hQ _ ⟨⟨fun i h => by rw [up_ne (by decide)]; exact hi.1 i h, fun i h => by rw [up_ne (by decide)]; exact hi.2.1 i h, fun i h => by rw [up_ne (by decide)]; exact hi.2.2.1 i h, fun k a b c d => by rw [up_ne a]; exact hi.2.2.2 k a b c d⟩, by rw [up_eq, upd_eq, hi.2.2.2 7 (by decide) (by decide) (by decide) (by decide)]⟩
      · have hj : j < 6 := by have := mt (nI_leI (a := 6) (b := j) (by decide) (by omega)).mpr h_31; omega
        refine mj_aldn dX5_copy_34 rfl ?_
        refine mj_getr fkX5_15 dX5_copy_35 rfl rfl ?_
        refine mj_ildn dX5_copy_38 rfl ?_
        refine mj_aldn dX5_copy_39 rfl ?_
        refine mj_getr fkX5_15 dX5_copy_40 rfl rfl ?_
        refine mj_ildn dX5_copy_43 rfl ?_
        refine mj_iald dX5_copy_44 rfl j hj rfl (by decide) ?_
        refine mj_iast dX5_copy_45 rfl j hj rfl (by decide) ?_
        refine mj_aldn dX5_copy_46 rfl ?_
        refine mj_getr fkX5_18 dX5_copy_47 rfl rfl ?_
        refine mj_ildn dX5_copy_50 rfl ?_
        refine mj_aldn dX5_copy_51 rfl ?_
        refine mj_getr fkX5_18 dX5_copy_52 rfl rfl ?_
        refine mj_ildn dX5_copy_55 rfl ?_
        refine mj_iald dX5_copy_56 rfl j hj rfl (by decide) ?_
        refine mj_iast dX5_copy_57 rfl j hj rfl (by decide) ?_
        refine mj_inc2 dX5_copy_58 ni_1 rfl ?_
        refine mj_goto (tgt := 28) dX5_copy_61 rfl ?_
        have e9 : y 9 j = x 9 j := by rw [hi.2.2.2 9 (by decide) (by decide) (by decide) (by decide)]
        have e10 : y 10 j = x 10 j := by rw [hi.2.2.2 10 (by decide) (by decide) (by decide) (by decide)]
        refine mj_ls (ih (j + 1) _ (by omega) (by omega) ⟨fun i h => ?_, lt_s (fun i h => ?_) ?_, lt_s (fun i h => ?_) ?_, fun k a b c d => ?_⟩) (by simp [nI_1])
        · rw [up_ne (by decide), up_ne (by decide)]; exact hi.1 i h
        · rw [up_ne (by decide), up_eq, upd_ne (by omega)]; exact hi.2.1 i h
        · rw [up_ne (by decide), up_eq, upd_eq]; exact e9
        · rw [up_eq, upd_ne (by omega), up_ne (by decide)]; exact hi.2.2.1 i h
        · rw [up_eq, upd_eq, up_ne (by decide)]; exact e10
        · rw [up_ne d, up_ne c]; exact hi.2.2.2 k a b c d
  have loop : ∀ (k j : Nat) (y : mj_X), j ≤ 6 → 6 < j + k → ru_cp x y j 0 0 → mj_V mX5_copy (shX ++ R) Q y 2 [some (.ref 3), some (.ref 7), some (.int (nI j))] [] := by
    intro k
    induction k with
    | zero => intro j y h1 h2; omega
    | succ k ih =>
      intro j y h1 h2 hi
      refine mj_ildn dX5_copy_2 rfl ?_
      refine mj_bipush dX5_copy_3 nb_6 ?_
      refine mj_ic_ge (tgt := 26) dX5_copy_5 rfl (fun h_5 => ?_) (fun h_5 => ?_)
      · have hj : j = 6 := by have := (nI_leI (a := 6) (b := j) (by decide) (by omega)).mp h_5; omega
        subst hj
        refine mj_iconst dX5_copy_26 ni_0 ?_
        refine mj_istn2 dX5_copy_27 rfl ?_
        exact loop2 7 0 _ (by omega) (by omega) hi
      · have hj : j < 6 := by have := mt (nI_leI (a := 6) (b := j) (by decide) (by omega)).mpr h_5; omega
        refine mj_aldn dX5_copy_8 rfl ?_
        refine mj_getr fkX5_9 dX5_copy_9 rfl rfl ?_
        refine mj_ildn dX5_copy_12 rfl ?_
        refine mj_aldn dX5_copy_13 rfl ?_
        refine mj_getr fkX5_9 dX5_copy_14 rfl rfl ?_
        refine mj_ildn dX5_copy_17 rfl ?_
        refine mj_iald dX5_copy_18 rfl j hj rfl (by decide) ?_
        refine mj_iast dX5_copy_19 rfl j hj rfl (by decide) ?_
        refine mj_inc2 dX5_copy_20 ni_1 rfl ?_
        refine mj_goto (tgt := 2) dX5_copy_23 rfl ?_
        have e8 : y 8 j = x 8 j := by rw [hi.2.2.2 8 (by decide) (by decide) (by decide) (by decide)]
        refine mj_ls (ih (j + 1) _ (by omega) (by omega) ⟨lt_s (fun i h => ?_) ?_, fun i h => by omega, fun i h => by omega, fun k a b c d => ?_⟩) (by simp [nI_1])
        · rw [up_eq, upd_ne (by omega)]; exact hi.1 i h
        · rw [up_eq, upd_eq]; exact e8
        · rw [up_ne b]; exact hi.2.2.2 k a b c d
  refine mj_iconst dX5_copy_0 ni_0 ?_
  refine mj_istn2 dX5_copy_1 rfl ?_
  exact loop 7 0 x (by omega) (by omega) ⟨fun i h => by omega, fun i h => by omega, fun i h => by omega, fun _ _ _ _ _ => rfl⟩
/-! CHANGES: cell 33 (size 3, dropped 4 5 6), rows 34 kind, 35 where, 36 was -/
def ch_fo (x y : mj_X) (j : Nat) : Prop := (∀ i, i < j → y 34 i = x 34 (i + 1) ∧ y 35 i = x 35 (i + 1) ∧ y 36 i = x 36 (i + 1)) ∧ (∀ i, j ≤ i → y 34 i = x 34 i ∧ y 35 i = x 35 i ∧ y 36 i = x 36 i) ∧ ∀ k, k ≠ 33 → k ≠ 34 → k ≠ 35 → k ≠ 36 → y k = x k
set_option maxHeartbeats 1000000 in
theorem c_forget (R : List mj_S) (x : mj_X) : mj_CV mX1_forgetOldest (shX ++ R) [.ref 33] x (fun y => ch_fo x y 5 ∧ y 33 3 = nI 5) := by
  refine mj_startV (ls := [some (.ref 33), none]) (by decide) rfl rfl (fun Q hQ => ?_)
  have loop : ∀ (k j : Nat) (y : mj_X), j ≤ 5 → 5 < j + k → ch_fo x y j → mj_V mX1_forgetOldest (shX ++ R) Q y 2 [some (.ref 33), some (.int (nI (j + 1)))] [] := by
    intro k
    induction k with
    | zero => intro j y h1 h2; omega
    | succ k ih =>
      intro j y h1 h2 hi
      have es : nI (j + 1) - 1 = nI j := nI_pred j
      refine mj_ildn dX1_forgetOldest_2 rfl ?_
      refine mj_bipush dX1_forgetOldest_3 nb_6 ?_
      refine mj_ic_ge (tgt := 56) dX1_forgetOldest_5 rfl (fun h_5 => ?_) (fun h_5 => ?_)
      · have hj : j = 5 := by have := (nI_leI (a := 6) (b := j + 1) (by decide) (by omega)).mp h_5; omega
        subst hj
        refine mj_aldn dX1_forgetOldest_56 rfl ?_
        refine mj_iconst dX1_forgetOldest_57 ni_5 ?_
        refine mj_puti fkX1_21 pkX1_3 dX1_forgetOldest_58 rfl rfl ?_
        refine mj_retv rfl dX1_forgetOldest_61 ?_
        exact hQ _ ⟨⟨fun i h => by rw [up_ne (by decide), up_ne (by decide), up_ne (by decide)]; exact hi.1 i h, fun i h => by rw [up_ne (by decide), up_ne (by decide), up_ne (by decide)]; exact hi.2.1 i h, fun k a b c d => by rw [up_ne a]; exact hi.2.2 k a b c d⟩, by rw [up_eq, upd_eq]; rfl⟩
      · have hj : j < 5 := by have := mt (nI_leI (a := 6) (b := j + 1) (by decide) (by omega)).mpr h_5; omega
        refine mj_aldn dX1_forgetOldest_8 rfl ?_
        refine mj_getr fkX1_9 dX1_forgetOldest_9 rfl rfl ?_
        refine mj_ildn dX1_forgetOldest_12 rfl ?_
        refine mj_iconst dX1_forgetOldest_13 ni_1 ?_
        refine mj_isub dX1_forgetOldest_14 ?_
        refine mj_aldn dX1_forgetOldest_15 rfl ?_
        refine mj_getr fkX1_9 dX1_forgetOldest_16 rfl rfl ?_
        refine mj_ildn dX1_forgetOldest_19 rfl ?_
        refine mj_iald dX1_forgetOldest_20 rfl (j + 1) (by omega) rfl (by decide) ?_
        refine mj_iast dX1_forgetOldest_21 rfl j (by omega) es (by decide) ?_
        refine mj_aldn dX1_forgetOldest_22 rfl ?_
        refine mj_getr fkX1_15 dX1_forgetOldest_23 rfl rfl ?_
        refine mj_ildn dX1_forgetOldest_26 rfl ?_
        refine mj_iconst dX1_forgetOldest_27 ni_1 ?_
        refine mj_isub dX1_forgetOldest_28 ?_
        refine mj_aldn dX1_forgetOldest_29 rfl ?_
        refine mj_getr fkX1_15 dX1_forgetOldest_30 rfl rfl ?_
        refine mj_ildn dX1_forgetOldest_33 rfl ?_
        refine mj_iald dX1_forgetOldest_34 rfl (j + 1) (by omega) rfl (by decide) ?_
        refine mj_iast dX1_forgetOldest_35 rfl j (by omega) es (by decide) ?_
        refine mj_aldn dX1_forgetOldest_36 rfl ?_
        refine mj_getr fkX1_18 dX1_forgetOldest_37 rfl rfl ?_
        refine mj_ildn dX1_forgetOldest_40 rfl ?_
        refine mj_iconst dX1_forgetOldest_41 ni_1 ?_
        refine mj_isub dX1_forgetOldest_42 ?_
        refine mj_aldn dX1_forgetOldest_43 rfl ?_
        refine mj_getr fkX1_18 dX1_forgetOldest_44 rfl rfl ?_
        refine mj_ildn dX1_forgetOldest_47 rfl ?_
        refine mj_iald dX1_forgetOldest_48 rfl (j + 1) (by omega) rfl (by decide) ?_
        refine mj_iast dX1_forgetOldest_49 rfl j (by omega) es (by decide) ?_
        refine mj_inc1 dX1_forgetOldest_50 ni_1 rfl ?_
        refine mj_goto (tgt := 2) dX1_forgetOldest_53 rfl ?_
        refine mj_ls (ih (j + 1) _ (by omega) (by omega) ⟨fun i h => ?_, fun i h => ?_, fun k a b c d => ?_⟩) (by simp [nI_1])
        · by_cases e : i = j
          · subst e
            have := hi.2.1 (i + 1) (by omega)
            simp [up_at, this]
          · have := hi.1 i (by omega)
            simp [up_at, e, this]
        · have := hi.2.1 i (by omega)
          simp [up_at, this, show i ≠ j by omega]
        · rw [up_ne d, up_ne c, up_ne b]; exact hi.2.2 k a b c d
  refine mj_iconst dX1_forgetOldest_0 ni_1 ?_
  refine mj_istn1 dX1_forgetOldest_1 rfl ?_
  exact loop 6 0 x (by omega) (by omega) ⟨fun i h => by omega, fun i h => ⟨rfl, rfl, rfl⟩, fun _ _ _ _ _ => rfl⟩
/-- a change is noted: s were there; the oldest goes where there are six -/
def ch_no (x y : mj_X) (s : Nat) (a b c : Int32) : Prop :=
  y 33 3 = nI ((if s < 6 then s else 5) + 1) ∧ (∀ i, i < (if s < 6 then s else 5) → y 34 i = x 34 (i + (if s < 6 then 0 else 1)) ∧ y 35 i = x 35 (i + (if s < 6 then 0 else 1)) ∧ y 36 i = x 36 (i + (if s < 6 then 0 else 1))) ∧
  (y 34 (if s < 6 then s else 5) = a ∧ y 35 (if s < 6 then s else 5) = b ∧ y 36 (if s < 6 then s else 5) = c) ∧ ∀ k, k ≠ 33 → k ≠ 34 → k ≠ 35 → k ≠ 36 → y k = x k
set_option maxHeartbeats 1000000 in
theorem c_note (R : List mj_S) (x : mj_X) (s : Nat) (hs : s ≤ 6) (hsz : x 33 3 = nI s) (a b c : Int32) : mj_CV mX1_note (shX ++ R) [.ref 33, .int a, .int b, .int c] x (fun y => ch_no x y s a b c) := by
  refine mj_startV (ls := [some (.ref 33), some (.int a), some (.int b), some (.int c)]) (by decide) rfl rfl (fun Q hQ => ?_)
  have tail : ∀ (y : mj_X) (s9 : Nat), s9 < 6 → y 33 3 = nI s9 → (∀ z : mj_X, z 33 3 = nI (s9 + 1) ∧ (∀ i, i < s9 → z 34 i = y 34 i ∧ z 35 i = y 35 i ∧ z 36 i = y 36 i) ∧ (z 34 s9 = a ∧ z 35 s9 = b ∧ z 36 s9 = c) ∧ (∀ k, k ≠ 33 → k ≠ 34 → k ≠ 35 → k ≠ 36 → z k = y k) → Q none z) → mj_V mX1_note (shX ++ R) Q y 13 [some (.ref 33), some (.int a), some (.int b), some (.int c)] [] := by
    intro y s9 h9 hs9 hQ9
    refine mj_aldn dX1_note_13 rfl ?_
    refine mj_geti fkX1_21 dX1_note_14 rfl rfl ?_
    refine mj_if_lt (tgt := 69) dX1_note_17 rfl (fun h_17 => False.elim (by rw [hs9] at h_17; exact nI_pos (by omega) h_17)) (fun h_17 => ?_)
    refine mj_aldn dX1_note_20 rfl ?_
    refine mj_geti fkX1_21 dX1_note_21 rfl rfl ?_
    refine mj_bipush dX1_note_24 nb_6 ?_
    refine mj_ic_ge (tgt := 69) dX1_note_26 rfl (fun h_26 => False.elim (by rw [hs9] at h_26; exact nl_lt h9 (by decide) h_26)) (fun h_26 => ?_)
    refine mj_aldn dX1_note_29 rfl ?_
    refine mj_getr fkX1_9 dX1_note_30 rfl rfl ?_
    refine mj_aldn dX1_note_33 rfl ?_
    refine mj_geti fkX1_21 dX1_note_34 rfl rfl ?_
    refine mj_ildn dX1_note_37 rfl ?_
    refine mj_iast dX1_note_38 rfl s9 (by omega) hs9 (by decide) ?_
    refine mj_aldn dX1_note_39 rfl ?_
    refine mj_getr fkX1_15 dX1_note_40 rfl rfl ?_
    refine mj_aldn dX1_note_43 rfl ?_
    refine mj_geti fkX1_21 dX1_note_44 rfl rfl ?_
    refine mj_ildn dX1_note_47 rfl ?_
    refine mj_iast dX1_note_48 rfl s9 (by omega) hs9 (by decide) ?_
    refine mj_aldn dX1_note_49 rfl ?_
    refine mj_getr fkX1_18 dX1_note_50 rfl rfl ?_
    refine mj_aldn dX1_note_53 rfl ?_
    refine mj_geti fkX1_21 dX1_note_54 rfl rfl ?_
    refine mj_ildn dX1_note_57 rfl ?_
    refine mj_iast dX1_note_58 rfl s9 (by omega) hs9 (by decide) ?_
    refine mj_aldn dX1_note_59 rfl ?_
    refine mj_dupr dX1_note_60 ?_
    refine mj_geti fkX1_21 dX1_note_61 rfl rfl ?_
    refine mj_iconst dX1_note_64 ni_1 ?_
    refine mj_iadd dX1_note_65 ?_
    refine mj_puti fkX1_21 pkX1_3 dX1_note_66 rfl rfl ?_
    refine mj_retv rfl dX1_note_69 ?_
    refine hQ9 _ ⟨?_, fun i h => ?_, ?_, fun k a b c d => ?_⟩
    · rw [up_eq, upd_eq, ← nI_1]; exact congrArg (· + 1) hs9
    · simp [up_at, show i ≠ s9 by omega]
    · simp [up_at]
    · rw [up_ne a, up_ne d, up_ne c, up_ne b]
  refine mj_aldn dX1_note_0 rfl ?_
  refine mj_geti fkX1_21 dX1_note_1 rfl rfl ?_
  refine mj_bipush dX1_note_4 nb_6 ?_
  refine mj_ic_lt (tgt := 13) dX1_note_6 rfl (fun h_6 => ?_) (fun h_6 => ?_)
  · rw [hsz] at h_6
    have hlt : s < 6 := (nI_ltI (a := s) (b := 6) (by omega) (by decide)).mp h_6
    refine tail x s hlt hsz (fun z hz => hQ _ ?_)
    unfold ch_no
    simp only [hlt, if_true, Nat.add_zero]
    exact hz
  · rw [hsz] at h_6
    have hge : ¬ s < 6 := fun h => h_6 (nI_lt h (by decide))
    refine mj_aldn dX1_note_9 rfl ?_
    refine mj_cvv (K := mX1_forgetOldest) (c_forget R x) ckX1_forgetOldest lkX1_25 ⟨Nat.le_of_ble_eq_true rfl, Nat.le_of_ble_eq_true rfl⟩ rfl dX1_note_10 rfl rfl (Nat.le_of_ble_eq_true rfl) (fun x_10 q_10 => ?_)
    refine tail x_10 5 (by omega) q_10.2 (fun z hz => hQ _ ?_)
    unfold ch_no
    simp only [hge, if_false]
    refine ⟨hz.1, fun i h => ?_, hz.2.2.1, fun k a b c d => by rw [hz.2.2.2 k a b c d]; exact q_10.1.2.2 k a b c d⟩
    have h1 := hz.2.1 i h
    have h2 := q_10.1.1 i h
    exact ⟨h1.1.trans h2.1, h1.2.1.trans h2.2.1, h1.2.2.trans h2.2.2⟩
set_option maxHeartbeats 1000000 in
theorem c_chdrop0 (R : List mj_S) (x : mj_X) (hsz : x 33 3 = nI 0) : mj_CP mX1_dropLast (shX ++ R) [.ref 33] x 0 := by
  refine mj_startP (ls := [some (.ref 33)]) (by decide) rfl rfl (fun Q hQ => ?_)
  refine mj_aldn dX1_dropLast_0 rfl ?_
  refine mj_geti fkX1_21 dX1_dropLast_1 rfl rfl ?_
  refine mj_iconst dX1_dropLast_4 ni_1 ?_
  refine mj_ic_lt (tgt := 17) dX1_dropLast_5 rfl (fun h_5 => ?_) (fun h_5 => False.elim (by rw [hsz] at h_5; exact h_5 (by decide)))
  refine mj_iconst dX1_dropLast_17 ni_0 ?_
  refine mj_retz rfl (by decide) dX1_dropLast_18 ?_
  exact hQ
def ch_dr (x : mj_X) (s : Nat) : mj_X := mj_up (mj_up (mj_up (mj_up x 33 3 (nI s)) 33 4 (x 34 s)) 33 5 (x 35 s)) 33 6 (x 36 s)
set_option maxHeartbeats 1000000 in
theorem c_chdrop (R : List mj_S) (x : mj_X) (s : Nat) (hs : s < 6) (hsz : x 33 3 = nI (s + 1)) : mj_CI mX1_dropLast (shX ++ R) [.ref 33] x (fun z y => z = 1 ∧ y = ch_dr x s) := by
  have es : x 33 3 - 1 = nI s := by rw [hsz]; exact nI_pred s
  refine mj_startI (ls := [some (.ref 33)]) (by decide) rfl rfl (fun Q hQ => ?_)
  refine mj_aldn dX1_dropLast_0 rfl ?_
  refine mj_geti fkX1_21 dX1_dropLast_1 rfl rfl ?_
  refine mj_iconst dX1_dropLast_4 ni_1 ?_
  refine mj_ic_lt (tgt := 17) dX1_dropLast_5 rfl (fun h_5 => False.elim (by rw [hsz] at h_5; exact absurd h_5 (nI_nlt (a := s + 1) (b := 1) (by omega) (by omega)))) (fun h_5 => ?_)
  refine mj_aldn dX1_dropLast_8 rfl ?_
  refine mj_geti fkX1_21 dX1_dropLast_9 rfl rfl ?_
  refine mj_bipush dX1_dropLast_12 nb_6 ?_
  refine mj_ic_le (tgt := 19) dX1_dropLast_14 rfl (fun h_14 => ?_) (fun h_14 => False.elim (by rw [hsz] at h_14; exact h_14 (nI_le (a := s + 1) (b := 6) (by omega) (by decide))))
  refine mj_aldn dX1_dropLast_19 rfl ?_
  refine mj_dupr dX1_dropLast_20 ?_
  refine mj_geti fkX1_21 dX1_dropLast_21 rfl rfl ?_
  refine mj_iconst dX1_dropLast_24 ni_1 ?_
  refine mj_isub dX1_dropLast_25 ?_
  refine mj_puti fkX1_21 pkX1_3 dX1_dropLast_26 rfl rfl ?_
  refine mj_aldn dX1_dropLast_29 rfl ?_
  refine mj_aldn dX1_dropLast_30 rfl ?_
  refine mj_getr fkX1_9 dX1_dropLast_31 rfl rfl ?_
  refine mj_aldn dX1_dropLast_34 rfl ?_
  refine mj_geti fkX1_21 dX1_dropLast_35 rfl rfl ?_
  refine mj_iald dX1_dropLast_38 rfl s hs es (by decide) ?_
  refine mj_puti fkX1_28 pkX1_4 dX1_dropLast_39 rfl rfl ?_
  refine mj_aldn dX1_dropLast_42 rfl ?_
  refine mj_aldn dX1_dropLast_43 rfl ?_
  refine mj_getr fkX1_15 dX1_dropLast_44 rfl rfl ?_
  refine mj_aldn dX1_dropLast_47 rfl ?_
  refine mj_geti fkX1_21 dX1_dropLast_48 rfl rfl ?_
  refine mj_iald dX1_dropLast_51 rfl s hs es (by decide) ?_
  refine mj_puti fkX1_31 pkX1_5 dX1_dropLast_52 rfl rfl ?_
  refine mj_aldn dX1_dropLast_55 rfl ?_
  refine mj_aldn dX1_dropLast_56 rfl ?_
  refine mj_getr fkX1_18 dX1_dropLast_57 rfl rfl ?_
  refine mj_aldn dX1_dropLast_60 rfl ?_
  refine mj_geti fkX1_21 dX1_dropLast_61 rfl rfl ?_
  refine mj_iald dX1_dropLast_64 rfl s hs es (by decide) ?_
  refine mj_puti fkX1_34 pkX1_6 dX1_dropLast_65 rfl rfl ?_
  refine mj_iconst dX1_dropLast_68 ni_1 ?_
  refine mj_retz rfl (by decide) dX1_dropLast_69 ?_
  exact hQ _ _ ⟨rfl, by unfold ch_dr; rw [← es]; rfl⟩
