/-! BANS: cell 24 (size at 7), rows 25 driver, 26 first, 27 last, 28 conviction, 29 givenOn, 30 great, 31 shortened -/
def bn_has (x : mj_X) (d day : Int32) (j : Nat) : Bool := decide (x 25 j = d ∧ x 26 j ≤ day ∧ day ≤ x 27 j)
def bn_behF (x : mj_X) (d day : Int32) (j : Nat) (a : Int32) : Int32 := if bn_has x d day j = true then (if a < x 27 j + 1 then x 27 j + 1 else a) else a
def bn_nextF (x : mj_X) (d day : Int32) (j : Nat) (a : Int32) : Int32 := if x 25 j = d ∧ day < x 26 j then (if x 26 j < a then x 26 j else a) else a
def bn_lateF (x : mj_X) (d : Int32) (j : Nat) (a : Int32) : Int32 := if x 25 j = d then (if a < x 27 j then x 27 j else a) else a
def bn_greatF (x : mj_X) (d day : Int32) (j : Nat) (a : Int32) : Int32 := if x 25 j = d ∧ x 30 j = 1 ∧ day ≤ x 29 j then a + 1 else a
def bn_cntF (x : mj_X) (d : Int32) (j : Nat) (a : Int32) : Int32 := if x 25 j = d then a + 1 else a
def bn_shF (x : mj_X) (d t : Int32) (j : Nat) (a : Int32 × Int32) : Int32 × Int32 := if bn_has x d t j = true ∧ x 31 j = 0 ∧ a.2 ≤ x 27 j then (nI j, x 27 j) else a
def bn_beh (x : mj_X) (n : Nat) (d day : Int32) : Int32 := lp_f (bn_behF x d day) day n
def bn_next (x : mj_X) (n : Nat) (d day oth : Int32) : Int32 := lp_f (bn_nextF x d day) oth n
def bn_free (x : mj_X) (n : Nat) (d : Int32) : Nat → Int32 → Int32
  | 0, day => day
  | s + 1, day => if bn_beh x n d day = day then day else bn_free x n d s (bn_beh x n d day)
def bn_days (x : mj_X) (n : Nat) (d to : Int32) : Nat → Int32 → Int32 → Int32
  | 0, tot, _ => tot
  | s + 1, tot, day => if to < day then tot else bn_days x n d to s (tot + ((if to + 1 < bn_free x n d 83 day then to + 1 else bn_free x n d 83 day) - day)) (bn_next x n d (bn_free x n d 83 day) (to + 1))
def bn_placeP (x : mj_X) (d k : Int32) (j : Nat) : Bool := decide (x 25 j = d ∧ lp_f (bn_cntF x d) 0 j = k)
def bn_tell (x : mj_X) (j : Nat) (what : Int32) : Int32 := if what = 0 then x 26 j else if what = 1 then x 27 j - x 26 j + 1 else if what = 2 then x 28 j else if what = 3 then x 30 j else x 31 j
def bn_add (x : mj_X) (n : Nat) (d f many e t g : Int32) : mj_X := mj_up (mj_up (mj_up (mj_up (mj_up (mj_up (mj_up (mj_up x 25 n d) 26 n f) 27 n (f + many - 1)) 28 n e) 29 n t) 30 n g) 31 n 0) 24 7 (nI (n + 1))
def bn_short (x : mj_X) (j : Nat) (t : Int32) : mj_X := mj_up (mj_up x 27 j (if x 27 j - (x 27 j - x 26 j + 1) / 4 < t then t else x 27 j - (x 27 j - x 26 j + 1) / 4)) 31 j 1
set_option maxHeartbeats 1000000 in
theorem c_has (R : List mj_S) (x : mj_X) (j : Nat) (hj : j < 82) (d day : Int32) : mj_CP mX0_has (shX ++ R) [.ref 24, .int (nI j), .int d, .int day] x (bi (bn_has x d day j)) := by
  refine mj_startP (ls := [some (.ref 24), some (.int (nI j)), some (.int d), some (.int day)]) (by decide) rfl rfl (fun Q hQ => ?_)
  refine mj_ildn dX0_has_0 rfl ?_
  refine mj_if_lt (tgt := 44) dX0_has_1 rfl (fun h_1 => False.elim (by exact nI_pos (by omega) h_1)) (fun h_1 => ?_)
  refine mj_ildn dX0_has_4 rfl ?_
  refine mj_bipush dX0_has_5 nb_82 ?_
  refine mj_ic_ge (tgt := 44) dX0_has_7 rfl (fun h_7 => False.elim (by exact nl_lt hj (by decide) h_7)) (fun h_7 => ?_)
  refine mj_aldn dX0_has_10 rfl ?_
  refine mj_getr fkX0_11 dX0_has_11 rfl rfl ?_
  refine mj_ildn dX0_has_14 rfl ?_
  refine mj_iald dX0_has_15 rfl _ (by omega) rfl (by decide) ?_
  refine mj_ildn dX0_has_16 rfl ?_
  refine mj_ic_ne (tgt := 44) dX0_has_17 rfl (fun h_17 => ?_) (fun h_17 => ?_)
  · refine mj_iconst dX0_has_44 ni_0 ?_
    refine mj_retz rfl (by decide) dX0_has_45 ?_
    exact mj_q hQ (by unfold bn_has bi; simp; grind)
  · refine mj_aldn dX0_has_20 rfl ?_
    refine mj_getr fkX0_15 dX0_has_21 rfl rfl ?_
    refine mj_ildn dX0_has_24 rfl ?_
    refine mj_iald dX0_has_25 rfl _ (by omega) rfl (by decide) ?_
    refine mj_ildn dX0_has_26 rfl ?_
    refine mj_ic_gt (tgt := 44) dX0_has_27 rfl (fun h_27 => ?_) (fun h_27 => ?_)
    · refine mj_iconst dX0_has_44 ni_0 ?_
      refine mj_retz rfl (by decide) dX0_has_45 ?_
      exact mj_q hQ (by unfold bn_has bi; simp; grind)
    · refine mj_ildn dX0_has_30 rfl ?_
      refine mj_aldn dX0_has_31 rfl ?_
      refine mj_getr fkX0_18 dX0_has_32 rfl rfl ?_
      refine mj_ildn dX0_has_35 rfl ?_
      refine mj_iald dX0_has_36 rfl _ (by omega) rfl (by decide) ?_
      refine mj_ic_gt (tgt := 44) dX0_has_37 rfl (fun h_37 => ?_) (fun h_37 => ?_)
      · refine mj_iconst dX0_has_44 ni_0 ?_
        refine mj_retz rfl (by decide) dX0_has_45 ?_
        exact mj_q hQ (by unfold bn_has bi; simp; grind)
      · refine mj_iconst dX0_has_40 ni_1 ?_
        refine mj_goto (tgt := 45) dX0_has_41 rfl ?_
        refine mj_retz rfl (by decide) dX0_has_45 ?_
        exact mj_q hQ (by unfold bn_has bi; simp; grind)
set_option maxHeartbeats 1000000 in
theorem c_hold (R : List mj_S) (x : mj_X) (n : Nat) (hn : n ≤ 82) (hsz : x 24 7 = nI n) (d day : Int32) : mj_CP mX0_hold (shX ++ R) [.ref 24, .int d, .int day] x (bi (lp_any (bn_has x d day) n)) := by
  refine mj_startP (ls := [some (.ref 24), some (.int d), some (.int day), none]) (by decide) rfl rfl (fun Q hQ => ?_)
  have loop : ∀ (k j : Nat), j ≤ n → n < j + k → lp_any (bn_has x d day) j = false → mj_V mX0_hold (shX ++ R) Q x 2 [some (.ref 24), some (.int d), some (.int day), some (.int (nI j))] [] := by
    intro k
    induction k with
    | zero => intro j h1 h2; omega
    | succ k ih =>
      intro j h1 h2 hp
      refine mj_ildn dX0_hold_2 rfl ?_
      refine mj_aldn dX0_hold_3 rfl ?_
      refine mj_geti fkX0_33 dX0_hold_4 rfl rfl ?_
      refine mj_ic_ge (tgt := 34) dX0_hold_7 rfl (fun h_7 => ?_) (fun h_7 => ?_)
      · have hj : j = n := by rw [hsz, nI_leI (by omega) (by omega)] at h_7; omega
        subst hj
        refine mj_iconst dX0_hold_34 ni_0 ?_
        refine mj_retz rfl (by decide) dX0_hold_35 ?_
        exact mj_q hQ (by rw [hp]; rfl)
      · have hlt : j < n := by rw [hsz, nI_leI (by omega) (by omega)] at h_7; omega
        refine mj_ildn dX0_hold_10 rfl ?_
        refine mj_bipush dX0_hold_11 nb_82 ?_
        refine mj_ic_ge (tgt := 34) dX0_hold_13 rfl (fun h_13 => False.elim (by exact nl_lt (show j < 82 by omega) (by decide) h_13)) (fun h_13 => ?_)
        refine mj_aldn dX0_hold_16 rfl ?_
        refine mj_ildn dX0_hold_17 rfl ?_
        refine mj_ildn dX0_hold_18 rfl ?_
        refine mj_ildn dX0_hold_19 rfl ?_
        refine mj_cvp (K := mX0_has) (c_has R x j (by omega) d day) ckX0_has lkX0_37 ⟨Nat.le_of_ble_eq_true rfl, Nat.le_of_ble_eq_true rfl⟩ rfl dX0_hold_20 rfl rfl (Nat.le_of_ble_eq_true rfl) ?_
        refine mj_if_eq (tgt := 28) dX0_hold_23 rfl (fun h_23 => ?_) (fun h_23 => ?_)
        · rw [bi_z] at h_23
          refine mj_inc3 dX0_hold_28 ni_1 rfl ?_
          refine mj_goto (tgt := 2) dX0_hold_31 rfl ?_
          exact mj_ls (ih (j + 1) (by omega) (by omega) (by simp [lp_any, hp, h_23])) (by simp [nI_1])
        · rw [bi_nz] at h_23
          refine mj_iconst dX0_hold_26 ni_1 ?_
          refine mj_retz rfl (by decide) dX0_hold_27 ?_
          exact mj_q hQ (by rw [lp_any_true h_23 hlt]; rfl)
  refine mj_iconst dX0_hold_0 ni_0 ?_
  refine mj_istn3 dX0_hold_1 rfl ?_
  exact loop (n + 1) 0 (by omega) (by omega) rfl
set_option maxHeartbeats 1000000 in
theorem c_beh (R : List mj_S) (x : mj_X) (n : Nat) (hn : n ≤ 82) (hsz : x 24 7 = nI n) (d day : Int32) : mj_CP mX0_dayBehindBansOn (shX ++ R) [.ref 24, .int d, .int day] x (bn_beh x n d day) := by
  refine mj_startP (ls := [some (.ref 24), some (.int d), some (.int day), none, none]) (by decide) rfl rfl (fun Q hQ => ?_)
  have loop : ∀ (k j : Nat), j ≤ n → n < j + k → mj_V mX0_dayBehindBansOn (shX ++ R) Q x 5 [some (.ref 24), some (.int d), some (.int day), some (.int (lp_f (bn_behF x d day) day j)), some (.int (nI j))] [] := by
    intro k
    induction k with
    | zero => intro j h1 h2; omega
    | succ k ih =>
      intro j h1 h2 
      refine mj_ild dX0_dayBehindBansOn_5 rfl ?_
      refine mj_aldn dX0_dayBehindBansOn_7 rfl ?_
      refine mj_geti fkX0_33 dX0_dayBehindBansOn_8 rfl rfl ?_
      refine mj_ic_ge (tgt := 52) dX0_dayBehindBansOn_11 rfl (fun h_11 => ?_) (fun h_11 => ?_)
      · have hj : j = n := by rw [hsz, nI_leI (by omega) (by omega)] at h_11; omega
        subst hj
        refine mj_ildn dX0_dayBehindBansOn_52 rfl ?_
        refine mj_ret rfl dX0_dayBehindBansOn_53 ?_
        exact mj_q hQ rfl
      · have hlt : j < n := by rw [hsz, nI_leI (by omega) (by omega)] at h_11; omega
        refine mj_ild dX0_dayBehindBansOn_14 rfl ?_
        refine mj_bipush dX0_dayBehindBansOn_16 nb_82 ?_
        refine mj_ic_ge (tgt := 52) dX0_dayBehindBansOn_18 rfl (fun h_18 => False.elim (by exact nl_lt (show j < 82 by omega) (by decide) h_18)) (fun h_18 => ?_)
        refine mj_aldn dX0_dayBehindBansOn_21 rfl ?_
        refine mj_ild dX0_dayBehindBansOn_22 rfl ?_
        refine mj_ildn dX0_dayBehindBansOn_24 rfl ?_
        refine mj_ildn dX0_dayBehindBansOn_25 rfl ?_
        refine mj_cvp (K := mX0_has) (c_has R x j (by omega) d day) ckX0_has lkX0_37 ⟨Nat.le_of_ble_eq_true rfl, Nat.le_of_ble_eq_true rfl⟩ rfl dX0_dayBehindBansOn_26 rfl rfl (Nat.le_of_ble_eq_true rfl) ?_
        refine mj_if_eq (tgt := 46) dX0_dayBehindBansOn_29 rfl (fun h_29 => ?_) (fun h_29 => ?_)
        · rw [bi_z] at h_29
          refine mj_inc4 dX0_dayBehindBansOn_46 ni_1 rfl ?_
          refine mj_goto (tgt := 5) dX0_dayBehindBansOn_49 rfl ?_
          exact mj_ls (ih (j + 1) (by omega) (by omega)) (by simp [lp_f, nI_1, bn_behF, h_11, h_29])
        · rw [bi_nz] at h_29
          refine mj_ildn dX0_dayBehindBansOn_32 rfl ?_
          refine mj_aldn dX0_dayBehindBansOn_33 rfl ?_
          refine mj_getr fkX0_18 dX0_dayBehindBansOn_34 rfl rfl ?_
          refine mj_ild dX0_dayBehindBansOn_37 rfl ?_
          refine mj_iald dX0_dayBehindBansOn_39 rfl _ (by omega) rfl (by decide) ?_
          refine mj_iconst dX0_dayBehindBansOn_40 ni_1 ?_
          refine mj_iadd dX0_dayBehindBansOn_41 ?_
          refine mj_mx lkX0_45 (Nat.le_of_ble_eq_true rfl) (Nat.le_of_ble_eq_true rfl) (Nat.le_of_ble_eq_true rfl) dX0_dayBehindBansOn_42 ?_
          refine mj_istn3 dX0_dayBehindBansOn_45 rfl ?_
          refine mj_inc4 dX0_dayBehindBansOn_46 ni_1 rfl ?_
          refine mj_goto (tgt := 5) dX0_dayBehindBansOn_49 rfl ?_
          exact mj_ls (ih (j + 1) (by omega) (by omega)) (by simp [lp_f, nI_1, bn_behF, h_11, h_29])
  refine mj_ildn dX0_dayBehindBansOn_0 rfl ?_
  refine mj_istn3 dX0_dayBehindBansOn_1 rfl ?_
  refine mj_iconst dX0_dayBehindBansOn_2 ni_0 ?_
  refine mj_ist4 dX0_dayBehindBansOn_3 rfl ?_
  exact loop (n + 1) 0 (by omega) (by omega)
set_option maxHeartbeats 1000000 in
theorem c_next (R : List mj_S) (x : mj_X) (n : Nat) (hn : n ≤ 82) (hsz : x 24 7 = nI n) (d day oth : Int32) : mj_CP mX0_nextFirstDay (shX ++ R) [.ref 24, .int d, .int day, .int oth] x (bn_next x n d day oth) := by
  refine mj_startP (ls := [some (.ref 24), some (.int d), some (.int day), some (.int oth), none, none]) (by decide) rfl rfl (fun Q hQ => ?_)
  have loop : ∀ (k j : Nat), j ≤ n → n < j + k → mj_V mX0_nextFirstDay (shX ++ R) Q x 6 [some (.ref 24), some (.int d), some (.int day), some (.int oth), some (.int (lp_f (bn_nextF x d day) oth j)), some (.int (nI j))] [] := by
    intro k
    induction k with
    | zero => intro j h1 h2; omega
    | succ k ih =>
      intro j h1 h2 
      refine mj_ild dX0_nextFirstDay_6 rfl ?_
      refine mj_aldn dX0_nextFirstDay_8 rfl ?_
      refine mj_geti fkX0_33 dX0_nextFirstDay_9 rfl rfl ?_
      refine mj_ic_ge (tgt := 64) dX0_nextFirstDay_12 rfl (fun h_12 => ?_) (fun h_12 => ?_)
      · have hj : j = n := by rw [hsz, nI_leI (by omega) (by omega)] at h_12; omega
        subst hj
        refine mj_ild dX0_nextFirstDay_64 rfl ?_
        refine mj_ret rfl dX0_nextFirstDay_66 ?_
        exact mj_q hQ rfl
      · have hlt : j < n := by rw [hsz, nI_leI (by omega) (by omega)] at h_12; omega
        refine mj_ild dX0_nextFirstDay_15 rfl ?_
        refine mj_bipush dX0_nextFirstDay_17 nb_82 ?_
        refine mj_ic_ge (tgt := 64) dX0_nextFirstDay_19 rfl (fun h_19 => False.elim (by exact nl_lt (show j < 82 by omega) (by decide) h_19)) (fun h_19 => ?_)
        refine mj_aldn dX0_nextFirstDay_22 rfl ?_
        refine mj_getr fkX0_11 dX0_nextFirstDay_23 rfl rfl ?_
        refine mj_ild dX0_nextFirstDay_26 rfl ?_
        refine mj_iald dX0_nextFirstDay_28 rfl _ (by omega) rfl (by decide) ?_
        refine mj_ildn dX0_nextFirstDay_29 rfl ?_
        refine mj_ic_ne (tgt := 58) dX0_nextFirstDay_30 rfl (fun h_30 => ?_) (fun h_30 => ?_)
        · refine mj_inc5 dX0_nextFirstDay_58 ni_1 rfl ?_
          refine mj_goto (tgt := 6) dX0_nextFirstDay_61 rfl ?_
          exact mj_ls (ih (j + 1) (by omega) (by omega)) (by simp [lp_f, nI_1, bn_nextF] <;> grind)
        · refine mj_aldn dX0_nextFirstDay_33 rfl ?_
          refine mj_getr fkX0_15 dX0_nextFirstDay_34 rfl rfl ?_
          refine mj_ild dX0_nextFirstDay_37 rfl ?_
          refine mj_iald dX0_nextFirstDay_39 rfl _ (by omega) rfl (by decide) ?_
          refine mj_ildn dX0_nextFirstDay_40 rfl ?_
          refine mj_ic_le (tgt := 58) dX0_nextFirstDay_41 rfl (fun h_41 => ?_) (fun h_41 => ?_)
          · have g_41 : ¬ day < x 26 j := by grind
            refine mj_inc5 dX0_nextFirstDay_58 ni_1 rfl ?_
            refine mj_goto (tgt := 6) dX0_nextFirstDay_61 rfl ?_
            exact mj_ls (ih (j + 1) (by omega) (by omega)) (by simp [lp_f, nI_1, bn_nextF] <;> grind)
          · have g_41 : day < x 26 j := by grind
            refine mj_ild dX0_nextFirstDay_44 rfl ?_
            refine mj_aldn dX0_nextFirstDay_46 rfl ?_
            refine mj_getr fkX0_15 dX0_nextFirstDay_47 rfl rfl ?_
            refine mj_ild dX0_nextFirstDay_50 rfl ?_
            refine mj_iald dX0_nextFirstDay_52 rfl _ (by omega) rfl (by decide) ?_
            refine mj_mn lkX0_53 (Nat.le_of_ble_eq_true rfl) (Nat.le_of_ble_eq_true rfl) (Nat.le_of_ble_eq_true rfl) dX0_nextFirstDay_53 ?_
            refine mj_ist4 dX0_nextFirstDay_56 rfl ?_
            refine mj_inc5 dX0_nextFirstDay_58 ni_1 rfl ?_
            refine mj_goto (tgt := 6) dX0_nextFirstDay_61 rfl ?_
            exact mj_ls (ih (j + 1) (by omega) (by omega)) (by simp [lp_f, nI_1, bn_nextF] <;> grind)
  refine mj_ildn dX0_nextFirstDay_0 rfl ?_
  refine mj_ist4 dX0_nextFirstDay_1 rfl ?_
  refine mj_iconst dX0_nextFirstDay_3 ni_0 ?_
  refine mj_ist5 dX0_nextFirstDay_4 rfl ?_
  exact loop (n + 1) 0 (by omega) (by omega)
set_option maxHeartbeats 1000000 in
theorem c_late (R : List mj_S) (x : mj_X) (n : Nat) (hn : n ≤ 82) (hsz : x 24 7 = nI n) (d : Int32) : mj_CP mX0_latestDay (shX ++ R) [.ref 24, .int d] x (lp_f (bn_lateF x d) (-1) n) := by
  refine mj_startP (ls := [some (.ref 24), some (.int d), none, none]) (by decide) rfl rfl (fun Q hQ => ?_)
  have loop : ∀ (k j : Nat), j ≤ n → n < j + k → mj_V mX0_latestDay (shX ++ R) Q x 4 [some (.ref 24), some (.int d), some (.int (lp_f (bn_lateF x d) (-1) j)), some (.int (nI j))] [] := by
    intro k
    induction k with
    | zero => intro j h1 h2; omega
    | succ k ih =>
      intro j h1 h2 
      refine mj_ildn dX0_latestDay_4 rfl ?_
      refine mj_aldn dX0_latestDay_5 rfl ?_
      refine mj_geti fkX0_33 dX0_latestDay_6 rfl rfl ?_
      refine mj_ic_ge (tgt := 45) dX0_latestDay_9 rfl (fun h_9 => ?_) (fun h_9 => ?_)
      · have hj : j = n := by rw [hsz, nI_leI (by omega) (by omega)] at h_9; omega
        subst hj
        refine mj_ildn dX0_latestDay_45 rfl ?_
        refine mj_ret rfl dX0_latestDay_46 ?_
        exact mj_q hQ rfl
      · have hlt : j < n := by rw [hsz, nI_leI (by omega) (by omega)] at h_9; omega
        refine mj_ildn dX0_latestDay_12 rfl ?_
        refine mj_bipush dX0_latestDay_13 nb_82 ?_
        refine mj_ic_ge (tgt := 45) dX0_latestDay_15 rfl (fun h_15 => False.elim (by exact nl_lt (show j < 82 by omega) (by decide) h_15)) (fun h_15 => ?_)
        refine mj_aldn dX0_latestDay_18 rfl ?_
        refine mj_getr fkX0_11 dX0_latestDay_19 rfl rfl ?_
        refine mj_ildn dX0_latestDay_22 rfl ?_
        refine mj_iald dX0_latestDay_23 rfl _ (by omega) rfl (by decide) ?_
        refine mj_ildn dX0_latestDay_24 rfl ?_
        refine mj_ic_ne (tgt := 39) dX0_latestDay_25 rfl (fun h_25 => ?_) (fun h_25 => ?_)
        · refine mj_inc3 dX0_latestDay_39 ni_1 rfl ?_
          refine mj_goto (tgt := 4) dX0_latestDay_42 rfl ?_
          exact mj_ls (ih (j + 1) (by omega) (by omega)) (by simp [lp_f, nI_1, bn_lateF, h_9, h_25])
        · refine mj_ildn dX0_latestDay_28 rfl ?_
          refine mj_aldn dX0_latestDay_29 rfl ?_
          refine mj_getr fkX0_18 dX0_latestDay_30 rfl rfl ?_
          refine mj_ildn dX0_latestDay_33 rfl ?_
          refine mj_iald dX0_latestDay_34 rfl _ (by omega) rfl (by decide) ?_
          refine mj_mx lkX0_45 (Nat.le_of_ble_eq_true rfl) (Nat.le_of_ble_eq_true rfl) (Nat.le_of_ble_eq_true rfl) dX0_latestDay_35 ?_
          refine mj_istn2 dX0_latestDay_38 rfl ?_
          refine mj_inc3 dX0_latestDay_39 ni_1 rfl ?_
          refine mj_goto (tgt := 4) dX0_latestDay_42 rfl ?_
          exact mj_ls (ih (j + 1) (by omega) (by omega)) (by simp [lp_f, nI_1, bn_lateF, h_9, h_25])
  refine mj_iconst dX0_latestDay_0 ni_m1 ?_
  refine mj_istn2 dX0_latestDay_1 rfl ?_
  refine mj_iconst dX0_latestDay_2 ni_0 ?_
  refine mj_istn3 dX0_latestDay_3 rfl ?_
  exact loop (n + 1) 0 (by omega) (by omega)
set_option maxHeartbeats 1000000 in
theorem c_great (R : List mj_S) (x : mj_X) (n : Nat) (hn : n ≤ 82) (hsz : x 24 7 = nI n) (d day : Int32) : mj_CP mX0_greatSince (shX ++ R) [.ref 24, .int d, .int day] x (lp_f (bn_greatF x d day) 0 n) := by
  refine mj_startP (ls := [some (.ref 24), some (.int d), some (.int day), none, none]) (by decide) rfl rfl (fun Q hQ => ?_)
  have loop : ∀ (k j : Nat), j ≤ n → n < j + k → mj_V mX0_greatSince (shX ++ R) Q x 5 [some (.ref 24), some (.int d), some (.int day), some (.int (lp_f (bn_greatF x d day) 0 j)), some (.int (nI j))] [] := by
    intro k
    induction k with
    | zero => intro j h1 h2; omega
    | succ k ih =>
      intro j h1 h2 
      refine mj_ild dX0_greatSince_5 rfl ?_
      refine mj_aldn dX0_greatSince_7 rfl ?_
      refine mj_geti fkX0_33 dX0_greatSince_8 rfl rfl ?_
      refine mj_ic_ge (tgt := 63) dX0_greatSince_11 rfl (fun h_11 => ?_) (fun h_11 => ?_)
      · have hj : j = n := by rw [hsz, nI_leI (by omega) (by omega)] at h_11; omega
        subst hj
        refine mj_ildn dX0_greatSince_63 rfl ?_
        refine mj_ret rfl dX0_greatSince_64 ?_
        exact mj_q hQ rfl
      · have hlt : j < n := by rw [hsz, nI_leI (by omega) (by omega)] at h_11; omega
        refine mj_ild dX0_greatSince_14 rfl ?_
        refine mj_bipush dX0_greatSince_16 nb_82 ?_
        refine mj_ic_ge (tgt := 63) dX0_greatSince_18 rfl (fun h_18 => False.elim (by exact nl_lt (show j < 82 by omega) (by decide) h_18)) (fun h_18 => ?_)
        refine mj_aldn dX0_greatSince_21 rfl ?_
        refine mj_getr fkX0_11 dX0_greatSince_22 rfl rfl ?_
        refine mj_ild dX0_greatSince_25 rfl ?_
        refine mj_iald dX0_greatSince_27 rfl _ (by omega) rfl (by decide) ?_
        refine mj_ildn dX0_greatSince_28 rfl ?_
        refine mj_ic_ne (tgt := 57) dX0_greatSince_29 rfl (fun h_29 => ?_) (fun h_29 => ?_)
        · refine mj_inc4 dX0_greatSince_57 ni_1 rfl ?_
          refine mj_goto (tgt := 5) dX0_greatSince_60 rfl ?_
          exact mj_ls (ih (j + 1) (by omega) (by omega)) (by simp [lp_f, nI_1, bn_greatF] <;> grind)
        · refine mj_aldn dX0_greatSince_32 rfl ?_
          refine mj_getr fkX0_27 dX0_greatSince_33 rfl rfl ?_
          refine mj_ild dX0_greatSince_36 rfl ?_
          refine mj_iald dX0_greatSince_38 rfl _ (by omega) rfl (by decide) ?_
          refine mj_iconst dX0_greatSince_39 ni_1 ?_
          refine mj_ic_ne (tgt := 57) dX0_greatSince_40 rfl (fun h_40 => ?_) (fun h_40 => ?_)
          · refine mj_inc4 dX0_greatSince_57 ni_1 rfl ?_
            refine mj_goto (tgt := 5) dX0_greatSince_60 rfl ?_
            exact mj_ls (ih (j + 1) (by omega) (by omega)) (by simp [lp_f, nI_1, bn_greatF] <;> grind)
          · refine mj_aldn dX0_greatSince_43 rfl ?_
            refine mj_getr fkX0_24 dX0_greatSince_44 rfl rfl ?_
            refine mj_ild dX0_greatSince_47 rfl ?_
            refine mj_iald dX0_greatSince_49 rfl _ (by omega) rfl (by decide) ?_
            refine mj_ildn dX0_greatSince_50 rfl ?_
            refine mj_ic_lt (tgt := 57) dX0_greatSince_51 rfl (fun h_51 => ?_) (fun h_51 => ?_)
            · refine mj_inc4 dX0_greatSince_57 ni_1 rfl ?_
              refine mj_goto (tgt := 5) dX0_greatSince_60 rfl ?_
              exact mj_ls (ih (j + 1) (by omega) (by omega)) (by simp [lp_f, nI_1, bn_greatF] <;> grind)
            · refine mj_inc3 dX0_greatSince_54 ni_1 rfl ?_
              refine mj_inc4 dX0_greatSince_57 ni_1 rfl ?_
              refine mj_goto (tgt := 5) dX0_greatSince_60 rfl ?_
              exact mj_ls (ih (j + 1) (by omega) (by omega)) (by simp [lp_f, nI_1, bn_greatF] <;> grind)
  refine mj_iconst dX0_greatSince_0 ni_0 ?_
  refine mj_istn3 dX0_greatSince_1 rfl ?_
  refine mj_iconst dX0_greatSince_2 ni_0 ?_
  refine mj_ist4 dX0_greatSince_3 rfl ?_
  exact loop (n + 1) 0 (by omega) (by omega)
set_option maxHeartbeats 1000000 in
theorem c_toSh (R : List mj_S) (x : mj_X) (n : Nat) (hn : n ≤ 82) (hsz : x 24 7 = nI n) (d t : Int32) : mj_CP mX0_toShorten (shX ++ R) [.ref 24, .int d, .int t] x (lp_f (bn_shF x d t) (-1, t) n).1 := by
  refine mj_startP (ls := [some (.ref 24), some (.int d), some (.int t), none, none, none]) (by decide) rfl rfl (fun Q hQ => ?_)
  have loop : ∀ (k j : Nat), j ≤ n → n < j + k → mj_V mX0_toShorten (shX ++ R) Q x 8 [some (.ref 24), some (.int d), some (.int t), some (.int (lp_f (bn_shF x d t) (-1, t) j).1), some (.int (lp_f (bn_shF x d t) (-1, t) j).2), some (.int (nI j))] [] := by
    intro k
    induction k with
    | zero => intro j h1 h2; omega
    | succ k ih =>
      intro j h1 h2 
      refine mj_ild dX0_toShorten_8 rfl ?_
      refine mj_aldn dX0_toShorten_10 rfl ?_
      refine mj_geti fkX0_33 dX0_toShorten_11 rfl rfl ?_
      refine mj_ic_ge (tgt := 75) dX0_toShorten_14 rfl (fun h_14 => ?_) (fun h_14 => ?_)
      · have hj : j = n := by rw [hsz, nI_leI (by omega) (by omega)] at h_14; omega
        subst hj
        refine mj_ildn dX0_toShorten_75 rfl ?_
        refine mj_ret rfl dX0_toShorten_76 ?_
        exact mj_q hQ rfl
      · have hlt : j < n := by rw [hsz, nI_leI (by omega) (by omega)] at h_14; omega
        refine mj_ild dX0_toShorten_17 rfl ?_
        refine mj_bipush dX0_toShorten_19 nb_82 ?_
        refine mj_ic_ge (tgt := 75) dX0_toShorten_21 rfl (fun h_21 => False.elim (by exact nl_lt (show j < 82 by omega) (by decide) h_21)) (fun h_21 => ?_)
        refine mj_aldn dX0_toShorten_24 rfl ?_
        refine mj_ild dX0_toShorten_25 rfl ?_
        refine mj_ildn dX0_toShorten_27 rfl ?_
        refine mj_ildn dX0_toShorten_28 rfl ?_
        refine mj_cvp (K := mX0_has) (c_has R x j (by omega) d t) ckX0_has lkX0_37 ⟨Nat.le_of_ble_eq_true rfl, Nat.le_of_ble_eq_true rfl⟩ rfl dX0_toShorten_29 rfl rfl (Nat.le_of_ble_eq_true rfl) ?_
        refine mj_if_eq (tgt := 69) dX0_toShorten_32 rfl (fun h_32 => ?_) (fun h_32 => ?_)
        · rw [bi_z] at h_32
          refine mj_inc5 dX0_toShorten_69 ni_1 rfl ?_
          refine mj_goto (tgt := 8) dX0_toShorten_72 rfl ?_
          exact mj_ls (ih (j + 1) (by omega) (by omega)) (by simp [lp_f, nI_1, bn_shF] <;> grind)
        · rw [bi_nz] at h_32
          refine mj_aldn dX0_toShorten_35 rfl ?_
          refine mj_getr fkX0_30 dX0_toShorten_36 rfl rfl ?_
          refine mj_ild dX0_toShorten_39 rfl ?_
          refine mj_iald dX0_toShorten_41 rfl _ (by omega) rfl (by decide) ?_
          refine mj_if_ne (tgt := 69) dX0_toShorten_42 rfl (fun h_42 => ?_) (fun h_42 => ?_)
          · refine mj_inc5 dX0_toShorten_69 ni_1 rfl ?_
            refine mj_goto (tgt := 8) dX0_toShorten_72 rfl ?_
            exact mj_ls (ih (j + 1) (by omega) (by omega)) (by simp [lp_f, nI_1, bn_shF] <;> grind)
          · refine mj_aldn dX0_toShorten_45 rfl ?_
            refine mj_getr fkX0_18 dX0_toShorten_46 rfl rfl ?_
            refine mj_ild dX0_toShorten_49 rfl ?_
            refine mj_iald dX0_toShorten_51 rfl _ (by omega) rfl (by decide) ?_
            refine mj_ild dX0_toShorten_52 rfl ?_
            refine mj_ic_lt (tgt := 69) dX0_toShorten_54 rfl (fun h_54 => ?_) (fun h_54 => ?_)
            · refine mj_inc5 dX0_toShorten_69 ni_1 rfl ?_
              refine mj_goto (tgt := 8) dX0_toShorten_72 rfl ?_
              exact mj_ls (ih (j + 1) (by omega) (by omega)) (by simp [lp_f, nI_1, bn_shF] <;> grind)
            · refine mj_ild dX0_toShorten_57 rfl ?_
              refine mj_istn3 dX0_toShorten_59 rfl ?_
              refine mj_aldn dX0_toShorten_60 rfl ?_
              refine mj_getr fkX0_18 dX0_toShorten_61 rfl rfl ?_
              refine mj_ild dX0_toShorten_64 rfl ?_
              refine mj_iald dX0_toShorten_66 rfl _ (by omega) rfl (by decide) ?_
              refine mj_ist4 dX0_toShorten_67 rfl ?_
              refine mj_inc5 dX0_toShorten_69 ni_1 rfl ?_
              refine mj_goto (tgt := 8) dX0_toShorten_72 rfl ?_
              exact mj_ls (ih (j + 1) (by omega) (by omega)) (by simp [lp_f, nI_1, bn_shF] <;> grind)
  refine mj_iconst dX0_toShorten_0 ni_m1 ?_
  refine mj_istn3 dX0_toShorten_1 rfl ?_
  refine mj_ildn dX0_toShorten_2 rfl ?_
  refine mj_ist4 dX0_toShorten_3 rfl ?_
  refine mj_iconst dX0_toShorten_5 ni_0 ?_
  refine mj_ist5 dX0_toShorten_6 rfl ?_
  exact loop (n + 1) 0 (by omega) (by omega)
set_option maxHeartbeats 1000000 in
theorem c_cnt (R : List mj_S) (x : mj_X) (n : Nat) (hn : n ≤ 82) (hsz : x 24 7 = nI n) (d : Int32) : mj_CP mX0_givenTo (shX ++ R) [.ref 24, .int d] x (lp_f (bn_cntF x d) 0 n) := by
  refine mj_startP (ls := [some (.ref 24), some (.int d), none, none]) (by decide) rfl rfl (fun Q hQ => ?_)
  have loop : ∀ (k j : Nat), j ≤ n → n < j + k → mj_V mX0_givenTo (shX ++ R) Q x 4 [some (.ref 24), some (.int d), some (.int (lp_f (bn_cntF x d) 0 j)), some (.int (nI j))] [] := by
    intro k
    induction k with
    | zero => intro j h1 h2; omega
    | succ k ih =>
      intro j h1 h2 
      refine mj_ildn dX0_givenTo_4 rfl ?_
      refine mj_aldn dX0_givenTo_5 rfl ?_
      refine mj_geti fkX0_33 dX0_givenTo_6 rfl rfl ?_
      refine mj_ic_ge (tgt := 37) dX0_givenTo_9 rfl (fun h_9 => ?_) (fun h_9 => ?_)
      · have hj : j = n := by rw [hsz, nI_leI (by omega) (by omega)] at h_9; omega
        subst hj
        refine mj_ildn dX0_givenTo_37 rfl ?_
        refine mj_ret rfl dX0_givenTo_38 ?_
        exact mj_q hQ rfl
      · have hlt : j < n := by rw [hsz, nI_leI (by omega) (by omega)] at h_9; omega
        refine mj_ildn dX0_givenTo_12 rfl ?_
        refine mj_bipush dX0_givenTo_13 nb_82 ?_
        refine mj_ic_ge (tgt := 37) dX0_givenTo_15 rfl (fun h_15 => False.elim (by exact nl_lt (show j < 82 by omega) (by decide) h_15)) (fun h_15 => ?_)
        refine mj_aldn dX0_givenTo_18 rfl ?_
        refine mj_getr fkX0_11 dX0_givenTo_19 rfl rfl ?_
        refine mj_ildn dX0_givenTo_22 rfl ?_
        refine mj_iald dX0_givenTo_23 rfl _ (by omega) rfl (by decide) ?_
        refine mj_ildn dX0_givenTo_24 rfl ?_
        refine mj_ic_ne (tgt := 31) dX0_givenTo_25 rfl (fun h_25 => ?_) (fun h_25 => ?_)
        · refine mj_inc3 dX0_givenTo_31 ni_1 rfl ?_
          refine mj_goto (tgt := 4) dX0_givenTo_34 rfl ?_
          exact mj_ls (ih (j + 1) (by omega) (by omega)) (by simp [lp_f, nI_1, bn_cntF, h_9, h_25])
        · refine mj_inc2 dX0_givenTo_28 ni_1 rfl ?_
          refine mj_inc3 dX0_givenTo_31 ni_1 rfl ?_
          refine mj_goto (tgt := 4) dX0_givenTo_34 rfl ?_
          exact mj_ls (ih (j + 1) (by omega) (by omega)) (by simp [lp_f, nI_1, bn_cntF, h_9, h_25])
  refine mj_iconst dX0_givenTo_0 ni_0 ?_
  refine mj_istn2 dX0_givenTo_1 rfl ?_
  refine mj_iconst dX0_givenTo_2 ni_0 ?_
  refine mj_istn3 dX0_givenTo_3 rfl ?_
  exact loop (n + 1) 0 (by omega) (by omega)
theorem lp_find_no {p : Nat → Bool} : ∀ (k j n : Nat), n = j + k → (∀ i, j ≤ i → i < n → p i = false) → lp_find p k j = none
  | 0, _, _, _, _ => rfl
  | k + 1, j, n, h, hp => by rw [lp_find, hp j (by omega) (by omega), lp_find_no k (j + 1) n (by omega) (fun i h1 h2 => hp i (by omega) h2)]; rfl
theorem lp_find_yes {p : Nat → Bool} {i : Nat} (hi : p i = true) : ∀ (k j : Nat), j ≤ i → i < j + k → (∀ l, j ≤ l → l < i → p l = false) → lp_find p k j = some i
  | 0, j, h1, h2, _ => by omega
  | k + 1, j, h1, h2, hp => by
    by_cases e : j = i
    · subst e; rw [lp_find, hi]; rfl
    · rw [lp_find, hp j (by omega) (by omega), lp_find_yes hi k (j + 1) (by omega) (by omega) (fun l a b => hp l (by omega) b)]; rfl
def bn_place (x : mj_X) (n : Nat) (d k : Int32) : Int32 := match lp_find (bn_placeP x d k) n 0 with
  | some j => nI j
  | none => -1
set_option maxHeartbeats 1000000 in
theorem c_place (R : List mj_S) (x : mj_X) (n : Nat) (hn : n ≤ 82) (hsz : x 24 7 = nI n) (d k0 : Int32) : mj_CP mX0_placeOf (shX ++ R) [.ref 24, .int d, .int k0] x (bn_place x n d k0) := by
  refine mj_startP (ls := [some (.ref 24), some (.int d), some (.int k0), none, none]) (by decide) rfl rfl (fun Q hQ => ?_)
  have loop : ∀ (k j : Nat), j ≤ n → n < j + k → (∀ i, i < j → bn_placeP x d k0 i = false) → mj_V mX0_placeOf (shX ++ R) Q x 5 [some (.ref 24), some (.int d), some (.int k0), some (.int (lp_f (bn_cntF x d) 0 j)), some (.int (nI j))] [] := by
    intro k
    induction k with
    | zero => intro j h1 h2; omega
    | succ k ih =>
      intro j h1 h2 hp
      refine mj_ild dX0_placeOf_5 rfl ?_
      refine mj_aldn dX0_placeOf_7 rfl ?_
      refine mj_geti fkX0_33 dX0_placeOf_8 rfl rfl ?_
      refine mj_ic_ge (tgt := 49) dX0_placeOf_11 rfl (fun h_11 => ?_) (fun h_11 => ?_)
      · have hj : j = n := by rw [hsz, nI_leI (by omega) (by omega)] at h_11; omega
        subst hj
        refine mj_iconst dX0_placeOf_49 ni_m1 ?_
        refine mj_ret rfl dX0_placeOf_50 ?_
        exact mj_q hQ (by unfold bn_place; rw [lp_find_no j 0 j (by omega) (fun i _ h => hp i h)])
      · have hlt : j < n := by rw [hsz, nI_leI (by omega) (by omega)] at h_11; omega
        refine mj_ild dX0_placeOf_14 rfl ?_
        refine mj_bipush dX0_placeOf_16 nb_82 ?_
        refine mj_ic_ge (tgt := 49) dX0_placeOf_18 rfl (fun h_18 => False.elim (by exact nl_lt (show j < 82 by omega) (by decide) h_18)) (fun h_18 => ?_)
        refine mj_aldn dX0_placeOf_21 rfl ?_
        refine mj_getr fkX0_11 dX0_placeOf_22 rfl rfl ?_
        refine mj_ild dX0_placeOf_25 rfl ?_
        refine mj_iald dX0_placeOf_27 rfl _ (by omega) rfl (by decide) ?_
        refine mj_ildn dX0_placeOf_28 rfl ?_
        refine mj_ic_ne (tgt := 43) dX0_placeOf_29 rfl (fun h_29 => ?_) (fun h_29 => ?_)
        · refine mj_inc4 dX0_placeOf_43 ni_1 rfl ?_
          refine mj_goto (tgt := 5) dX0_placeOf_46 rfl ?_
          exact mj_ls (ih (j + 1) (by omega) (by omega) (lt_s hp (by simp [bn_placeP, h_11, h_29]))) (by simp [lp_f, nI_1, bn_cntF, h_11, h_29])
        · refine mj_ildn dX0_placeOf_32 rfl ?_
          refine mj_ildn dX0_placeOf_33 rfl ?_
          refine mj_ic_ne (tgt := 40) dX0_placeOf_34 rfl (fun h_34 => ?_) (fun h_34 => ?_)
          · refine mj_inc3 dX0_placeOf_40 ni_1 rfl ?_
            refine mj_inc4 dX0_placeOf_43 ni_1 rfl ?_
            refine mj_goto (tgt := 5) dX0_placeOf_46 rfl ?_
            exact mj_ls (ih (j + 1) (by omega) (by omega) (lt_s hp (by simp [bn_placeP, h_11, h_29, h_34]))) (by simp [lp_f, nI_1, bn_cntF, h_11, h_29, h_34])
          · refine mj_ild dX0_placeOf_37 rfl ?_
            refine mj_ret rfl dX0_placeOf_39 ?_
            exact mj_q hQ (by unfold bn_place; rw [lp_find_yes (i := j) (by simp [bn_placeP, h_29, h_34]) n 0 (by omega) (by omega) (fun l _ h => hp l h)])
  refine mj_iconst dX0_placeOf_0 ni_0 ?_
  refine mj_istn3 dX0_placeOf_1 rfl ?_
  refine mj_iconst dX0_placeOf_2 ni_0 ?_
  refine mj_ist4 dX0_placeOf_3 rfl ?_
  exact loop (n + 1) 0 (by omega) (by omega) (fun i hi => by omega)
set_option maxHeartbeats 1000000 in
theorem c_btell (R : List mj_S) (x : mj_X) (j : Nat) (hj : j < 82) (what : Int32) : mj_CP mX0_tellOf (shX ++ R) [.ref 24, .int (nI j), .int what] x (bn_tell x j what) := by
  refine mj_startP (ls := [some (.ref 24), some (.int (nI j)), some (.int what)]) (by decide) rfl rfl (fun Q hQ => ?_)
  refine mj_ildn dX0_tellOf_0 rfl ?_
  refine mj_if_lt (tgt := 10) dX0_tellOf_1 rfl (fun h_1 => False.elim (by exact nI_pos (by omega) h_1)) (fun h_1 => ?_)
  refine mj_ildn dX0_tellOf_4 rfl ?_
  refine mj_bipush dX0_tellOf_5 nb_82 ?_
  refine mj_ic_lt (tgt := 13) dX0_tellOf_7 rfl (fun h_7 => ?_) (fun h_7 => False.elim (by exact h_7 (nI_lt hj (by decide))))
  refine mj_ildn dX0_tellOf_13 rfl ?_
  by_cases s14_0 : what = 0
  · subst s14_0
    refine mj_tableIn (off := 30) (tgt := 44) dX0_tellOf_14 (by decide) (by decide) (by decide) rfl ?_
    refine mj_aldn dX0_tellOf_44 rfl ?_
    refine mj_getr fkX0_15 dX0_tellOf_45 rfl rfl ?_
    refine mj_ildn dX0_tellOf_48 rfl ?_
    refine mj_iald dX0_tellOf_49 rfl _ (by omega) rfl (by decide) ?_
    refine mj_ret rfl dX0_tellOf_50 ?_
    exact mj_q hQ (by simp [bn_tell])
  by_cases s14_1 : what = 1
  · subst s14_1
    refine mj_tableIn (off := 37) (tgt := 51) dX0_tellOf_14 (by decide) (by decide) (by decide) rfl ?_
    refine mj_aldn dX0_tellOf_51 rfl ?_
    refine mj_getr fkX0_18 dX0_tellOf_52 rfl rfl ?_
    refine mj_ildn dX0_tellOf_55 rfl ?_
    refine mj_iald dX0_tellOf_56 rfl _ (by omega) rfl (by decide) ?_
    refine mj_aldn dX0_tellOf_57 rfl ?_
    refine mj_getr fkX0_15 dX0_tellOf_58 rfl rfl ?_
    refine mj_ildn dX0_tellOf_61 rfl ?_
    refine mj_iald dX0_tellOf_62 rfl _ (by omega) rfl (by decide) ?_
    refine mj_isub dX0_tellOf_63 ?_
    refine mj_iconst dX0_tellOf_64 ni_1 ?_
    refine mj_iadd dX0_tellOf_65 ?_
    refine mj_ret rfl dX0_tellOf_66 ?_
    exact mj_q hQ (by simp [bn_tell, s14_0])
  by_cases s14_2 : what = 2
  · subst s14_2
    refine mj_tableIn (off := 53) (tgt := 67) dX0_tellOf_14 (by decide) (by decide) (by decide) rfl ?_
    refine mj_aldn dX0_tellOf_67 rfl ?_
    refine mj_getr fkX0_21 dX0_tellOf_68 rfl rfl ?_
    refine mj_ildn dX0_tellOf_71 rfl ?_
    refine mj_iald dX0_tellOf_72 rfl _ (by omega) rfl (by decide) ?_
    refine mj_ret rfl dX0_tellOf_73 ?_
    exact mj_q hQ (by simp [bn_tell, s14_0, s14_1])
  by_cases s14_3 : what = 3
  · subst s14_3
    refine mj_tableIn (off := 60) (tgt := 74) dX0_tellOf_14 (by decide) (by decide) (by decide) rfl ?_
    refine mj_aldn dX0_tellOf_74 rfl ?_
    refine mj_getr fkX0_27 dX0_tellOf_75 rfl rfl ?_
    refine mj_ildn dX0_tellOf_78 rfl ?_
    refine mj_iald dX0_tellOf_79 rfl _ (by omega) rfl (by decide) ?_
    refine mj_ret rfl dX0_tellOf_80 ?_
    exact mj_q hQ (by simp [bn_tell, s14_0, s14_1, s14_2])
  refine mj_tableOut (tgt := 81) dX0_tellOf_14 (by have u0 := ti_ne s14_0; rw [tl_0] at u0; have u1 := ti_ne s14_1; rw [tl_1] at u1; have u2 := ti_ne s14_2; rw [tl_2] at u2; have u3 := ti_ne s14_3; rw [tl_3] at u3; omega) rfl ?_
  refine mj_aldn dX0_tellOf_81 rfl ?_
  refine mj_getr fkX0_30 dX0_tellOf_82 rfl rfl ?_
  refine mj_ildn dX0_tellOf_85 rfl ?_
  refine mj_iald dX0_tellOf_86 rfl _ (by omega) rfl (by decide) ?_
  refine mj_ret rfl dX0_tellOf_87 ?_
  exact mj_q hQ (by simp [bn_tell, s14_0, s14_1, s14_2, s14_3])
set_option maxHeartbeats 1000000 in
theorem c_badd (R : List mj_S) (x : mj_X) (n : Nat) (hn : n < 82) (hsz : x 24 7 = nI n) (d f many e t g : Int32) : mj_CV mX0_add (shX ++ R) [.ref 24, .int d, .int f, .int many, .int e, .int t, .int g] x (fun x1 => x1 = bn_add x n d f many e t g) := by
  refine mj_startV (ls := [some (.ref 24), some (.int d), some (.int f), some (.int many), some (.int e), some (.int t), some (.int g)]) (by decide) rfl rfl (fun Q hQ => ?_)
  refine mj_aldn dX0_add_0 rfl ?_
  refine mj_geti fkX0_33 dX0_add_1 rfl rfl ?_
  refine mj_if_lt (tgt := 16) dX0_add_4 rfl (fun h_4 => False.elim (by rw [hsz] at h_4; exact nI_pos (by omega) h_4)) (fun h_4 => ?_)
  refine mj_aldn dX0_add_7 rfl ?_
  refine mj_geti fkX0_33 dX0_add_8 rfl rfl ?_
  refine mj_bipush dX0_add_11 nb_82 ?_
  refine mj_ic_lt (tgt := 17) dX0_add_13 rfl (fun h_13 => ?_) (fun h_13 => False.elim (by rw [hsz] at h_13; exact h_13 (nI_lt hn (by decide))))
  refine mj_aldn dX0_add_17 rfl ?_
  refine mj_getr fkX0_11 dX0_add_18 rfl rfl ?_
  refine mj_aldn dX0_add_21 rfl ?_
  refine mj_geti fkX0_33 dX0_add_22 rfl rfl ?_
  refine mj_ildn dX0_add_25 rfl ?_
  refine mj_iast dX0_add_26 rfl n hn hsz (by decide) ?_
  refine mj_aldn dX0_add_27 rfl ?_
  refine mj_getr fkX0_15 dX0_add_28 rfl rfl ?_
  refine mj_aldn dX0_add_31 rfl ?_
  refine mj_geti fkX0_33 dX0_add_32 rfl rfl ?_
  refine mj_ildn dX0_add_35 rfl ?_
  refine mj_iast dX0_add_36 rfl n hn hsz (by decide) ?_
  refine mj_aldn dX0_add_37 rfl ?_
  refine mj_getr fkX0_18 dX0_add_38 rfl rfl ?_
  refine mj_aldn dX0_add_41 rfl ?_
  refine mj_geti fkX0_33 dX0_add_42 rfl rfl ?_
  refine mj_ildn dX0_add_45 rfl ?_
  refine mj_ildn dX0_add_46 rfl ?_
  refine mj_iadd dX0_add_47 ?_
  refine mj_iconst dX0_add_48 ni_1 ?_
  refine mj_isub dX0_add_49 ?_
  refine mj_iast dX0_add_50 rfl n hn hsz (by decide) ?_
  refine mj_aldn dX0_add_51 rfl ?_
  refine mj_getr fkX0_21 dX0_add_52 rfl rfl ?_
  refine mj_aldn dX0_add_55 rfl ?_
  refine mj_geti fkX0_33 dX0_add_56 rfl rfl ?_
  refine mj_ild dX0_add_59 rfl ?_
  refine mj_iast dX0_add_61 rfl n hn hsz (by decide) ?_
  refine mj_aldn dX0_add_62 rfl ?_
  refine mj_getr fkX0_24 dX0_add_63 rfl rfl ?_
  refine mj_aldn dX0_add_66 rfl ?_
  refine mj_geti fkX0_33 dX0_add_67 rfl rfl ?_
  refine mj_ild dX0_add_70 rfl ?_
  refine mj_iast dX0_add_72 rfl n hn hsz (by decide) ?_
  refine mj_aldn dX0_add_73 rfl ?_
  refine mj_getr fkX0_27 dX0_add_74 rfl rfl ?_
  refine mj_aldn dX0_add_77 rfl ?_
  refine mj_geti fkX0_33 dX0_add_78 rfl rfl ?_
  refine mj_ild dX0_add_81 rfl ?_
  refine mj_iast dX0_add_83 rfl n hn hsz (by decide) ?_
  refine mj_aldn dX0_add_84 rfl ?_
  refine mj_getr fkX0_30 dX0_add_85 rfl rfl ?_
  refine mj_aldn dX0_add_88 rfl ?_
  refine mj_geti fkX0_33 dX0_add_89 rfl rfl ?_
  refine mj_iconst dX0_add_92 ni_0 ?_
  refine mj_iast dX0_add_93 rfl n hn hsz (by decide) ?_
  refine mj_aldn dX0_add_94 rfl ?_
  refine mj_dupr dX0_add_95 ?_
  refine mj_geti fkX0_33 dX0_add_96 rfl rfl ?_
  refine mj_iconst dX0_add_99 ni_1 ?_
  refine mj_iadd dX0_add_100 ?_
  refine mj_puti fkX0_33 pkX0_7 dX0_add_101 rfl rfl ?_
  refine mj_retv rfl dX0_add_104 ?_
  exact hQ _ (by unfold bn_add; rw [← nI_1, ← hsz]; rfl)
set_option maxHeartbeats 1000000 in
theorem c_short (R : List mj_S) (x : mj_X) (j : Nat) (hj : j < 82) (t : Int32) : mj_CV mX0_shorten (shX ++ R) [.ref 24, .int (nI j), .int t] x (fun x1 => x1 = bn_short x j t) := by
  refine mj_startV (ls := [some (.ref 24), some (.int (nI j)), some (.int t), none]) (by decide) rfl rfl (fun Q hQ => ?_)
  refine mj_ildn dX0_shorten_0 rfl ?_
  refine mj_if_lt (tgt := 53) dX0_shorten_1 rfl (fun h_1 => False.elim (by exact nI_pos (by omega) h_1)) (fun h_1 => ?_)
  refine mj_ildn dX0_shorten_4 rfl ?_
  refine mj_bipush dX0_shorten_5 nb_82 ?_
  refine mj_ic_ge (tgt := 53) dX0_shorten_7 rfl (fun h_7 => False.elim (by exact nl_lt hj (by decide) h_7)) (fun h_7 => ?_)
  refine mj_aldn dX0_shorten_10 rfl ?_
  refine mj_getr fkX0_18 dX0_shorten_11 rfl rfl ?_
  refine mj_ildn dX0_shorten_14 rfl ?_
  refine mj_iald dX0_shorten_15 rfl _ (by omega) rfl (by decide) ?_
  refine mj_aldn dX0_shorten_16 rfl ?_
  refine mj_getr fkX0_15 dX0_shorten_17 rfl rfl ?_
  refine mj_ildn dX0_shorten_20 rfl ?_
  refine mj_iald dX0_shorten_21 rfl _ (by omega) rfl (by decide) ?_
  refine mj_isub dX0_shorten_22 ?_
  refine mj_iconst dX0_shorten_23 ni_1 ?_
  refine mj_iadd dX0_shorten_24 ?_
  refine mj_istn3 dX0_shorten_25 rfl ?_
  refine mj_aldn dX0_shorten_26 rfl ?_
  refine mj_getr fkX0_18 dX0_shorten_27 rfl rfl ?_
  refine mj_ildn dX0_shorten_30 rfl ?_
  refine mj_aldn dX0_shorten_31 rfl ?_
  refine mj_getr fkX0_18 dX0_shorten_32 rfl rfl ?_
  refine mj_ildn dX0_shorten_35 rfl ?_
  refine mj_iald dX0_shorten_36 rfl _ (by omega) rfl (by decide) ?_
  refine mj_ildn dX0_shorten_37 rfl ?_
  refine mj_iconst dX0_shorten_38 ni_4 ?_
  refine mj_idiv dX0_shorten_39 (by decide) ?_
  refine mj_isub dX0_shorten_40 ?_
  refine mj_ildn dX0_shorten_41 rfl ?_
  refine mj_mx lkX0_45 (Nat.le_of_ble_eq_true rfl) (Nat.le_of_ble_eq_true rfl) (Nat.le_of_ble_eq_true rfl) dX0_shorten_42 ?_
  refine mj_iast dX0_shorten_45 rfl _ (by omega) rfl (by decide) ?_
  refine mj_aldn dX0_shorten_46 rfl ?_
  refine mj_getr fkX0_30 dX0_shorten_47 rfl rfl ?_
  refine mj_ildn dX0_shorten_50 rfl ?_
  refine mj_iconst dX0_shorten_51 ni_1 ?_
  refine mj_iast dX0_shorten_52 rfl _ (by omega) rfl (by decide) ?_
  refine mj_retv rfl dX0_shorten_53 ?_
  exact hQ _ rfl
set_option maxHeartbeats 1000000 in
theorem c_free (R : List mj_S) (x : mj_X) (n : Nat) (hn : n ≤ 82) (hsz : x 24 7 = nI n) (d day : Int32) : mj_CP mX0_firstFree (shX ++ R) [.ref 24, .int d, .int day] x (bn_free x n d 83 day) := by
  refine mj_startP (ls := [some (.ref 24), some (.int d), some (.int day), none, none, none]) (by decide) rfl rfl (fun Q hQ => ?_)
  have loop : ∀ (k j : Nat) (a : Int32) (w : Option Value), j + k = 83 → bn_free x n d k a = bn_free x n d 83 day → mj_V mX0_firstFree (shX ++ R) Q x 5 [some (.ref 24), some (.int d), some (.int day), some (.int a), some (.int (nI j)), w] [] := by
    intro k
    induction k with
    | zero =>
      intro j a w h1 h2
      have hj : j = 83 := by omega
      subst hj
      refine mj_ild dX0_firstFree_5 rfl ?_
      refine mj_bipush dX0_firstFree_7 nb_82 ?_
      refine mj_ic_gt (tgt := 37) dX0_firstFree_9 rfl (fun h_9 => ?_) (fun h_9 => False.elim (by exact h_9 (by decide)))
      refine mj_ildn dX0_firstFree_37 rfl ?_
      refine mj_ret rfl dX0_firstFree_38 ?_
      exact mj_q hQ h2
    | succ k ih =>
      intro j a w h1 h2
      refine mj_ild dX0_firstFree_5 rfl ?_
      refine mj_bipush dX0_firstFree_7 nb_82 ?_
      refine mj_ic_gt (tgt := 37) dX0_firstFree_9 rfl (fun h_9 => False.elim (by exact absurd h_9 (nI_nlt (a := 82) (b := j) (by omega) (by omega)))) (fun h_9 => ?_)
      refine mj_aldn dX0_firstFree_12 rfl ?_
      refine mj_ildn dX0_firstFree_13 rfl ?_
      refine mj_ildn dX0_firstFree_14 rfl ?_
      refine mj_cvp (K := mX0_dayBehindBansOn) (c_beh R x n hn hsz d a) ckX0_dayBehindBansOn lkX0_41 ⟨Nat.le_of_ble_eq_true rfl, Nat.le_of_ble_eq_true rfl⟩ rfl dX0_firstFree_15 rfl rfl (Nat.le_of_ble_eq_true rfl) ?_
      refine mj_ist5 dX0_firstFree_18 rfl ?_
      refine mj_ild dX0_firstFree_20 rfl ?_
      refine mj_ildn dX0_firstFree_22 rfl ?_
      refine mj_ic_ne (tgt := 28) dX0_firstFree_23 rfl (fun h_23 => ?_) (fun h_23 => ?_)
      · refine mj_ild dX0_firstFree_28 rfl ?_
        refine mj_istn3 dX0_firstFree_30 rfl ?_
        refine mj_inc4 dX0_firstFree_31 ni_1 rfl ?_
        refine mj_goto (tgt := 5) dX0_firstFree_34 rfl ?_
        exact mj_ls (ih (j + 1) (bn_beh x n d a) _ (by omega) (by rw [← h2, bn_free, if_neg h_23])) (by rw [nI_1])
      · refine mj_ildn dX0_firstFree_26 rfl ?_
        refine mj_ret rfl dX0_firstFree_27 ?_
        exact mj_q hQ (by rw [← h2, bn_free, if_pos h_23])
  refine mj_ildn dX0_firstFree_0 rfl ?_
  refine mj_istn3 dX0_firstFree_1 rfl ?_
  refine mj_iconst dX0_firstFree_2 ni_0 ?_
  refine mj_ist4 dX0_firstFree_3 rfl ?_
  exact loop 83 0 day _ (by omega) rfl
set_option maxHeartbeats 1000000 in
theorem c_days (R : List mj_S) (x : mj_X) (n : Nat) (hn : n ≤ 82) (hsz : x 24 7 = nI n) (d fr to : Int32) : mj_CP mX0_daysBetween (shX ++ R) [.ref 24, .int d, .int fr, .int to] x (bn_days x n d to 84 0 fr) := by
  refine mj_startP (ls := [some (.ref 24), some (.int d), some (.int fr), some (.int to), none, none, none, none]) (by decide) rfl rfl (fun Q hQ => ?_)
  have loop : ∀ (k j : Nat) (tot a : Int32) (w : Option Value), j + k = 84 → bn_days x n d to k tot a = bn_days x n d to 84 0 fr → mj_V mX0_daysBetween (shX ++ R) Q x 9 [some (.ref 24), some (.int d), some (.int fr), some (.int to), some (.int tot), some (.int a), some (.int (nI j)), w] [] := by
    intro k
    induction k with
    | zero =>
      intro j tot a w h1 h2
      have hj : j = 84 := by omega
      subst hj
      refine mj_ild dX0_daysBetween_9 rfl ?_
      refine mj_bipush dX0_daysBetween_11 nb_83 ?_
      refine mj_ic_gt (tgt := 65) dX0_daysBetween_13 rfl (fun h_13 => ?_) (fun h_13 => False.elim (by exact h_13 (by decide)))
      refine mj_ild dX0_daysBetween_65 rfl ?_
      refine mj_ret rfl dX0_daysBetween_67 ?_
      exact mj_q hQ h2
    | succ k ih =>
      intro j tot a w h1 h2
      refine mj_ild dX0_daysBetween_9 rfl ?_
      refine mj_bipush dX0_daysBetween_11 nb_83 ?_
      refine mj_ic_gt (tgt := 65) dX0_daysBetween_13 rfl (fun h_13 => False.elim (by exact absurd h_13 (nI_nlt (a := 83) (b := j) (by omega) (by omega)))) (fun h_13 => ?_)
      refine mj_ild dX0_daysBetween_16 rfl ?_
      refine mj_ildn dX0_daysBetween_18 rfl ?_
      refine mj_ic_gt (tgt := 65) dX0_daysBetween_19 rfl (fun h_19 => ?_) (fun h_19 => ?_)
      · refine mj_ild dX0_daysBetween_65 rfl ?_
        refine mj_ret rfl dX0_daysBetween_67 ?_
        exact mj_q hQ (by rw [← h2, bn_days, if_pos h_19])
      · refine mj_aldn dX0_daysBetween_22 rfl ?_
        refine mj_ildn dX0_daysBetween_23 rfl ?_
        refine mj_ild dX0_daysBetween_24 rfl ?_
        refine mj_cvp (K := mX0_firstFree) (c_free R x n hn hsz d a) ckX0_firstFree lkX0_50 ⟨Nat.le_of_ble_eq_true rfl, Nat.le_of_ble_eq_true rfl⟩ rfl dX0_daysBetween_26 rfl rfl (Nat.le_of_ble_eq_true rfl) ?_
        refine mj_ist7 dX0_daysBetween_29 rfl ?_
        refine mj_ild dX0_daysBetween_31 rfl ?_
        refine mj_ild dX0_daysBetween_33 rfl ?_
        refine mj_ildn dX0_daysBetween_35 rfl ?_
        refine mj_iconst dX0_daysBetween_36 ni_1 ?_
        refine mj_iadd dX0_daysBetween_37 ?_
        refine mj_mn lkX0_53 (Nat.le_of_ble_eq_true rfl) (Nat.le_of_ble_eq_true rfl) (Nat.le_of_ble_eq_true rfl) dX0_daysBetween_38 ?_
        refine mj_ild dX0_daysBetween_41 rfl ?_
        refine mj_isub dX0_daysBetween_43 ?_
        refine mj_iadd dX0_daysBetween_44 ?_
        refine mj_ist4 dX0_daysBetween_45 rfl ?_
        refine mj_aldn dX0_daysBetween_47 rfl ?_
        refine mj_ildn dX0_daysBetween_48 rfl ?_
        refine mj_ild dX0_daysBetween_49 rfl ?_
        refine mj_ildn dX0_daysBetween_51 rfl ?_
        refine mj_iconst dX0_daysBetween_52 ni_1 ?_
        refine mj_iadd dX0_daysBetween_53 ?_
        refine mj_cvp (K := mX0_nextFirstDay) (c_next R x n hn hsz d (bn_free x n d 83 a) (to + 1)) ckX0_nextFirstDay lkX0_56 ⟨Nat.le_of_ble_eq_true rfl, Nat.le_of_ble_eq_true rfl⟩ rfl dX0_daysBetween_54 rfl rfl (Nat.le_of_ble_eq_true rfl) ?_
        refine mj_ist5 dX0_daysBetween_57 rfl ?_
        refine mj_inc6 dX0_daysBetween_59 ni_1 rfl ?_
        refine mj_goto (tgt := 9) dX0_daysBetween_62 rfl ?_
        exact mj_ls (ih (j + 1) _ _ _ (by omega) (by rw [← h2, bn_days, if_neg h_19])) (by rw [nI_1])
  refine mj_iconst dX0_daysBetween_0 ni_0 ?_
  refine mj_ist4 dX0_daysBetween_1 rfl ?_
  refine mj_ildn dX0_daysBetween_3 rfl ?_
  refine mj_ist5 dX0_daysBetween_4 rfl ?_
  refine mj_iconst dX0_daysBetween_6 ni_0 ?_
  refine mj_ist6 dX0_daysBetween_7 rfl ?_
  exact loop 84 0 0 fr _ (by omega) rfl
