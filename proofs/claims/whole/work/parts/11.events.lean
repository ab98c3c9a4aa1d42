/-! EVENTS: cell 11 (size at 12), rows 12 driver, 13 day, 14 kind, 15 offence, 16 code, 17 points, 18 special, 19 struck, 20 twice, 21 spent, 22 idle, 23 weight -/
def ev_is (n : Nat) (a : Int32) : Bool := decide (0 ≤ a ∧ a < nI n)
def ev_isC (x : mj_X) (n : Nat) (a : Int32) : Bool := decide (0 ≤ a ∧ a < nI n ∧ x 14 a.toNatClampNeg = 0)
def ev_light (x : mj_X) (d lim : Int32) (j : Nat) : Bool := decide (x 12 j = d ∧ x 14 j = 1 ∧ lim < x 13 j)
def ev_addC (x : mj_X) (n : Nat) (d t o k p r : Int32) : mj_X := mj_up (mj_up (mj_up (mj_up (mj_up (mj_up (mj_up (mj_up (mj_up x 12 n d) 13 n t) 14 n 0) 15 n o) 16 n k) 17 n p) 18 n r) 19 n 0) 11 12 (nI (n + 1))
def ev_addK (x : mj_X) (n : Nat) (d t w : Int32) : mj_X := mj_up (mj_up (mj_up (mj_up (mj_up x 12 n d) 13 n t) 14 n w) 15 n t) 11 12 (nI (n + 1))
def ev_tc (ch : Int32) : Nat := if ch = 1 then 19 else if ch = 2 then 17 else if ch = 3 then 15 else 18
def ev_tellC (x : mj_X) (j : Nat) (w : Int32) : Int32 := if w = 3 then x 15 j else if w = 4 then x 16 j else if w = 5 then x 17 j else if w = 6 then x 18 j else if w = 7 then x 19 j else if w = 8 then x 20 j else -4
def ev_tell (x : mj_X) (j : Nat) (w : Int32) : Int32 := if w = 0 then x 12 j else if w = 1 then x 13 j else if w = 2 then x 14 j else if w = 9 then x 21 j else if w = 10 then (if x 14 j = 2 then x 22 j else -4) else if x 14 j = 0 then ev_tellC x j w else -4
def ev_clear (x : mj_X) (j : Nat) : mj_X := mj_up (mj_up (mj_up (mj_up x 20 j 0) 21 j 0) 22 j 0) 23 j (if x 14 j = 1 then -3 else 0)
def ev_spend (x : mj_X) (d : Int32) (u : Nat) : mj_X := fun c => if c = 21 then (fun e => if e < u ∧ x 12 e = d then 1 else x 21 e) else if c = 23 then (fun e => if e < u ∧ x 12 e = d then 0 else x 23 e) else x c
def ev_wF (x : mj_X) (d s w : Int32) (j : Nat) (a : Int32) : Int32 := if x 12 j = d ∧ 0 ≤ x 15 j - s ∧ x 15 j - s < w then a + x 23 j else a
theorem ev_spend_0 (x : mj_X) (d : Int32) : ev_spend x d 0 = x := by
  funext c
  by_cases h1 : c = 21
  · subst h1; simp [ev_spend]
  · by_cases h2 : c = 23
    · subst h2; simp [ev_spend]
    · simp [ev_spend, h1, h2]
theorem ev_spend_yes {x : mj_X} {d : Int32} {j : Nat} (h : x 12 j = d) : mj_up (mj_up (ev_spend x d j) 21 j 1) 23 j 0 = ev_spend x d (j + 1) := by
  funext c e
  simp only [up_at, ev_spend]
  by_cases h1 : c = 21
  · subst h1
    by_cases he : e = j
    · subst he; simp [h]
    · simp [he, show (e < j + 1) = (e < j) by simp; omega]
  · by_cases h2 : c = 23
    · subst h2
      by_cases he : e = j
      · subst he; simp [h]
      · simp [he, show (e < j + 1) = (e < j) by simp; omega]
    · simp [h1, h2]
theorem ev_spend_no {x : mj_X} {d : Int32} {j : Nat} (h : ¬ x 12 j = d) : ev_spend x d j = ev_spend x d (j + 1) := by
  funext c
  simp only [ev_spend]
  have key : ∀ e, (e < j ∧ x 12 e = d) = (e < j + 1 ∧ x 12 e = d) := fun e => by
    by_cases he : e = j
    · subst he; simp [h]
    · simp; omega
  simp only [key]
set_option maxHeartbeats 1000000 in
theorem c_isThere (R : List mj_S) (x : mj_X) (n : Nat) (hn : n ≤ 41) (hsz : x 11 12 = nI n) (a : Int32) : mj_CP mX2_isThere (shX ++ R) [.ref 11, .int a] x (bi (ev_is n a)) := by
  refine mj_startP (ls := [some (.ref 11), some (.int a)]) (by decide) rfl rfl (fun Q hQ => ?_)
  refine mj_ildn dX2_isThere_0 rfl ?_
  refine mj_if_lt (tgt := 22) dX2_isThere_1 rfl (fun h_1 => ?_) (fun h_1 => ?_)
  · refine mj_iconst dX2_isThere_22 ni_0 ?_
    refine mj_retz rfl (by decide) dX2_isThere_23 ?_
    exact mj_q hQ (by unfold ev_is bi; simp; grind)
  · refine mj_ildn dX2_isThere_4 rfl ?_
    refine mj_aldn dX2_isThere_5 rfl ?_
    refine mj_geti fkX2_48 dX2_isThere_6 rfl rfl ?_
    refine mj_ic_ge (tgt := 22) dX2_isThere_9 rfl (fun h_9 => ?_) (fun h_9 => ?_)
    · rw [hsz] at h_9
      refine mj_iconst dX2_isThere_22 ni_0 ?_
      refine mj_retz rfl (by decide) dX2_isThere_23 ?_
      exact mj_q hQ (by unfold ev_is bi; simp; grind)
    · rw [hsz] at h_9
      obtain ⟨j, hj, rfl⟩ := ix_of (n := n) (a := a) (by omega) (by grind) (by grind)
      refine mj_ildn dX2_isThere_12 rfl ?_
      refine mj_bipush dX2_isThere_13 nb_41 ?_
      refine mj_ic_ge (tgt := 22) dX2_isThere_15 rfl (fun h_15 => False.elim (by exact nl_lt (show j < 41 by omega) (by decide) h_15)) (fun h_15 => ?_)
      refine mj_iconst dX2_isThere_18 ni_1 ?_
      refine mj_goto (tgt := 23) dX2_isThere_19 rfl ?_
      refine mj_retz rfl (by decide) dX2_isThere_23 ?_
      exact mj_q hQ (by unfold ev_is bi; simp; grind)
set_option maxHeartbeats 1000000 in
theorem c_isC (R : List mj_S) (x : mj_X) (n : Nat) (hn : n ≤ 41) (hsz : x 11 12 = nI n) (a : Int32) : mj_CP mX2_isConviction (shX ++ R) [.ref 11, .int a] x (bi (ev_isC x n a)) := by
  refine mj_startP (ls := [some (.ref 11), some (.int a)]) (by decide) rfl rfl (fun Q hQ => ?_)
  refine mj_aldn dX2_isConviction_0 rfl ?_
  refine mj_ildn dX2_isConviction_1 rfl ?_
  refine mj_cvp (K := mX2_isThere) (c_isThere R x n hn hsz a) ckX2_isThere lkX2_52 ⟨Nat.le_of_ble_eq_true rfl, Nat.le_of_ble_eq_true rfl⟩ rfl dX2_isConviction_2 rfl rfl (Nat.le_of_ble_eq_true rfl) ?_
  refine mj_if_eq (tgt := 21) dX2_isConviction_5 rfl (fun h_5 => ?_) (fun h_5 => ?_)
  · rw [bi_z] at h_5; simp only [ev_is, decide_eq_false_iff_not] at h_5
    refine mj_iconst dX2_isConviction_21 ni_0 ?_
    refine mj_retz rfl (by decide) dX2_isConviction_22 ?_
    exact mj_q hQ (by unfold ev_isC bi; simp; grind)
  · rw [bi_nz] at h_5; simp only [ev_is, decide_eq_true_eq] at h_5
    obtain ⟨j, hj, rfl⟩ := ix_of (n := n) (a := a) (by omega) h_5.1 h_5.2
    have ec := nI_clamp (n := j) (by omega)
    refine mj_aldn dX2_isConviction_8 rfl ?_
    refine mj_getr fkX2_18 dX2_isConviction_9 rfl rfl ?_
    refine mj_ildn dX2_isConviction_12 rfl ?_
    refine mj_iald dX2_isConviction_13 rfl j (by omega) rfl (by decide) ?_
    refine mj_if_ne (tgt := 21) dX2_isConviction_14 rfl (fun h_14 => ?_) (fun h_14 => ?_)
    · refine mj_iconst dX2_isConviction_21 ni_0 ?_
      refine mj_retz rfl (by decide) dX2_isConviction_22 ?_
      exact mj_q hQ (by unfold ev_isC bi; simp; grind)
    · refine mj_iconst dX2_isConviction_17 ni_1 ?_
      refine mj_goto (tgt := 22) dX2_isConviction_18 rfl ?_
      refine mj_retz rfl (by decide) dX2_isConviction_22 ?_
      exact mj_q hQ (by unfold ev_isC bi; simp; grind)
set_option maxHeartbeats 1000000 in
theorem c_addC (R : List mj_S) (x : mj_X) (n : Nat) (hn : n < 41) (hsz : x 11 12 = nI n) (d t o k p r : Int32) : mj_CV mX2_addConviction (shX ++ R) [.ref 11, .int d, .int t, .int o, .int k, .int p, .int r] x (fun y => y = ev_addC x n d t o k p r) := by
  refine mj_startV (ls := [some (.ref 11), some (.int d), some (.int t), some (.int o), some (.int k), some (.int p), some (.int r)]) (by decide) rfl rfl (fun Q hQ => ?_)
  refine mj_aldn dX2_addConviction_0 rfl ?_
  refine mj_geti fkX2_48 dX2_addConviction_1 rfl rfl ?_
  refine mj_if_lt (tgt := 16) dX2_addConviction_4 rfl (fun h_4 => False.elim (by rw [hsz] at h_4; exact nI_pos (by omega) h_4)) (fun h_4 => ?_)
  refine mj_aldn dX2_addConviction_7 rfl ?_
  refine mj_geti fkX2_48 dX2_addConviction_8 rfl rfl ?_
  refine mj_bipush dX2_addConviction_11 nb_41 ?_
  refine mj_ic_lt (tgt := 17) dX2_addConviction_13 rfl (fun h_13 => ?_) (fun h_13 => False.elim (by rw [hsz] at h_13; exact h_13 (nI_lt hn (by decide))))
  refine mj_aldn dX2_addConviction_17 rfl ?_
  refine mj_getr fkX2_11 dX2_addConviction_18 rfl rfl ?_
  refine mj_aldn dX2_addConviction_21 rfl ?_
  refine mj_geti fkX2_48 dX2_addConviction_22 rfl rfl ?_
  refine mj_ildn dX2_addConviction_25 rfl ?_
  refine mj_iast dX2_addConviction_26 rfl n hn hsz (by decide) ?_
  refine mj_aldn dX2_addConviction_27 rfl ?_
  refine mj_getr fkX2_15 dX2_addConviction_28 rfl rfl ?_
  refine mj_aldn dX2_addConviction_31 rfl ?_
  refine mj_geti fkX2_48 dX2_addConviction_32 rfl rfl ?_
  refine mj_ildn dX2_addConviction_35 rfl ?_
  refine mj_iast dX2_addConviction_36 rfl n hn hsz (by decide) ?_
  refine mj_aldn dX2_addConviction_37 rfl ?_
  refine mj_getr fkX2_18 dX2_addConviction_38 rfl rfl ?_
  refine mj_aldn dX2_addConviction_41 rfl ?_
  refine mj_geti fkX2_48 dX2_addConviction_42 rfl rfl ?_
  refine mj_iconst dX2_addConviction_45 ni_0 ?_
  refine mj_iast dX2_addConviction_46 rfl n hn hsz (by decide) ?_
  refine mj_aldn dX2_addConviction_47 rfl ?_
  refine mj_getr fkX2_21 dX2_addConviction_48 rfl rfl ?_
  refine mj_aldn dX2_addConviction_51 rfl ?_
  refine mj_geti fkX2_48 dX2_addConviction_52 rfl rfl ?_
  refine mj_ildn dX2_addConviction_55 rfl ?_
  refine mj_iast dX2_addConviction_56 rfl n hn hsz (by decide) ?_
  refine mj_aldn dX2_addConviction_57 rfl ?_
  refine mj_getr fkX2_24 dX2_addConviction_58 rfl rfl ?_
  refine mj_aldn dX2_addConviction_61 rfl ?_
  refine mj_geti fkX2_48 dX2_addConviction_62 rfl rfl ?_
  refine mj_ild dX2_addConviction_65 rfl ?_
  refine mj_iast dX2_addConviction_67 rfl n hn hsz (by decide) ?_
  refine mj_aldn dX2_addConviction_68 rfl ?_
  refine mj_getr fkX2_27 dX2_addConviction_69 rfl rfl ?_
  refine mj_aldn dX2_addConviction_72 rfl ?_
  refine mj_geti fkX2_48 dX2_addConviction_73 rfl rfl ?_
  refine mj_ild dX2_addConviction_76 rfl ?_
  refine mj_iast dX2_addConviction_78 rfl n hn hsz (by decide) ?_
  refine mj_aldn dX2_addConviction_79 rfl ?_
  refine mj_getr fkX2_30 dX2_addConviction_80 rfl rfl ?_
  refine mj_aldn dX2_addConviction_83 rfl ?_
  refine mj_geti fkX2_48 dX2_addConviction_84 rfl rfl ?_
  refine mj_ild dX2_addConviction_87 rfl ?_
  refine mj_iast dX2_addConviction_89 rfl n hn hsz (by decide) ?_
  refine mj_aldn dX2_addConviction_90 rfl ?_
  refine mj_getr fkX2_33 dX2_addConviction_91 rfl rfl ?_
  refine mj_aldn dX2_addConviction_94 rfl ?_
  refine mj_geti fkX2_48 dX2_addConviction_95 rfl rfl ?_
  refine mj_iconst dX2_addConviction_98 ni_0 ?_
  refine mj_iast dX2_addConviction_99 rfl n hn hsz (by decide) ?_
  refine mj_aldn dX2_addConviction_100 rfl ?_
  refine mj_dupr dX2_addConviction_101 ?_
  refine mj_geti fkX2_48 dX2_addConviction_102 rfl rfl ?_
  refine mj_iconst dX2_addConviction_105 ni_1 ?_
  refine mj_iadd dX2_addConviction_106 ?_
  refine mj_puti fkX2_48 pkX2_12 dX2_addConviction_107 rfl rfl ?_
  refine mj_retv rfl dX2_addConviction_110 ?_
  exact hQ _ (by unfold ev_addC; rw [← nI_1, ← hsz]; rfl)
set_option maxHeartbeats 1000000 in
theorem c_addK (R : List mj_S) (x : mj_X) (n : Nat) (hn : n < 41) (hsz : x 11 12 = nI n) (d t w : Int32) : mj_CV mX2_addCourse (shX ++ R) [.ref 11, .int d, .int t, .int w] x (fun y => y = ev_addK x n d t w) := by
  refine mj_startV (ls := [some (.ref 11), some (.int d), some (.int t), some (.int w)]) (by decide) rfl rfl (fun Q hQ => ?_)
  refine mj_aldn dX2_addCourse_0 rfl ?_
  refine mj_geti fkX2_48 dX2_addCourse_1 rfl rfl ?_
  refine mj_if_lt (tgt := 16) dX2_addCourse_4 rfl (fun h_4 => False.elim (by rw [hsz] at h_4; exact nI_pos (by omega) h_4)) (fun h_4 => ?_)
  refine mj_aldn dX2_addCourse_7 rfl ?_
  refine mj_geti fkX2_48 dX2_addCourse_8 rfl rfl ?_
  refine mj_bipush dX2_addCourse_11 nb_41 ?_
  refine mj_ic_lt (tgt := 17) dX2_addCourse_13 rfl (fun h_13 => ?_) (fun h_13 => False.elim (by rw [hsz] at h_13; exact h_13 (nI_lt hn (by decide))))
  refine mj_aldn dX2_addCourse_17 rfl ?_
  refine mj_getr fkX2_11 dX2_addCourse_18 rfl rfl ?_
  refine mj_aldn dX2_addCourse_21 rfl ?_
  refine mj_geti fkX2_48 dX2_addCourse_22 rfl rfl ?_
  refine mj_ildn dX2_addCourse_25 rfl ?_
  refine mj_iast dX2_addCourse_26 rfl n hn hsz (by decide) ?_
  refine mj_aldn dX2_addCourse_27 rfl ?_
  refine mj_getr fkX2_15 dX2_addCourse_28 rfl rfl ?_
  refine mj_aldn dX2_addCourse_31 rfl ?_
  refine mj_geti fkX2_48 dX2_addCourse_32 rfl rfl ?_
  refine mj_ildn dX2_addCourse_35 rfl ?_
  refine mj_iast dX2_addCourse_36 rfl n hn hsz (by decide) ?_
  refine mj_aldn dX2_addCourse_37 rfl ?_
  refine mj_getr fkX2_18 dX2_addCourse_38 rfl rfl ?_
  refine mj_aldn dX2_addCourse_41 rfl ?_
  refine mj_geti fkX2_48 dX2_addCourse_42 rfl rfl ?_
  refine mj_ildn dX2_addCourse_45 rfl ?_
  refine mj_iast dX2_addCourse_46 rfl n hn hsz (by decide) ?_
  refine mj_aldn dX2_addCourse_47 rfl ?_
  refine mj_getr fkX2_21 dX2_addCourse_48 rfl rfl ?_
  refine mj_aldn dX2_addCourse_51 rfl ?_
  refine mj_geti fkX2_48 dX2_addCourse_52 rfl rfl ?_
  refine mj_ildn dX2_addCourse_55 rfl ?_
  refine mj_iast dX2_addCourse_56 rfl n hn hsz (by decide) ?_
  refine mj_aldn dX2_addCourse_57 rfl ?_
  refine mj_dupr dX2_addCourse_58 ?_
  refine mj_geti fkX2_48 dX2_addCourse_59 rfl rfl ?_
  refine mj_iconst dX2_addCourse_62 ni_1 ?_
  refine mj_iadd dX2_addCourse_63 ?_
  refine mj_puti fkX2_48 pkX2_12 dX2_addCourse_64 rfl rfl ?_
  refine mj_retv rfl dX2_addCourse_67 ?_
  exact hQ _ (by unfold ev_addK; rw [← nI_1, ← hsz]; rfl)
set_option maxHeartbeats 1000000 in
theorem c_evdrop (R : List mj_S) (x : mj_X) (n : Nat) (hn : n < 41) (hsz : x 11 12 = nI (n + 1)) : mj_CV mX2_dropLast (shX ++ R) [.ref 11] x (fun y => y = mj_up x 11 12 (nI n)) := by
  have es : x 11 12 - 1 = nI n := by rw [hsz]; exact nI_pred n
  refine mj_startV (ls := [some (.ref 11)]) (by decide) rfl rfl (fun Q hQ => ?_)
  refine mj_aldn dX2_dropLast_0 rfl ?_
  refine mj_geti fkX2_48 dX2_dropLast_1 rfl rfl ?_
  refine mj_if_le (tgt := 17) dX2_dropLast_4 rfl (fun h_4 => False.elim (by rw [hsz] at h_4; exact nI_nle (by omega) (by omega) h_4)) (fun h_4 => ?_)
  refine mj_aldn dX2_dropLast_7 rfl ?_
  refine mj_dupr dX2_dropLast_8 ?_
  refine mj_geti fkX2_48 dX2_dropLast_9 rfl rfl ?_
  refine mj_iconst dX2_dropLast_12 ni_1 ?_
  refine mj_isub dX2_dropLast_13 ?_
  refine mj_puti fkX2_48 pkX2_12 dX2_dropLast_14 rfl rfl ?_
  refine mj_retv rfl dX2_dropLast_17 ?_
  exact hQ _ (by rw [← es])
set_option maxHeartbeats 1000000 in
theorem c_light (R : List mj_S) (x : mj_X) (n : Nat) (hn : n ≤ 41) (hsz : x 11 12 = nI n) (d lim : Int32) : mj_CP mX2_hasLightAfter (shX ++ R) [.ref 11, .int d, .int lim] x (bi (lp_any (ev_light x d lim) n)) := by
  refine mj_startP (ls := [some (.ref 11), some (.int d), some (.int lim), none]) (by decide) rfl rfl (fun Q hQ => ?_)
  have loop : ∀ (k j : Nat), j ≤ n → n < j + k → lp_any (ev_light x d lim) j = false → mj_V mX2_hasLightAfter (shX ++ R) Q x 2 [some (.ref 11), some (.int d), some (.int lim), some (.int (nI j))] [] := by
    intro k
    induction k with
    | zero => intro j h1 h2; omega
    | succ k ih =>
      intro j h1 h2 hp
      refine mj_ildn dX2_hasLightAfter_2 rfl ?_
      refine mj_aldn dX2_hasLightAfter_3 rfl ?_
      refine mj_geti fkX2_48 dX2_hasLightAfter_4 rfl rfl ?_
      refine mj_ic_ge (tgt := 54) dX2_hasLightAfter_7 rfl (fun h_7 => ?_) (fun h_7 => ?_)
      · have hj : j = n := by rw [hsz, nI_leI (by omega) (by omega)] at h_7; omega
        subst hj
        refine mj_iconst dX2_hasLightAfter_54 ni_0 ?_
        refine mj_retz rfl (by decide) dX2_hasLightAfter_55 ?_
        exact mj_q hQ (by rw [hp]; rfl)
      · have hlt : j < n := by rw [hsz, nI_leI (by omega) (by omega)] at h_7; omega
        refine mj_ildn dX2_hasLightAfter_10 rfl ?_
        refine mj_bipush dX2_hasLightAfter_11 nb_41 ?_
        refine mj_ic_ge (tgt := 54) dX2_hasLightAfter_13 rfl (fun h_13 => False.elim (by exact nl_lt (show j < 41 by omega) (by decide) h_13)) (fun h_13 => ?_)
        refine mj_aldn dX2_hasLightAfter_16 rfl ?_
        refine mj_getr fkX2_11 dX2_hasLightAfter_17 rfl rfl ?_
        refine mj_ildn dX2_hasLightAfter_20 rfl ?_
        refine mj_iald dX2_hasLightAfter_21 rfl _ (by omega) rfl (by decide) ?_
        refine mj_ildn dX2_hasLightAfter_22 rfl ?_
        refine mj_ic_ne (tgt := 48) dX2_hasLightAfter_23 rfl (fun h_23 => ?_) (fun h_23 => ?_)
        · refine mj_inc3 dX2_hasLightAfter_48 ni_1 rfl ?_
          refine mj_goto (tgt := 2) dX2_hasLightAfter_51 rfl ?_
          exact mj_ls (ih (j + 1) (by omega) (by omega) (by simp [lp_any, hp, ev_light] <;> grind)) (by simp [nI_1])
        · refine mj_aldn dX2_hasLightAfter_26 rfl ?_
          refine mj_getr fkX2_18 dX2_hasLightAfter_27 rfl rfl ?_
          refine mj_ildn dX2_hasLightAfter_30 rfl ?_
          refine mj_iald dX2_hasLightAfter_31 rfl _ (by omega) rfl (by decide) ?_
          refine mj_iconst dX2_hasLightAfter_32 ni_1 ?_
          refine mj_ic_ne (tgt := 48) dX2_hasLightAfter_33 rfl (fun h_33 => ?_) (fun h_33 => ?_)
          · refine mj_inc3 dX2_hasLightAfter_48 ni_1 rfl ?_
            refine mj_goto (tgt := 2) dX2_hasLightAfter_51 rfl ?_
            exact mj_ls (ih (j + 1) (by omega) (by omega) (by simp [lp_any, hp, ev_light] <;> grind)) (by simp [nI_1])
          · refine mj_aldn dX2_hasLightAfter_36 rfl ?_
            refine mj_getr fkX2_15 dX2_hasLightAfter_37 rfl rfl ?_
            refine mj_ildn dX2_hasLightAfter_40 rfl ?_
            refine mj_iald dX2_hasLightAfter_41 rfl _ (by omega) rfl (by decide) ?_
            refine mj_ildn dX2_hasLightAfter_42 rfl ?_
            refine mj_ic_le (tgt := 48) dX2_hasLightAfter_43 rfl (fun h_43 => ?_) (fun h_43 => ?_)
            · refine mj_inc3 dX2_hasLightAfter_48 ni_1 rfl ?_
              refine mj_goto (tgt := 2) dX2_hasLightAfter_51 rfl ?_
              exact mj_ls (ih (j + 1) (by omega) (by omega) (by simp [lp_any, hp, ev_light] <;> grind)) (by simp [nI_1])
            · refine mj_iconst dX2_hasLightAfter_46 ni_1 ?_
              refine mj_retz rfl (by decide) dX2_hasLightAfter_47 ?_
              exact mj_q hQ (by rw [lp_any_true (j := j) (by simp [ev_light, h_23, h_33]; grind) hlt]; rfl)
  refine mj_iconst dX2_hasLightAfter_0 ni_0 ?_
  refine mj_istn3 dX2_hasLightAfter_1 rfl ?_
  exact loop (n + 1) 0 (by omega) (by omega) rfl
set_option maxHeartbeats 1000000 in
theorem c_swap (sh : List mj_S) (r : Nat) (hr : sh[r]? = some (.inr 41)) (x : mj_X) (j : Nat) (hj : j < 41) (v : Int32) : mj_CI mX2_swap sh [.ref 11, .ref r, .int (nI j), .int v] x (fun z y => z = x r j ∧ y = mj_up x r j v) := by
  refine mj_startI (ls := [some (.ref 11), some (.ref r), some (.int (nI j)), some (.int v), none]) (by decide) rfl rfl (fun Q hQ => ?_)
  refine mj_ildn dX2_swap_0 rfl ?_
  refine mj_if_lt (tgt := 10) dX2_swap_1 rfl (fun h_1 => False.elim (by exact nI_pos (by omega) h_1)) (fun h_1 => ?_)
  refine mj_ildn dX2_swap_4 rfl ?_
  refine mj_aldn dX2_swap_5 rfl ?_
  refine mj_alen dX2_swap_6 hr ?_
  refine mj_ic_lt (tgt := 12) dX2_swap_7 rfl (fun h_7 => ?_) (fun h_7 => False.elim (by exact h_7 (nI_lt hj (by decide))))
  refine mj_aldn dX2_swap_12 rfl ?_
  refine mj_ildn dX2_swap_13 rfl ?_
  refine mj_iald dX2_swap_14 hr j hj rfl (by decide) ?_
  refine mj_ist4 dX2_swap_15 rfl ?_
  refine mj_aldn dX2_swap_17 rfl ?_
  refine mj_ildn dX2_swap_18 rfl ?_
  refine mj_ildn dX2_swap_19 rfl ?_
  refine mj_iast dX2_swap_20 hr j hj rfl (by decide) ?_
  refine mj_ild dX2_swap_21 rfl ?_
  refine mj_ret rfl dX2_swap_23 ?_
  exact hQ _ _ ⟨rfl, rfl⟩
set_option maxHeartbeats 1000000 in
theorem c_evtell (R : List mj_S) (x : mj_X) (n : Nat) (hn : n ≤ 41) (hsz : x 11 12 = nI n) (j : Nat) (hj : j < n) (ch v : Int32) (hch : ch = 1 ∨ ch = 2 ∨ ch = 3 ∨ ch = 4) : mj_CI mX2_tell (shX ++ R) [.ref 11, .int ch, .int (nI j), .int v] x (fun z y => z = x (ev_tc ch) j ∧ y = mj_up x (ev_tc ch) j v) := by
  refine mj_startI (ls := [some (.ref 11), some (.int ch), some (.int (nI j)), some (.int v)]) (by decide) rfl rfl (fun Q hQ => ?_)
  refine mj_aldn dX2_tell_0 rfl ?_
  refine mj_ildn dX2_tell_1 rfl ?_
  refine mj_cvp (K := mX2_isThere) (c_isThere R x n hn hsz (nI j)) ckX2_isThere lkX2_52 ⟨Nat.le_of_ble_eq_true rfl, Nat.le_of_ble_eq_true rfl⟩ rfl dX2_tell_2 rfl rfl (Nat.le_of_ble_eq_true rfl) ?_
  refine mj_if_ne (tgt := 10) dX2_tell_5 rfl (fun h_5 => ?_) (fun h_5 => False.elim (by rw [bi_z] at h_5; simp only [ev_is, decide_eq_false_iff_not] at h_5; exact h_5 ⟨nI_pos' (by omega), nI_lt hj (by omega)⟩))
  refine mj_ildn dX2_tell_10 rfl ?_
  by_cases s11_0 : ch = 1
  · subst s11_0
    refine mj_tableIn (off := 29) (tgt := 40) dX2_tell_11 (by decide) (by decide) (by decide) rfl ?_
    refine mj_aldn dX2_tell_40 rfl ?_
    refine mj_aldn dX2_tell_41 rfl ?_
    refine mj_getr fkX2_33 dX2_tell_42 rfl rfl ?_
    refine mj_ildn dX2_tell_45 rfl ?_
    refine mj_ildn dX2_tell_46 rfl ?_
    refine mj_cvi (K := mX2_swap) (c_swap _ 19 rfl x j (by omega) v) ckX2_swap lkX2_56 ⟨Nat.le_of_ble_eq_true rfl, Nat.le_of_ble_eq_true rfl⟩ rfl dX2_tell_47 rfl rfl (Nat.le_of_ble_eq_true rfl) (fun z_47 x_47 q_47 => ?_)
    refine mj_ret rfl dX2_tell_50 ?_
    exact hQ _ _ q_47
  by_cases s11_1 : ch = 2
  · subst s11_1
    refine mj_tableIn (off := 40) (tgt := 51) dX2_tell_11 (by decide) (by decide) (by decide) rfl ?_
    refine mj_aldn dX2_tell_51 rfl ?_
    refine mj_aldn dX2_tell_52 rfl ?_
    refine mj_getr fkX2_27 dX2_tell_53 rfl rfl ?_
    refine mj_ildn dX2_tell_56 rfl ?_
    refine mj_ildn dX2_tell_57 rfl ?_
    refine mj_cvi (K := mX2_swap) (c_swap _ 17 rfl x j (by omega) v) ckX2_swap lkX2_56 ⟨Nat.le_of_ble_eq_true rfl, Nat.le_of_ble_eq_true rfl⟩ rfl dX2_tell_58 rfl rfl (Nat.le_of_ble_eq_true rfl) (fun z_58 x_58 q_58 => ?_)
    refine mj_ret rfl dX2_tell_61 ?_
    exact hQ _ _ q_58
  by_cases s11_2 : ch = 3
  · subst s11_2
    refine mj_tableIn (off := 51) (tgt := 62) dX2_tell_11 (by decide) (by decide) (by decide) rfl ?_
    refine mj_aldn dX2_tell_62 rfl ?_
    refine mj_aldn dX2_tell_63 rfl ?_
    refine mj_getr fkX2_21 dX2_tell_64 rfl rfl ?_
    refine mj_ildn dX2_tell_67 rfl ?_
    refine mj_ildn dX2_tell_68 rfl ?_
    refine mj_cvi (K := mX2_swap) (c_swap _ 15 rfl x j (by omega) v) ckX2_swap lkX2_56 ⟨Nat.le_of_ble_eq_true rfl, Nat.le_of_ble_eq_true rfl⟩ rfl dX2_tell_69 rfl rfl (Nat.le_of_ble_eq_true rfl) (fun z_69 x_69 q_69 => ?_)
    refine mj_ret rfl dX2_tell_72 ?_
    exact hQ _ _ q_69
  by_cases s11_3 : ch = 4
  · subst s11_3
    refine mj_tableIn (off := 62) (tgt := 73) dX2_tell_11 (by decide) (by decide) (by decide) rfl ?_
    refine mj_aldn dX2_tell_73 rfl ?_
    refine mj_aldn dX2_tell_74 rfl ?_
    refine mj_getr fkX2_30 dX2_tell_75 rfl rfl ?_
    refine mj_ildn dX2_tell_78 rfl ?_
    refine mj_ildn dX2_tell_79 rfl ?_
    refine mj_cvi (K := mX2_swap) (c_swap _ 18 rfl x j (by omega) v) ckX2_swap lkX2_56 ⟨Nat.le_of_ble_eq_true rfl, Nat.le_of_ble_eq_true rfl⟩ rfl dX2_tell_80 rfl rfl (Nat.le_of_ble_eq_true rfl) (fun z_80 x_80 q_80 => ?_)
    refine mj_ret rfl dX2_tell_83 ?_
    exact hQ _ _ q_80
  exfalso; rcases hch with h | h | h | h <;> contradiction
set_option maxHeartbeats 1000000 in
theorem c_tellC (R : List mj_S) (x : mj_X) (n : Nat) (hn : n ≤ 41) (hsz : x 11 12 = nI n) (j : Nat) (hj : j < n) (w : Int32) : mj_CP mX2_tellOfConviction (shX ++ R) [.ref 11, .int (nI j), .int w] x (ev_tellC x j w) := by
  refine mj_startP (ls := [some (.ref 11), some (.int (nI j)), some (.int w)]) (by decide) rfl rfl (fun Q hQ => ?_)
  refine mj_aldn dX2_tellOfConviction_0 rfl ?_
  refine mj_ildn dX2_tellOfConviction_1 rfl ?_
  refine mj_cvp (K := mX2_isThere) (c_isThere R x n hn hsz (nI j)) ckX2_isThere lkX2_52 ⟨Nat.le_of_ble_eq_true rfl, Nat.le_of_ble_eq_true rfl⟩ rfl dX2_tellOfConviction_2 rfl rfl (Nat.le_of_ble_eq_true rfl) ?_
  refine mj_if_ne (tgt := 11) dX2_tellOfConviction_5 rfl (fun h_5 => ?_) (fun h_5 => False.elim (by rw [bi_z] at h_5; simp only [ev_is, decide_eq_false_iff_not] at h_5; exact h_5 ⟨nI_pos' (by omega), nI_lt hj (by omega)⟩))
  refine mj_ildn dX2_tellOfConviction_11 rfl ?_
  by_cases s12_0 : w = 3
  · subst s12_0
    refine mj_tableIn (off := 40) (tgt := 52) dX2_tellOfConviction_12 (by decide) (by decide) (by decide) rfl ?_
    refine mj_aldn dX2_tellOfConviction_52 rfl ?_
    refine mj_getr fkX2_21 dX2_tellOfConviction_53 rfl rfl ?_
    refine mj_ildn dX2_tellOfConviction_56 rfl ?_
    refine mj_iald dX2_tellOfConviction_57 rfl j (by omega) rfl (by decide) ?_
    refine mj_ret rfl dX2_tellOfConviction_58 ?_
    exact mj_q hQ (by simp [ev_tellC])
  by_cases s12_1 : w = 4
  · subst s12_1
    refine mj_tableIn (off := 47) (tgt := 59) dX2_tellOfConviction_12 (by decide) (by decide) (by decide) rfl ?_
    refine mj_aldn dX2_tellOfConviction_59 rfl ?_
    refine mj_getr fkX2_24 dX2_tellOfConviction_60 rfl rfl ?_
    refine mj_ildn dX2_tellOfConviction_63 rfl ?_
    refine mj_iald dX2_tellOfConviction_64 rfl j (by omega) rfl (by decide) ?_
    refine mj_ret rfl dX2_tellOfConviction_65 ?_
    exact mj_q hQ (by simp [ev_tellC, s12_0])
  by_cases s12_2 : w = 5
  · subst s12_2
    refine mj_tableIn (off := 54) (tgt := 66) dX2_tellOfConviction_12 (by decide) (by decide) (by decide) rfl ?_
    refine mj_aldn dX2_tellOfConviction_66 rfl ?_
    refine mj_getr fkX2_27 dX2_tellOfConviction_67 rfl rfl ?_
    refine mj_ildn dX2_tellOfConviction_70 rfl ?_
    refine mj_iald dX2_tellOfConviction_71 rfl j (by omega) rfl (by decide) ?_
    refine mj_ret rfl dX2_tellOfConviction_72 ?_
    exact mj_q hQ (by simp [ev_tellC, s12_0, s12_1])
  by_cases s12_3 : w = 6
  · subst s12_3
    refine mj_tableIn (off := 61) (tgt := 73) dX2_tellOfConviction_12 (by decide) (by decide) (by decide) rfl ?_
    refine mj_aldn dX2_tellOfConviction_73 rfl ?_
    refine mj_getr fkX2_30 dX2_tellOfConviction_74 rfl rfl ?_
    refine mj_ildn dX2_tellOfConviction_77 rfl ?_
    refine mj_iald dX2_tellOfConviction_78 rfl j (by omega) rfl (by decide) ?_
    refine mj_ret rfl dX2_tellOfConviction_79 ?_
    exact mj_q hQ (by simp [ev_tellC, s12_0, s12_1, s12_2])
  by_cases s12_4 : w = 7
  · subst s12_4
    refine mj_tableIn (off := 68) (tgt := 80) dX2_tellOfConviction_12 (by decide) (by decide) (by decide) rfl ?_
    refine mj_aldn dX2_tellOfConviction_80 rfl ?_
    refine mj_getr fkX2_33 dX2_tellOfConviction_81 rfl rfl ?_
    refine mj_ildn dX2_tellOfConviction_84 rfl ?_
    refine mj_iald dX2_tellOfConviction_85 rfl j (by omega) rfl (by decide) ?_
    refine mj_ret rfl dX2_tellOfConviction_86 ?_
    exact mj_q hQ (by simp [ev_tellC, s12_0, s12_1, s12_2, s12_3])
  by_cases s12_5 : w = 8
  · subst s12_5
    refine mj_tableIn (off := 75) (tgt := 87) dX2_tellOfConviction_12 (by decide) (by decide) (by decide) rfl ?_
    refine mj_aldn dX2_tellOfConviction_87 rfl ?_
    refine mj_getr fkX2_36 dX2_tellOfConviction_88 rfl rfl ?_
    refine mj_ildn dX2_tellOfConviction_91 rfl ?_
    refine mj_iald dX2_tellOfConviction_92 rfl j (by omega) rfl (by decide) ?_
    refine mj_ret rfl dX2_tellOfConviction_93 ?_
    exact mj_q hQ (by simp [ev_tellC, s12_0, s12_1, s12_2, s12_3, s12_4])
  refine mj_tableOut (tgt := 94) dX2_tellOfConviction_12 (by have u0 := ti_ne s12_0; rw [tl_3] at u0; have u1 := ti_ne s12_1; rw [tl_4] at u1; have u2 := ti_ne s12_2; rw [tl_5] at u2; have u3 := ti_ne s12_3; rw [tl_6] at u3; have u4 := ti_ne s12_4; rw [tl_7] at u4; have u5 := ti_ne s12_5; rw [tl_8] at u5; omega) rfl ?_
  refine mj_bipush dX2_tellOfConviction_94 nb_m4 ?_
  refine mj_ret rfl dX2_tellOfConviction_96 ?_
  exact mj_q hQ (by simp [ev_tellC, s12_0, s12_1, s12_2, s12_3, s12_4, s12_5])
set_option maxHeartbeats 1000000 in
theorem c_tell (R : List mj_S) (x : mj_X) (n : Nat) (hn : n ≤ 41) (hsz : x 11 12 = nI n) (j : Nat) (hj : j < n) (w : Int32) : mj_CP mX2_tellOf (shX ++ R) [.ref 11, .int (nI j), .int w] x (ev_tell x j w) := by
  refine mj_startP (ls := [some (.ref 11), some (.int (nI j)), some (.int w)]) (by decide) rfl rfl (fun Q hQ => ?_)
  refine mj_aldn dX2_tellOf_0 rfl ?_
  refine mj_ildn dX2_tellOf_1 rfl ?_
  refine mj_cvp (K := mX2_isThere) (c_isThere R x n hn hsz (nI j)) ckX2_isThere lkX2_52 ⟨Nat.le_of_ble_eq_true rfl, Nat.le_of_ble_eq_true rfl⟩ rfl dX2_tellOf_2 rfl rfl (Nat.le_of_ble_eq_true rfl) ?_
  refine mj_if_ne (tgt := 11) dX2_tellOf_5 rfl (fun h_5 => ?_) (fun h_5 => False.elim (by rw [bi_z] at h_5; simp only [ev_is, decide_eq_false_iff_not] at h_5; exact h_5 ⟨nI_pos' (by omega), nI_lt hj (by omega)⟩))
  refine mj_ildn dX2_tellOf_11 rfl ?_
  by_cases s12_0 : w = 0
  · subst s12_0
    refine mj_tableIn (off := 60) (tgt := 72) dX2_tellOf_12 (by decide) (by decide) (by decide) rfl ?_
    refine mj_aldn dX2_tellOf_72 rfl ?_
    refine mj_getr fkX2_11 dX2_tellOf_73 rfl rfl ?_
    refine mj_ildn dX2_tellOf_76 rfl ?_
    refine mj_iald dX2_tellOf_77 rfl j (by omega) rfl (by decide) ?_
    refine mj_ret rfl dX2_tellOf_78 ?_
    exact mj_q hQ (by simp [ev_tell])
  by_cases s12_1 : w = 1
  · subst s12_1
    refine mj_tableIn (off := 67) (tgt := 79) dX2_tellOf_12 (by decide) (by decide) (by decide) rfl ?_
    refine mj_aldn dX2_tellOf_79 rfl ?_
    refine mj_getr fkX2_15 dX2_tellOf_80 rfl rfl ?_
    refine mj_ildn dX2_tellOf_83 rfl ?_
    refine mj_iald dX2_tellOf_84 rfl j (by omega) rfl (by decide) ?_
    refine mj_ret rfl dX2_tellOf_85 ?_
    exact mj_q hQ (by simp [ev_tell, s12_0])
  by_cases s12_2 : w = 2
  · subst s12_2
    refine mj_tableIn (off := 74) (tgt := 86) dX2_tellOf_12 (by decide) (by decide) (by decide) rfl ?_
    refine mj_aldn dX2_tellOf_86 rfl ?_
    refine mj_getr fkX2_18 dX2_tellOf_87 rfl rfl ?_
    refine mj_ildn dX2_tellOf_90 rfl ?_
    refine mj_iald dX2_tellOf_91 rfl j (by omega) rfl (by decide) ?_
    refine mj_ret rfl dX2_tellOf_92 ?_
    exact mj_q hQ (by simp [ev_tell, s12_0, s12_1])
  by_cases s12_3 : w = 3
  · subst s12_3
    refine mj_tableIn (off := 110) (tgt := 122) dX2_tellOf_12 (by decide) (by decide) (by decide) rfl ?_
    refine mj_aldn dX2_tellOf_122 rfl ?_
    refine mj_getr fkX2_18 dX2_tellOf_123 rfl rfl ?_
    refine mj_ildn dX2_tellOf_126 rfl ?_
    refine mj_iald dX2_tellOf_127 rfl j (by omega) rfl (by decide) ?_
    refine mj_if_ne (tgt := 140) dX2_tellOf_128 rfl (fun h_128 => ?_) (fun h_128 => ?_)
    · refine mj_bipush dX2_tellOf_140 nb_m4 ?_
      refine mj_ret rfl dX2_tellOf_142 ?_
      exact mj_q hQ (by simp [ev_tell, s12_0, s12_1, s12_2, h_128])
    · refine mj_aldn dX2_tellOf_131 rfl ?_
      refine mj_ildn dX2_tellOf_132 rfl ?_
      refine mj_ildn dX2_tellOf_133 rfl ?_
      refine mj_cvp (K := mX2_tellOfConviction) (c_tellC R x n hn hsz j hj _) ckX2_tellOfConviction lkX2_60 ⟨Nat.le_of_ble_eq_true rfl, Nat.le_of_ble_eq_true rfl⟩ rfl dX2_tellOf_134 rfl rfl (Nat.le_of_ble_eq_true rfl) ?_
      refine mj_goto (tgt := 142) dX2_tellOf_137 rfl ?_
      refine mj_ret rfl dX2_tellOf_142 ?_
      exact mj_q hQ (by simp [ev_tell, s12_0, s12_1, s12_2, h_128])
  by_cases s12_4 : w = 4
  · subst s12_4
    refine mj_tableIn (off := 110) (tgt := 122) dX2_tellOf_12 (by decide) (by decide) (by decide) rfl ?_
    refine mj_aldn dX2_tellOf_122 rfl ?_
    refine mj_getr fkX2_18 dX2_tellOf_123 rfl rfl ?_
    refine mj_ildn dX2_tellOf_126 rfl ?_
    refine mj_iald dX2_tellOf_127 rfl j (by omega) rfl (by decide) ?_
    refine mj_if_ne (tgt := 140) dX2_tellOf_128 rfl (fun h_128 => ?_) (fun h_128 => ?_)
    · refine mj_bipush dX2_tellOf_140 nb_m4 ?_
      refine mj_ret rfl dX2_tellOf_142 ?_
      exact mj_q hQ (by simp [ev_tell, s12_0, s12_1, s12_2, s12_3, h_128])
    · refine mj_aldn dX2_tellOf_131 rfl ?_
      refine mj_ildn dX2_tellOf_132 rfl ?_
      refine mj_ildn dX2_tellOf_133 rfl ?_
      refine mj_cvp (K := mX2_tellOfConviction) (c_tellC R x n hn hsz j hj _) ckX2_tellOfConviction lkX2_60 ⟨Nat.le_of_ble_eq_true rfl, Nat.le_of_ble_eq_true rfl⟩ rfl dX2_tellOf_134 rfl rfl (Nat.le_of_ble_eq_true rfl) ?_
      refine mj_goto (tgt := 142) dX2_tellOf_137 rfl ?_
      refine mj_ret rfl dX2_tellOf_142 ?_
      exact mj_q hQ (by simp [ev_tell, s12_0, s12_1, s12_2, s12_3, h_128])
  by_cases s12_5 : w = 5
  · subst s12_5
    refine mj_tableIn (off := 110) (tgt := 122) dX2_tellOf_12 (by decide) (by decide) (by decide) rfl ?_
    refine mj_aldn dX2_tellOf_122 rfl ?_
    refine mj_getr fkX2_18 dX2_tellOf_123 rfl rfl ?_
    refine mj_ildn dX2_tellOf_126 rfl ?_
    refine mj_iald dX2_tellOf_127 rfl j (by omega) rfl (by decide) ?_
    refine mj_if_ne (tgt := 140) dX2_tellOf_128 rfl (fun h_128 => ?_) (fun h_128 => ?_)
    · refine mj_bipush dX2_tellOf_140 nb_m4 ?_
      refine mj_ret rfl dX2_tellOf_142 ?_
      exact mj_q hQ (by simp [ev_tell, s12_0, s12_1, s12_2, s12_3, s12_4, h_128])
    · refine mj_aldn dX2_tellOf_131 rfl ?_
      refine mj_ildn dX2_tellOf_132 rfl ?_
      refine mj_ildn dX2_tellOf_133 rfl ?_
      refine mj_cvp (K := mX2_tellOfConviction) (c_tellC R x n hn hsz j hj _) ckX2_tellOfConviction lkX2_60 ⟨Nat.le_of_ble_eq_true rfl, Nat.le_of_ble_eq_true rfl⟩ rfl dX2_tellOf_134 rfl rfl (Nat.le_of_ble_eq_true rfl) ?_
      refine mj_goto (tgt := 142) dX2_tellOf_137 rfl ?_
      refine mj_ret rfl dX2_tellOf_142 ?_
      exact mj_q hQ (by simp [ev_tell, s12_0, s12_1, s12_2, s12_3, s12_4, h_128])
  by_cases s12_6 : w = 6
  · subst s12_6
    refine mj_tableIn (off := 110) (tgt := 122) dX2_tellOf_12 (by decide) (by decide) (by decide) rfl ?_
    refine mj_aldn dX2_tellOf_122 rfl ?_
    refine mj_getr fkX2_18 dX2_tellOf_123 rfl rfl ?_
    refine mj_ildn dX2_tellOf_126 rfl ?_
    refine mj_iald dX2_tellOf_127 rfl j (by omega) rfl (by decide) ?_
    refine mj_if_ne (tgt := 140) dX2_tellOf_128 rfl (fun h_128 => ?_) (fun h_128 => ?_)
    · refine mj_bipush dX2_tellOf_140 nb_m4 ?_
      refine mj_ret rfl dX2_tellOf_142 ?_
      exact mj_q hQ (by simp [ev_tell, s12_0, s12_1, s12_2, s12_3, s12_4, s12_5, h_128])
    · refine mj_aldn dX2_tellOf_131 rfl ?_
      refine mj_ildn dX2_tellOf_132 rfl ?_
      refine mj_ildn dX2_tellOf_133 rfl ?_
      refine mj_cvp (K := mX2_tellOfConviction) (c_tellC R x n hn hsz j hj _) ckX2_tellOfConviction lkX2_60 ⟨Nat.le_of_ble_eq_true rfl, Nat.le_of_ble_eq_true rfl⟩ rfl dX2_tellOf_134 rfl rfl (Nat.le_of_ble_eq_true rfl) ?_
      refine mj_goto (tgt := 142) dX2_tellOf_137 rfl ?_
      refine mj_ret rfl dX2_tellOf_142 ?_
      exact mj_q hQ (by simp [ev_tell, s12_0, s12_1, s12_2, s12_3, s12_4, s12_5, h_128])
  by_cases s12_7 : w = 7
  · subst s12_7
    refine mj_tableIn (off := 110) (tgt := 122) dX2_tellOf_12 (by decide) (by decide) (by decide) rfl ?_
    refine mj_aldn dX2_tellOf_122 rfl ?_
    refine mj_getr fkX2_18 dX2_tellOf_123 rfl rfl ?_
    refine mj_ildn dX2_tellOf_126 rfl ?_
    refine mj_iald dX2_tellOf_127 rfl j (by omega) rfl (by decide) ?_
    refine mj_if_ne (tgt := 140) dX2_tellOf_128 rfl (fun h_128 => ?_) (fun h_128 => ?_)
    · refine mj_bipush dX2_tellOf_140 nb_m4 ?_
      refine mj_ret rfl dX2_tellOf_142 ?_
      exact mj_q hQ (by simp [ev_tell, s12_0, s12_1, s12_2, s12_3, s12_4, s12_5, s12_6, h_128])
    · refine mj_aldn dX2_tellOf_131 rfl ?_
      refine mj_ildn dX2_tellOf_132 rfl ?_
      refine mj_ildn dX2_tellOf_133 rfl ?_
      refine mj_cvp (K := mX2_tellOfConviction) (c_tellC R x n hn hsz j hj _) ckX2_tellOfConviction lkX2_60 ⟨Nat.le_of_ble_eq_true rfl, Nat.le_of_ble_eq_true rfl⟩ rfl dX2_tellOf_134 rfl rfl (Nat.le_of_ble_eq_true rfl) ?_
      refine mj_goto (tgt := 142) dX2_tellOf_137 rfl ?_
      refine mj_ret rfl dX2_tellOf_142 ?_
      exact mj_q hQ (by simp [ev_tell, s12_0, s12_1, s12_2, s12_3, s12_4, s12_5, s12_6, h_128])
  by_cases s12_8 : w = 8
  · subst s12_8
    refine mj_tableIn (off := 110) (tgt := 122) dX2_tellOf_12 (by decide) (by decide) (by decide) rfl ?_
    refine mj_aldn dX2_tellOf_122 rfl ?_
    refine mj_getr fkX2_18 dX2_tellOf_123 rfl rfl ?_
    refine mj_ildn dX2_tellOf_126 rfl ?_
    refine mj_iald dX2_tellOf_127 rfl j (by omega) rfl (by decide) ?_
    refine mj_if_ne (tgt := 140) dX2_tellOf_128 rfl (fun h_128 => ?_) (fun h_128 => ?_)
    · refine mj_bipush dX2_tellOf_140 nb_m4 ?_
      refine mj_ret rfl dX2_tellOf_142 ?_
      exact mj_q hQ (by simp [ev_tell, s12_0, s12_1, s12_2, s12_3, s12_4, s12_5, s12_6, s12_7, h_128])
    · refine mj_aldn dX2_tellOf_131 rfl ?_
      refine mj_ildn dX2_tellOf_132 rfl ?_
      refine mj_ildn dX2_tellOf_133 rfl ?_
      refine mj_cvp (K := mX2_tellOfConviction) (c_tellC R x n hn hsz j hj _) ckX2_tellOfConviction lkX2_60 ⟨Nat.le_of_ble_eq_true rfl, Nat.le_of_ble_eq_true rfl⟩ rfl dX2_tellOf_134 rfl rfl (Nat.le_of_ble_eq_true rfl) ?_
      refine mj_goto (tgt := 142) dX2_tellOf_137 rfl ?_
      refine mj_ret rfl dX2_tellOf_142 ?_
      exact mj_q hQ (by simp [ev_tell, s12_0, s12_1, s12_2, s12_3, s12_4, s12_5, s12_6, s12_7, h_128])
  by_cases s12_9 : w = 9
  · subst s12_9
    refine mj_tableIn (off := 81) (tgt := 93) dX2_tellOf_12 (by decide) (by decide) (by decide) rfl ?_
    refine mj_aldn dX2_tellOf_93 rfl ?_
    refine mj_getr fkX2_39 dX2_tellOf_94 rfl rfl ?_
    refine mj_ildn dX2_tellOf_97 rfl ?_
    refine mj_iald dX2_tellOf_98 rfl j (by omega) rfl (by decide) ?_
    refine mj_ret rfl dX2_tellOf_99 ?_
    exact mj_q hQ (by simp [ev_tell, s12_0, s12_1, s12_2, s12_3, s12_4, s12_5, s12_6, s12_7, s12_8])
  by_cases s12_10 : w = 10
  · subst s12_10
    refine mj_tableIn (off := 88) (tgt := 100) dX2_tellOf_12 (by decide) (by decide) (by decide) rfl ?_
    refine mj_aldn dX2_tellOf_100 rfl ?_
    refine mj_getr fkX2_18 dX2_tellOf_101 rfl rfl ?_
    refine mj_ildn dX2_tellOf_104 rfl ?_
    refine mj_iald dX2_tellOf_105 rfl j (by omega) rfl (by decide) ?_
    refine mj_iconst dX2_tellOf_106 ni_2 ?_
    refine mj_ic_ne (tgt := 119) dX2_tellOf_107 rfl (fun h_107 => ?_) (fun h_107 => ?_)
    · refine mj_bipush dX2_tellOf_119 nb_m4 ?_
      refine mj_ret rfl dX2_tellOf_121 ?_
      exact mj_q hQ (by simp [ev_tell, s12_0, s12_1, s12_2, s12_3, s12_4, s12_5, s12_6, s12_7, s12_8, s12_9, h_107])
    · refine mj_aldn dX2_tellOf_110 rfl ?_
      refine mj_getr fkX2_42 dX2_tellOf_111 rfl rfl ?_
      refine mj_ildn dX2_tellOf_114 rfl ?_
      refine mj_iald dX2_tellOf_115 rfl j (by omega) rfl (by decide) ?_
      refine mj_goto (tgt := 121) dX2_tellOf_116 rfl ?_
      refine mj_ret rfl dX2_tellOf_121 ?_
      exact mj_q hQ (by simp [ev_tell, s12_0, s12_1, s12_2, s12_3, s12_4, s12_5, s12_6, s12_7, s12_8, s12_9, h_107])
  refine mj_tableOut (tgt := 122) dX2_tellOf_12 (by have u0 := ti_ne s12_0; rw [tl_0] at u0; have u1 := ti_ne s12_1; rw [tl_1] at u1; have u2 := ti_ne s12_2; rw [tl_2] at u2; have u3 := ti_ne s12_3; rw [tl_3] at u3; have u4 := ti_ne s12_4; rw [tl_4] at u4; have u5 := ti_ne s12_5; rw [tl_5] at u5; have u6 := ti_ne s12_6; rw [tl_6] at u6; have u7 := ti_ne s12_7; rw [tl_7] at u7; have u8 := ti_ne s12_8; rw [tl_8] at u8; have u9 := ti_ne s12_9; rw [tl_9] at u9; have u10 := ti_ne s12_10; rw [tl_10] at u10; omega) rfl ?_
  refine mj_aldn dX2_tellOf_122 rfl ?_
  refine mj_getr fkX2_18 dX2_tellOf_123 rfl rfl ?_
  refine mj_ildn dX2_tellOf_126 rfl ?_
  refine mj_iald dX2_tellOf_127 rfl j (by omega) rfl (by decide) ?_
  refine mj_if_ne (tgt := 140) dX2_tellOf_128 rfl (fun h_128 => ?_) (fun h_128 => ?_)
  · refine mj_bipush dX2_tellOf_140 nb_m4 ?_
    refine mj_ret rfl dX2_tellOf_142 ?_
    exact mj_q hQ (by simp [ev_tell, s12_0, s12_1, s12_2, s12_3, s12_4, s12_5, s12_6, s12_7, s12_8, s12_9, s12_10, h_128])
  · refine mj_aldn dX2_tellOf_131 rfl ?_
    refine mj_ildn dX2_tellOf_132 rfl ?_
    refine mj_ildn dX2_tellOf_133 rfl ?_
    refine mj_cvp (K := mX2_tellOfConviction) (c_tellC R x n hn hsz j hj _) ckX2_tellOfConviction lkX2_60 ⟨Nat.le_of_ble_eq_true rfl, Nat.le_of_ble_eq_true rfl⟩ rfl dX2_tellOf_134 rfl rfl (Nat.le_of_ble_eq_true rfl) ?_
    refine mj_goto (tgt := 142) dX2_tellOf_137 rfl ?_
    refine mj_ret rfl dX2_tellOf_142 ?_
    exact mj_q hQ (by simp [ev_tell, s12_0, s12_1, s12_2, s12_3, s12_4, s12_5, s12_6, s12_7, s12_8, s12_9, s12_10, h_128])
set_option maxHeartbeats 1000000 in
theorem c_clearM (R : List mj_S) (x : mj_X) (n : Nat) (hn : n ≤ 41) (hsz : x 11 12 = nI n) (j : Nat) (hj : j < n) : mj_CV mX2_clearMarks (shX ++ R) [.ref 11, .int (nI j)] x (fun y => y = ev_clear x j) := by
  refine mj_startV (ls := [some (.ref 11), some (.int (nI j))]) (by decide) rfl rfl (fun Q hQ => ?_)
  refine mj_aldn dX2_clearMarks_0 rfl ?_
  refine mj_ildn dX2_clearMarks_1 rfl ?_
  refine mj_cvp (K := mX2_isThere) (c_isThere R x n hn hsz (nI j)) ckX2_isThere lkX2_52 ⟨Nat.le_of_ble_eq_true rfl, Nat.le_of_ble_eq_true rfl⟩ rfl dX2_clearMarks_2 rfl rfl (Nat.le_of_ble_eq_true rfl) ?_
  refine mj_if_eq (tgt := 51) dX2_clearMarks_5 rfl (fun h_5 => False.elim (by rw [bi_z] at h_5; simp only [ev_is, decide_eq_false_iff_not] at h_5; exact h_5 ⟨nI_pos' (by omega), nI_lt hj (by omega)⟩)) (fun h_5 => ?_)
  refine mj_aldn dX2_clearMarks_8 rfl ?_
  refine mj_getr fkX2_36 dX2_clearMarks_9 rfl rfl ?_
  refine mj_ildn dX2_clearMarks_12 rfl ?_
  refine mj_iconst dX2_clearMarks_13 ni_0 ?_
  refine mj_iast dX2_clearMarks_14 rfl j (by omega) rfl (by decide) ?_
  refine mj_aldn dX2_clearMarks_15 rfl ?_
  refine mj_getr fkX2_39 dX2_clearMarks_16 rfl rfl ?_
  refine mj_ildn dX2_clearMarks_19 rfl ?_
  refine mj_iconst dX2_clearMarks_20 ni_0 ?_
  refine mj_iast dX2_clearMarks_21 rfl j (by omega) rfl (by decide) ?_
  refine mj_aldn dX2_clearMarks_22 rfl ?_
  refine mj_getr fkX2_42 dX2_clearMarks_23 rfl rfl ?_
  refine mj_ildn dX2_clearMarks_26 rfl ?_
  refine mj_iconst dX2_clearMarks_27 ni_0 ?_
  refine mj_iast dX2_clearMarks_28 rfl j (by omega) rfl (by decide) ?_
  refine mj_aldn dX2_clearMarks_29 rfl ?_
  refine mj_getr fkX2_45 dX2_clearMarks_30 rfl rfl ?_
  refine mj_ildn dX2_clearMarks_33 rfl ?_
  refine mj_aldn dX2_clearMarks_34 rfl ?_
  refine mj_getr fkX2_18 dX2_clearMarks_35 rfl rfl ?_
  refine mj_ildn dX2_clearMarks_38 rfl ?_
  refine mj_iald dX2_clearMarks_39 rfl j (by omega) rfl (by decide) ?_
  refine mj_iconst dX2_clearMarks_40 ni_1 ?_
  refine mj_ic_ne (tgt := 49) dX2_clearMarks_41 rfl (fun h_41 => ?_) (fun h_41 => ?_)
  · have g_41 : ¬ x 14 j = 1 := h_41
    refine mj_iconst dX2_clearMarks_49 ni_0 ?_
    refine mj_iast dX2_clearMarks_50 rfl j (by omega) rfl (by decide) ?_
    refine mj_retv rfl dX2_clearMarks_51 ?_
    exact hQ _ (by unfold ev_clear; simp only [g_41, if_true, if_false])
  · have g_41 : x 14 j = 1 := h_41
    refine mj_bipush dX2_clearMarks_44 nb_m3 ?_
    refine mj_goto (tgt := 50) dX2_clearMarks_46 rfl ?_
    refine mj_iast dX2_clearMarks_50 rfl j (by omega) rfl (by decide) ?_
    refine mj_retv rfl dX2_clearMarks_51 ?_
    exact hQ _ (by unfold ev_clear; simp only [g_41, if_true, if_false])
set_option maxHeartbeats 1000000 in
theorem c_spend (R : List mj_S) (x : mj_X) (n : Nat) (hn : n ≤ 41) (d : Int32) : mj_CV mX2_spend (shX ++ R) [.ref 11, .int d, .int (nI n)] x (fun y => y = ev_spend x d n) := by
  refine mj_startV (ls := [some (.ref 11), some (.int d), some (.int (nI n)), none]) (by decide) rfl rfl (fun Q hQ => ?_)
  have loop : ∀ (k j : Nat), j ≤ n → n < j + k → mj_V mX2_spend (shX ++ R) Q (ev_spend x d j) 2 [some (.ref 11), some (.int d), some (.int (nI n)), some (.int (nI j))] [] := by
    intro k
    induction k with
    | zero => intro j h1 h2; omega
    | succ k ih =>
      intro j h1 h2 
      refine mj_ildn dX2_spend_2 rfl ?_
      refine mj_ildn dX2_spend_3 rfl ?_
      refine mj_ic_ge (tgt := 43) dX2_spend_4 rfl (fun h_4 => ?_) (fun h_4 => ?_)
      · have hj : j = n := by rw [nI_leI (by omega) (by omega)] at h_4; omega
        subst hj
        refine mj_retv rfl dX2_spend_43 ?_
        exact hQ _ rfl
      · have hlt : j < n := by rw [nI_leI (by omega) (by omega)] at h_4; omega
        refine mj_ildn dX2_spend_7 rfl ?_
        refine mj_bipush dX2_spend_8 nb_41 ?_
        refine mj_ic_ge (tgt := 43) dX2_spend_10 rfl (fun h_10 => False.elim (by exact nl_lt (show j < 41 by omega) (by decide) h_10)) (fun h_10 => ?_)
        refine mj_aldn dX2_spend_13 rfl ?_
        refine mj_getr fkX2_11 dX2_spend_14 rfl rfl ?_
        refine mj_ildn dX2_spend_17 rfl ?_
        refine mj_iald dX2_spend_18 rfl j (by omega) rfl (by decide) ?_
        refine mj_ildn dX2_spend_19 rfl ?_
        refine mj_ic_ne (tgt := 37) dX2_spend_20 rfl (fun h_20 => ?_) (fun h_20 => ?_)
        · have g_20 : ¬ x 12 j = d := h_20
          refine mj_inc3 dX2_spend_37 ni_1 rfl ?_
          refine mj_goto (tgt := 2) dX2_spend_40 rfl ?_
          exact mj_xl (ih (j + 1) (by omega) (by omega)) (by first | exact ev_spend_yes g_20 | exact ev_spend_no g_20) (by simp [nI_1])
        · have g_20 : x 12 j = d := h_20
          refine mj_aldn dX2_spend_23 rfl ?_
          refine mj_getr fkX2_39 dX2_spend_24 rfl rfl ?_
          refine mj_ildn dX2_spend_27 rfl ?_
          refine mj_iconst dX2_spend_28 ni_1 ?_
          refine mj_iast dX2_spend_29 rfl j (by omega) rfl (by decide) ?_
          refine mj_aldn dX2_spend_30 rfl ?_
          refine mj_getr fkX2_45 dX2_spend_31 rfl rfl ?_
          refine mj_ildn dX2_spend_34 rfl ?_
          refine mj_iconst dX2_spend_35 ni_0 ?_
          refine mj_iast dX2_spend_36 rfl j (by omega) rfl (by decide) ?_
          refine mj_inc3 dX2_spend_37 ni_1 rfl ?_
          refine mj_goto (tgt := 2) dX2_spend_40 rfl ?_
          exact mj_xl (ih (j + 1) (by omega) (by omega)) (by first | exact ev_spend_yes g_20 | exact ev_spend_no g_20) (by simp [nI_1])
  refine mj_iconst dX2_spend_0 ni_0 ?_
  refine mj_istn3 dX2_spend_1 rfl ?_
  exact mj_xl (loop (n + 1) 0 (by omega) (by omega)) (ev_spend_0 x d).symm rfl
set_option maxHeartbeats 1000000 in
theorem c_weigh (R : List mj_S) (x : mj_X) (n : Nat) (hn : n ≤ 41) (d s w : Int32) : mj_CP mX2_weigh (shX ++ R) [.ref 11, .int d, .int (nI n), .int s, .int w] x (lp_f (ev_wF x d s w) 0 n) := by
  refine mj_startP (ls := [some (.ref 11), some (.int d), some (.int (nI n)), some (.int s), some (.int w), none, none, none]) (by decide) rfl rfl (fun Q hQ => ?_)
  have loop : ∀ (k j : Nat) (w7 : Option Value), j ≤ n → n < j + k → mj_V mX2_weigh (shX ++ R) Q x 6 [some (.ref 11), some (.int d), some (.int (nI n)), some (.int s), some (.int w), some (.int (lp_f (ev_wF x d s w) 0 j)), some (.int (nI j)), w7] [] := by
    intro k
    induction k with
    | zero => intro j w7 h1 h2; omega
    | succ k ih =>
      intro j w7 h1 h2
      refine mj_ild dX2_weigh_6 rfl ?_
      refine mj_ildn dX2_weigh_8 rfl ?_
      refine mj_ic_ge (tgt := 71) dX2_weigh_9 rfl (fun h_9 => ?_) (fun h_9 => ?_)
      · have hj : j = n := by rw [nI_leI (by omega) (by omega)] at h_9; omega
        subst hj
        refine mj_ild dX2_weigh_71 rfl ?_
        refine mj_ret rfl dX2_weigh_73 ?_
        exact mj_q hQ rfl
      · have hlt : j < n := by rw [nI_leI (by omega) (by omega)] at h_9; omega
        refine mj_ild dX2_weigh_12 rfl ?_
        refine mj_bipush dX2_weigh_14 nb_41 ?_
        refine mj_ic_ge (tgt := 71) dX2_weigh_16 rfl (fun h_16 => False.elim (by exact nl_lt (show j < 41 by omega) (by decide) h_16)) (fun h_16 => ?_)
        refine mj_aldn dX2_weigh_19 rfl ?_
        refine mj_getr fkX2_21 dX2_weigh_20 rfl rfl ?_
        refine mj_ild dX2_weigh_23 rfl ?_
        refine mj_iald dX2_weigh_25 rfl j (by omega) rfl (by decide) ?_
        refine mj_ildn dX2_weigh_26 rfl ?_
        refine mj_isub dX2_weigh_27 ?_
        refine mj_ist7 dX2_weigh_28 rfl ?_
        refine mj_aldn dX2_weigh_30 rfl ?_
        refine mj_getr fkX2_11 dX2_weigh_31 rfl rfl ?_
        refine mj_ild dX2_weigh_34 rfl ?_
        refine mj_iald dX2_weigh_36 rfl j (by omega) rfl (by decide) ?_
        refine mj_ildn dX2_weigh_37 rfl ?_
        refine mj_ic_ne (tgt := 65) dX2_weigh_38 rfl (fun h_38 => ?_) (fun h_38 => ?_)
        · refine mj_inc6 dX2_weigh_65 ni_1 rfl ?_
          refine mj_goto (tgt := 6) dX2_weigh_68 rfl ?_
          exact mj_ls (ih (j + 1) (some (.int (x 15 j - s))) (by omega) (by omega)) (by clear ih; simp [lp_f, nI_1, ev_wF] <;> grind)
        · refine mj_ild dX2_weigh_41 rfl ?_
          refine mj_if_lt (tgt := 65) dX2_weigh_43 rfl (fun h_43 => ?_) (fun h_43 => ?_)
          · refine mj_inc6 dX2_weigh_65 ni_1 rfl ?_
            refine mj_goto (tgt := 6) dX2_weigh_68 rfl ?_
            exact mj_ls (ih (j + 1) (some (.int (x 15 j - s))) (by omega) (by omega)) (by clear ih; simp [lp_f, nI_1, ev_wF] <;> grind)
          · refine mj_ild dX2_weigh_46 rfl ?_
            refine mj_ild dX2_weigh_48 rfl ?_
            refine mj_ic_ge (tgt := 65) dX2_weigh_50 rfl (fun h_50 => ?_) (fun h_50 => ?_)
            · refine mj_inc6 dX2_weigh_65 ni_1 rfl ?_
              refine mj_goto (tgt := 6) dX2_weigh_68 rfl ?_
              exact mj_ls (ih (j + 1) (some (.int (x 15 j - s))) (by omega) (by omega)) (by clear ih; simp [lp_f, nI_1, ev_wF] <;> grind)
            · refine mj_ild dX2_weigh_53 rfl ?_
              refine mj_aldn dX2_weigh_55 rfl ?_
              refine mj_getr fkX2_45 dX2_weigh_56 rfl rfl ?_
              refine mj_ild dX2_weigh_59 rfl ?_
              refine mj_iald dX2_weigh_61 rfl j (by omega) rfl (by decide) ?_
              refine mj_iadd dX2_weigh_62 ?_
              refine mj_ist5 dX2_weigh_63 rfl ?_
              refine mj_inc6 dX2_weigh_65 ni_1 rfl ?_
              refine mj_goto (tgt := 6) dX2_weigh_68 rfl ?_
              exact mj_ls (ih (j + 1) (some (.int (x 15 j - s))) (by omega) (by omega)) (by clear ih; simp [lp_f, nI_1, ev_wF] <;> grind)
  refine mj_iconst dX2_weigh_0 ni_0 ?_
  refine mj_ist5 dX2_weigh_1 rfl ?_
  refine mj_iconst dX2_weigh_3 ni_0 ?_
  refine mj_ist6 dX2_weigh_4 rfl ?_
  exact loop (n + 1) 0 _ (by omega) (by omega)
