theorem mkn_37 {x : mj_X} {n i : Nat} (h1 : i ≠ 19) (h2 : i ≠ 15) : mkn x n 37 i = x 37 i := by
  unfold mkn; split
  · rw [up_eq, upd_ne h2]; exact (mfr_it n).1 i h1
  · rfl
theorem mkn_k {x : mj_X} {n k : Nat} (h1 : k ≠ 37) (h2 : k < 46 ∨ 54 < k) : mkn x n k = x k := by
  unfold mkn; split
  · rw [up_ne h1]; exact (mfr_it n).2 k h1 h2
  · rfl
theorem mkn_E {x : mj_X} {n e w : Nat} : mE (mkn x n) e w = mE x e w := by unfold mE; rw [mkn_k (by decide) (by omega)]
/-- the reference can count this driver's banned days -/
def mdc (x : mj_X) (n : Nat) (d : Int32) (nb K : Nat) : Prop := nb ≤ 82 ∧ mkn x n 37 19 = nI nb ∧ (∀ j, j < K → nI (0 + j) ≤ lp_f (menF (mkn x n) d) (-1) nb) ∧ lp_f (menF (mkn x n) d) (-1) nb < nI (0 + K)
def mdok (x : mj_X) (n : Nat) (d : Int32) : Prop := mvd x n ∧ ∃ nb K, mdc x n d nb K
def mdays (x : mj_X) (n : Nat) (d z : Int32) : Prop := ∃ nb K, mdc x n d nb K ∧ z = lp_f (mdfF (mkn x n) nb d 0) 0 K
theorem c_mdays2 (x : mj_X) (n : Nat) (hn : n ≤ 41) (hs : x 39 334 = nI n) (d : Int32) (h : mdok x n d) : mj_CI mX7_daysOf (shX ++ shM) [.ref 37, .int d] x (fun z y => mdays x n d z ∧ y = mkn x n) := by
  obtain ⟨hvd, nb, K, h1, h2, h3, h4⟩ := h
  exact (c_mdays x n hn hs hvd nb h1 h2 d K h3 h4).mono (fun z y q => ⟨⟨nb, K, ⟨h1, h2, h3, h4⟩, q.1⟩, q.2⟩)
set_option maxHeartbeats 1000000 in
theorem c_mretell (x : mj_X) (n : Nat) (hn : n ≤ 40) (hs : x 39 334 = nI n) (u : Nat) (hu : u ≤ 6) (hus : x 37 4 = nI u) (j : Nat) (hj : j < n) (w : Nat) (hw : w < 8) (v : Int32) (h1 : mdok x n (mE x j 0)) (h2 : ∀ y, mno (mkn x n) y u → mdok (mj_up y 39 (8 * j + w) v) n (mE x j 0)) : mj_CI mX7_retell (shX ++ shM) [.ref 37, .int (nI j), .int (nI w), .int v] x (fun z y => ∃ a b v1, mdays x n (mE x j 0) a ∧ mno (mkn x n) v1 u ∧ mdays (mj_up v1 39 (8 * j + w) v) n (mE x j 0) b ∧ y = mkn (mj_up v1 39 (8 * j + w) v) n ∧ z = b - a + 100000) := by
  refine mj_startI (ls := [some (.ref 37), some (.int (nI j)), some (.int (nI w)), some (.int v), none, none]) (by decide) rfl rfl (fun Q hQ => ?_)
  refine mj_aldn dX7_retell_0 rfl ?_
  refine mj_ildn dX7_retell_1 rfl ?_
  refine mj_iconst dX7_retell_2 ni_0 ?_
  refine mj_cvp (K := mX7_of) (c_of x j 0 (by omega)) ckX7_of lkX7_164 ⟨Nat.le_of_ble_eq_true rfl, Nat.le_of_ble_eq_true rfl⟩ rfl dX7_retell_3 rfl rfl (Nat.le_of_ble_eq_true rfl) ?_
  refine mj_ist4 dX7_retell_6 rfl ?_
  refine mj_aldn dX7_retell_8 rfl ?_
  refine mj_ild dX7_retell_9 rfl ?_
  refine mj_cvi (K := mX7_daysOf) (c_mdays2 x n (by omega) hs (mE x j 0) h1) ckX7_daysOf lkX7_179 ⟨Nat.le_of_ble_eq_true rfl, Nat.le_of_ble_eq_true rfl⟩ rfl dX7_retell_11 rfl rfl (Nat.le_of_ble_eq_true rfl) (fun z_11 x_11 q_11 => ?_)
  obtain ⟨g1, rfl⟩ := q_11
  refine mj_ist5 dX7_retell_14 rfl ?_
  refine mj_aldn dX7_retell_16 rfl ?_
  refine mj_cvv (K := mX7_note) (c_mnote (mkn x n) u hu (by rw [mkn_37 (by decide) (by decide)]; exact hus)) ckX7_note lkX7_148 ⟨Nat.le_of_ble_eq_true rfl, Nat.le_of_ble_eq_true rfl⟩ rfl dX7_retell_17 rfl rfl (Nat.le_of_ble_eq_true rfl) (fun x_17 q_17 => ?_)
  refine mj_aldn dX7_retell_20 rfl ?_
  refine mj_getr fkX7_13 dX7_retell_21 rfl rfl ?_
  refine mj_bipush dX7_retell_24 nb_8 ?_
  refine mj_ildn dX7_retell_26 rfl ?_
  refine mj_imul dX7_retell_27 ?_
  refine mj_ildn dX7_retell_28 rfl ?_
  refine mj_iadd dX7_retell_29 ?_
  refine mj_ildn dX7_retell_30 rfl ?_
  rw [ix8]
  refine mj_iast dX7_retell_31 rfl (8 * j + w) (by omega) rfl (by decide) ?_
  refine mj_aldn dX7_retell_32 rfl ?_
  refine mj_ild dX7_retell_33 rfl ?_
  refine mj_cvi (K := mX7_daysOf) (c_mdays2 (mj_up x_17 39 (8 * j + w) v) n (by omega) (by rw [up_eq, upd_ne (by omega), q_17.2.2.2.2.2 39 (by decide) (by decide), mkn_k (by decide) (by omega)]; exact hs) (mE x j 0) (h2 x_17 q_17)) ckX7_daysOf lkX7_179 ⟨Nat.le_of_ble_eq_true rfl, Nat.le_of_ble_eq_true rfl⟩ rfl dX7_retell_35 rfl rfl (Nat.le_of_ble_eq_true rfl) (fun z_35 x_35 q_35 => ?_)
  refine mj_ild dX7_retell_38 rfl ?_
  refine mj_isub dX7_retell_40 ?_
  refine mj_ldc kkX7_182 dX7_retell_41 ?_
  refine mj_iadd dX7_retell_43 ?_
  refine mj_ret rfl dX7_retell_44 ?_
  exact hQ _ _ ⟨z_11, z_35, x_17, g1, q_17, q_35.1, q_35.2, rfl⟩
set_option maxHeartbeats 1000000 in
theorem q_strike (x : mj_X) (n : Nat) (hn : n ≤ 40) (hs : x 39 334 = nI n) (u : Nat) (hu : u ≤ 6) (hus : x 37 4 = nI u) (e : Int32) (h1 : (m_isC x n e = true ∧ ¬ mE x e.toNatClampNeg 7 = 1) → mdok x n (mE x e.toNatClampNeg 0)) (h2 : (m_isC x n e = true ∧ ¬ mE x e.toNatClampNeg 7 = 1) → ∀ y, mno (mkn x n) y u → mdok (mj_up y 39 (8 * e.toNatClampNeg + 7) (1)) n (mE x e.toNatClampNeg 0)) : mj_CI mX7_strike (shX ++ shM) [.ref 37, .int e] x (fun z y => if m_isC x n e = false then z = -1 ∧ y = x else if mE x e.toNatClampNeg 7 = 1 then z = -2 ∧ y = x else ∃ a b v1, mdays x n (mE x e.toNatClampNeg 0) a ∧ mno (mkn x n) v1 u ∧ mdays (mj_up v1 39 (8 * e.toNatClampNeg + 7) (1)) n (mE x e.toNatClampNeg 0) b ∧ y = mkn (mj_up v1 39 (8 * e.toNatClampNeg + 7) (1)) n ∧ z = b - a + 100000) := by
  refine mj_startI (ls := [some (.ref 37), some (.int e)]) (by decide) rfl rfl (fun Q hQ => ?_)
  refine mj_aldn dX7_strike_0 rfl ?_
  refine mj_ildn dX7_strike_1 rfl ?_
  refine mj_cvp (K := mX7_isConviction) (c_misC x n (by omega) hs e) ckX7_isConviction lkX7_183 ⟨Nat.le_of_ble_eq_true rfl, Nat.le_of_ble_eq_true rfl⟩ rfl dX7_strike_2 rfl rfl (Nat.le_of_ble_eq_true rfl) ?_
  refine mj_if_ne (tgt := 10) dX7_strike_5 rfl (fun h_5 => ?_) (fun h_5 => ?_)
  · rw [bi_nz] at h_5
    have h8 := h_5
    simp only [m_isC, decide_eq_true_eq] at h8
    obtain ⟨j, hj, rfl⟩ := ix_of (n := n) (a := e) (by omega) h8.1 h8.2.1
    have ec := nI_clamp (n := j) (by omega)
    rw [ec] at hQ h1 h2
    refine mj_aldn dX7_strike_10 rfl ?_
    refine mj_ildn dX7_strike_11 rfl ?_
    refine mj_bipush dX7_strike_12 nb_7 ?_
    refine mj_cvp (K := mX7_of) (c_of x j 7 (by omega)) ckX7_of lkX7_164 ⟨Nat.le_of_ble_eq_true rfl, Nat.le_of_ble_eq_true rfl⟩ rfl dX7_strike_14 rfl rfl (Nat.le_of_ble_eq_true rfl) ?_
    refine mj_iconst dX7_strike_17 ni_1 ?_
    refine mj_ic_ne (tgt := 26) dX7_strike_18 rfl (fun h_18 => ?_) (fun h_18 => ?_)
    · refine mj_aldn dX7_strike_26 rfl ?_
      refine mj_ildn dX7_strike_27 rfl ?_
      refine mj_bipush dX7_strike_28 nb_7 ?_
      refine mj_iconst dX7_strike_30 ni_1 ?_
      refine mj_cvi (K := mX7_retell) (c_mretell x n hn hs u hu hus j hj 7 (by omega) 1 (h1 ⟨h_5, h_18⟩) (h2 ⟨h_5, h_18⟩)) ckX7_retell lkX7_186 ⟨Nat.le_of_ble_eq_true rfl, Nat.le_of_ble_eq_true rfl⟩ rfl dX7_strike_31 rfl rfl (Nat.le_of_ble_eq_true rfl) (fun z_31 x_31 q_31 => ?_)
      refine mj_ret rfl dX7_strike_34 ?_
      first
      | exact hQ _ _ (by rw [if_neg (by rw [h_5]; decide), if_neg h_18]; exact q_31)
      | exact hQ _ _ (by rw [if_neg (by rw [h_5]; decide), if_pos h_18]; exact ⟨rfl, rfl⟩)
    · refine mj_bipush dX7_strike_21 nb_m2 ?_
      refine mj_goto (tgt := 34) dX7_strike_23 rfl ?_
      refine mj_ret rfl dX7_strike_34 ?_
      first
      | exact hQ _ _ (by rw [if_neg (by rw [h_5]; decide), if_neg h_18]; exact q_31)
      | exact hQ _ _ (by rw [if_neg (by rw [h_5]; decide), if_pos h_18]; exact ⟨rfl, rfl⟩)
  · rw [bi_z] at h_5
    refine mj_iconst dX7_strike_8 ni_m1 ?_
    refine mj_ret rfl dX7_strike_9 ?_
    exact hQ _ _ (by rw [if_pos h_5]; exact ⟨rfl, rfl⟩)
set_option maxHeartbeats 1000000 in
theorem q_excuse (x : mj_X) (n : Nat) (hn : n ≤ 40) (hs : x 39 334 = nI n) (u : Nat) (hu : u ≤ 6) (hus : x 37 4 = nI u) (e : Int32) (h1 : (m_isC x n e = true ∧ ¬ mE x e.toNatClampNeg 7 = 1) → mdok x n (mE x e.toNatClampNeg 0)) (h2 : (m_isC x n e = true ∧ ¬ mE x e.toNatClampNeg 7 = 1) → ∀ y, mno (mkn x n) y u → mdok (mj_up y 39 (8 * e.toNatClampNeg + 6) (1 - mE x e.toNatClampNeg 6)) n (mE x e.toNatClampNeg 0)) : mj_CI mX7_excuse (shX ++ shM) [.ref 37, .int e] x (fun z y => if m_isC x n e = false then z = -1 ∧ y = x else if mE x e.toNatClampNeg 7 = 1 then z = -2 ∧ y = x else ∃ a b v1, mdays x n (mE x e.toNatClampNeg 0) a ∧ mno (mkn x n) v1 u ∧ mdays (mj_up v1 39 (8 * e.toNatClampNeg + 6) (1 - mE x e.toNatClampNeg 6)) n (mE x e.toNatClampNeg 0) b ∧ y = mkn (mj_up v1 39 (8 * e.toNatClampNeg + 6) (1 - mE x e.toNatClampNeg 6)) n ∧ z = b - a + 100000) := by
  refine mj_startI (ls := [some (.ref 37), some (.int e)]) (by decide) rfl rfl (fun Q hQ => ?_)
  refine mj_aldn dX7_excuse_0 rfl ?_
  refine mj_ildn dX7_excuse_1 rfl ?_
  refine mj_cvp (K := mX7_isConviction) (c_misC x n (by omega) hs e) ckX7_isConviction lkX7_183 ⟨Nat.le_of_ble_eq_true rfl, Nat.le_of_ble_eq_true rfl⟩ rfl dX7_excuse_2 rfl rfl (Nat.le_of_ble_eq_true rfl) ?_
  refine mj_if_ne (tgt := 10) dX7_excuse_5 rfl (fun h_5 => ?_) (fun h_5 => ?_)
  · rw [bi_nz] at h_5
    have h8 := h_5
    simp only [m_isC, decide_eq_true_eq] at h8
    obtain ⟨j, hj, rfl⟩ := ix_of (n := n) (a := e) (by omega) h8.1 h8.2.1
    have ec := nI_clamp (n := j) (by omega)
    rw [ec] at hQ h1 h2
    refine mj_aldn dX7_excuse_10 rfl ?_
    refine mj_ildn dX7_excuse_11 rfl ?_
    refine mj_bipush dX7_excuse_12 nb_7 ?_
    refine mj_cvp (K := mX7_of) (c_of x j 7 (by omega)) ckX7_of lkX7_164 ⟨Nat.le_of_ble_eq_true rfl, Nat.le_of_ble_eq_true rfl⟩ rfl dX7_excuse_14 rfl rfl (Nat.le_of_ble_eq_true rfl) ?_
    refine mj_iconst dX7_excuse_17 ni_1 ?_
    refine mj_ic_ne (tgt := 26) dX7_excuse_18 rfl (fun h_18 => ?_) (fun h_18 => ?_)
    · refine mj_aldn dX7_excuse_26 rfl ?_
      refine mj_ildn dX7_excuse_27 rfl ?_
      refine mj_bipush dX7_excuse_28 nb_6 ?_
      refine mj_iconst dX7_excuse_30 ni_1 ?_
      refine mj_aldn dX7_excuse_31 rfl ?_
      refine mj_ildn dX7_excuse_32 rfl ?_
      refine mj_bipush dX7_excuse_33 nb_6 ?_
      refine mj_cvp (K := mX7_of) (c_of x j 6 (by omega)) ckX7_of lkX7_164 ⟨Nat.le_of_ble_eq_true rfl, Nat.le_of_ble_eq_true rfl⟩ rfl dX7_excuse_35 rfl rfl (Nat.le_of_ble_eq_true rfl) ?_
      refine mj_isub dX7_excuse_38 ?_
      refine mj_cvi (K := mX7_retell) (c_mretell x n hn hs u hu hus j hj 6 (by omega) (1 - mE x j 6) (h1 ⟨h_5, h_18⟩) (h2 ⟨h_5, h_18⟩)) ckX7_retell lkX7_186 ⟨Nat.le_of_ble_eq_true rfl, Nat.le_of_ble_eq_true rfl⟩ rfl dX7_excuse_39 rfl rfl (Nat.le_of_ble_eq_true rfl) (fun z_39 x_39 q_39 => ?_)
      refine mj_ret rfl dX7_excuse_42 ?_
      first
      | exact hQ _ _ (by rw [if_neg (by rw [h_5]; decide), if_neg h_18]; exact q_39)
      | exact hQ _ _ (by rw [if_neg (by rw [h_5]; decide), if_pos h_18]; exact ⟨rfl, rfl⟩)
    · refine mj_bipush dX7_excuse_21 nb_m2 ?_
      refine mj_goto (tgt := 42) dX7_excuse_23 rfl ?_
      refine mj_ret rfl dX7_excuse_42 ?_
      first
      | exact hQ _ _ (by rw [if_neg (by rw [h_5]; decide), if_neg h_18]; exact q_39)
      | exact hQ _ _ (by rw [if_neg (by rw [h_5]; decide), if_pos h_18]; exact ⟨rfl, rfl⟩)
  · rw [bi_z] at h_5
    refine mj_iconst dX7_excuse_8 ni_m1 ?_
    refine mj_ret rfl dX7_excuse_9 ?_
    exact hQ _ _ (by rw [if_pos h_5]; exact ⟨rfl, rfl⟩)
set_option maxHeartbeats 1000000 in
theorem q_lower (x : mj_X) (n : Nat) (hn : n ≤ 40) (hs : x 39 334 = nI n) (u : Nat) (hu : u ≤ 6) (hus : x 37 4 = nI u) (e v : Int32) (h1 : (m_isC x n e = true ∧ 0 ≤ v ∧ v ≤ 8 ∧ ¬ (mE x e.toNatClampNeg 7 = 1 ∨ mE x e.toNatClampNeg 5 ≤ v)) → mdok x n (mE x e.toNatClampNeg 0)) (h2 : (m_isC x n e = true ∧ 0 ≤ v ∧ v ≤ 8 ∧ ¬ (mE x e.toNatClampNeg 7 = 1 ∨ mE x e.toNatClampNeg 5 ≤ v)) → ∀ y, mno (mkn x n) y u → mdok (mj_up y 39 (8 * e.toNatClampNeg + 5) (v)) n (mE x e.toNatClampNeg 0)) : mj_CI mX7_lower (shX ++ shM) [.ref 37, .int e, .int v] x (fun z y => if ¬ (m_isC x n e = true ∧ 0 ≤ v ∧ v ≤ 8) then z = -1 ∧ y = x else if mE x e.toNatClampNeg 7 = 1 ∨ mE x e.toNatClampNeg 5 ≤ v then z = -2 ∧ y = x else ∃ a b v1, mdays x n (mE x e.toNatClampNeg 0) a ∧ mno (mkn x n) v1 u ∧ mdays (mj_up v1 39 (8 * e.toNatClampNeg + 5) (v)) n (mE x e.toNatClampNeg 0) b ∧ y = mkn (mj_up v1 39 (8 * e.toNatClampNeg + 5) (v)) n ∧ z = b - a + 100000) := by
  refine mj_startI (ls := [some (.ref 37), some (.int e), some (.int v)]) (by decide) rfl rfl (fun Q hQ => ?_)
  refine mj_aldn dX7_lower_0 rfl ?_
  refine mj_ildn dX7_lower_1 rfl ?_
  refine mj_cvp (K := mX7_isConviction) (c_misC x n (by omega) hs e) ckX7_isConviction lkX7_183 ⟨Nat.le_of_ble_eq_true rfl, Nat.le_of_ble_eq_true rfl⟩ rfl dX7_lower_2 rfl rfl (Nat.le_of_ble_eq_true rfl) ?_
  refine mj_if_eq (tgt := 20) dX7_lower_5 rfl (fun h_5 => ?_) (fun h_5 => ?_)
  · rw [bi_z] at h_5
    refine mj_iconst dX7_lower_20 ni_m1 ?_
    refine mj_ret rfl dX7_lower_21 ?_
    exact hQ _ _ (by rw [if_pos (by grind)]; exact ⟨rfl, rfl⟩)
  · rw [bi_nz] at h_5
    have h8 := h_5
    simp only [m_isC, decide_eq_true_eq] at h8
    obtain ⟨j, hj, rfl⟩ := ix_of (n := n) (a := e) (by omega) h8.1 h8.2.1
    have ec := nI_clamp (n := j) (by omega)
    rw [ec] at hQ h1 h2
    refine mj_ildn dX7_lower_8 rfl ?_
    refine mj_i2l dX7_lower_9 ?_
    refine mj_lconst dX7_lower_10 nl_0 ?_
    refine mj_ldc2 kkX7_189 dX7_lower_11 ?_
    refine mj_csp (K := mX7_in) (c_in _ x v 0 8 0 8 (by decide) (by decide)) ckX7_in lkX7_79 ⟨Nat.le_of_ble_eq_true rfl, Nat.le_of_ble_eq_true rfl⟩ rfl dX7_lower_14 (Nat.le_of_ble_eq_true rfl) ?_
    refine mj_if_ne (tgt := 22) dX7_lower_17 rfl (fun h_17 => ?_) (fun h_17 => ?_)
    · rw [bi_nz] at h_17; simp only [inn, decide_eq_true_eq] at h_17
      refine mj_aldn dX7_lower_22 rfl ?_
      refine mj_ildn dX7_lower_23 rfl ?_
      refine mj_bipush dX7_lower_24 nb_7 ?_
      refine mj_cvp (K := mX7_of) (c_of x j 7 (by omega)) ckX7_of lkX7_164 ⟨Nat.le_of_ble_eq_true rfl, Nat.le_of_ble_eq_true rfl⟩ rfl dX7_lower_26 rfl rfl (Nat.le_of_ble_eq_true rfl) ?_
      refine mj_iconst dX7_lower_29 ni_1 ?_
      refine mj_ic_eq (tgt := 43) dX7_lower_30 rfl (fun h_30 => ?_) (fun h_30 => ?_)
      · refine mj_bipush dX7_lower_43 nb_m2 ?_
        refine mj_goto (tgt := 55) dX7_lower_45 rfl ?_
        refine mj_ret rfl dX7_lower_55 ?_
        first
        | exact hQ _ _ (by rw [if_neg (by grind), if_neg (by grind)]; exact q_52)
        | exact hQ _ _ (by rw [if_neg (by grind), if_pos (by grind)]; exact ⟨rfl, rfl⟩)
      · refine mj_aldn dX7_lower_33 rfl ?_
        refine mj_ildn dX7_lower_34 rfl ?_
        refine mj_iconst dX7_lower_35 ni_5 ?_
        refine mj_cvp (K := mX7_of) (c_of x j 5 (by omega)) ckX7_of lkX7_164 ⟨Nat.le_of_ble_eq_true rfl, Nat.le_of_ble_eq_true rfl⟩ rfl dX7_lower_36 rfl rfl (Nat.le_of_ble_eq_true rfl) ?_
        refine mj_ildn dX7_lower_39 rfl ?_
        refine mj_ic_gt (tgt := 48) dX7_lower_40 rfl (fun h_40 => ?_) (fun h_40 => ?_)
        · refine mj_aldn dX7_lower_48 rfl ?_
          refine mj_ildn dX7_lower_49 rfl ?_
          refine mj_iconst dX7_lower_50 ni_5 ?_
          refine mj_ildn dX7_lower_51 rfl ?_
          refine mj_cvi (K := mX7_retell) (c_mretell x n hn hs u hu hus j hj 5 (by omega) v (h1 ⟨h_5, h_17.1, h_17.2, by grind⟩) (h2 ⟨h_5, h_17.1, h_17.2, by grind⟩)) ckX7_retell lkX7_186 ⟨Nat.le_of_ble_eq_true rfl, Nat.le_of_ble_eq_true rfl⟩ rfl dX7_lower_52 rfl rfl (Nat.le_of_ble_eq_true rfl) (fun z_52 x_52 q_52 => ?_)
          refine mj_ret rfl dX7_lower_55 ?_
          first
          | exact hQ _ _ (by rw [if_neg (by grind), if_neg (by grind)]; exact q_52)
          | exact hQ _ _ (by rw [if_neg (by grind), if_pos (by grind)]; exact ⟨rfl, rfl⟩)
        · refine mj_bipush dX7_lower_43 nb_m2 ?_
          refine mj_goto (tgt := 55) dX7_lower_45 rfl ?_
          refine mj_ret rfl dX7_lower_55 ?_
          first
          | exact hQ _ _ (by rw [if_neg (by grind), if_neg (by grind)]; exact q_52)
          | exact hQ _ _ (by rw [if_neg (by grind), if_pos (by grind)]; exact ⟨rfl, rfl⟩)
    · rw [bi_z] at h_17; simp only [inn, decide_eq_false_iff_not] at h_17
      refine mj_iconst dX7_lower_20 ni_m1 ?_
      refine mj_ret rfl dX7_lower_21 ?_
      exact hQ _ _ (by rw [if_pos (by grind)]; exact ⟨rfl, rfl⟩)
set_option maxHeartbeats 1000000 in
theorem q_redate (x : mj_X) (n : Nat) (hn : n ≤ 40) (hs : x 39 334 = nI n) (u : Nat) (hu : u ≤ 6) (hus : x 37 4 = nI u) (e v : Int32) (h1 : (m_isC x n e = true ∧ 0 ≤ v ∧ v ≤ mE x e.toNatClampNeg 1 ∧ ¬ (mE x e.toNatClampNeg 7 = 1 ∨ mE x e.toNatClampNeg 3 = v)) → mdok x n (mE x e.toNatClampNeg 0)) (h2 : (m_isC x n e = true ∧ 0 ≤ v ∧ v ≤ mE x e.toNatClampNeg 1 ∧ ¬ (mE x e.toNatClampNeg 7 = 1 ∨ mE x e.toNatClampNeg 3 = v)) → ∀ y, mno (mkn x n) y u → mdok (mj_up y 39 (8 * e.toNatClampNeg + 3) (v)) n (mE x e.toNatClampNeg 0)) : mj_CI mX7_redate (shX ++ shM) [.ref 37, .int e, .int v] x (fun z y => if ¬ (m_isC x n e = true ∧ 0 ≤ v ∧ v ≤ mE x e.toNatClampNeg 1) then z = -1 ∧ y = x else if mE x e.toNatClampNeg 7 = 1 ∨ mE x e.toNatClampNeg 3 = v then z = -2 ∧ y = x else ∃ a b v1, mdays x n (mE x e.toNatClampNeg 0) a ∧ mno (mkn x n) v1 u ∧ mdays (mj_up v1 39 (8 * e.toNatClampNeg + 3) (v)) n (mE x e.toNatClampNeg 0) b ∧ y = mkn (mj_up v1 39 (8 * e.toNatClampNeg + 3) (v)) n ∧ z = b - a + 100000) := by
  refine mj_startI (ls := [some (.ref 37), some (.int e), some (.int v)]) (by decide) rfl rfl (fun Q hQ => ?_)
  refine mj_aldn dX7_redate_0 rfl ?_
  refine mj_ildn dX7_redate_1 rfl ?_
  refine mj_cvp (K := mX7_isConviction) (c_misC x n (by omega) hs e) ckX7_isConviction lkX7_183 ⟨Nat.le_of_ble_eq_true rfl, Nat.le_of_ble_eq_true rfl⟩ rfl dX7_redate_2 rfl rfl (Nat.le_of_ble_eq_true rfl) ?_
  refine mj_if_eq (tgt := 24) dX7_redate_5 rfl (fun h_5 => ?_) (fun h_5 => ?_)
  · rw [bi_z] at h_5
    refine mj_iconst dX7_redate_24 ni_m1 ?_
    refine mj_ret rfl dX7_redate_25 ?_
    exact hQ _ _ (by rw [if_pos (by grind)]; exact ⟨rfl, rfl⟩)
  · rw [bi_nz] at h_5
    have h8 := h_5
    simp only [m_isC, decide_eq_true_eq] at h8
    obtain ⟨j, hj, rfl⟩ := ix_of (n := n) (a := e) (by omega) h8.1 h8.2.1
    have ec := nI_clamp (n := j) (by omega)
    rw [ec] at hQ h1 h2
    refine mj_ildn dX7_redate_8 rfl ?_
    refine mj_i2l dX7_redate_9 ?_
    refine mj_lconst dX7_redate_10 nl_0 ?_
    refine mj_aldn dX7_redate_11 rfl ?_
    refine mj_ildn dX7_redate_12 rfl ?_
    refine mj_iconst dX7_redate_13 ni_1 ?_
    refine mj_cvp (K := mX7_of) (c_of x j 1 (by omega)) ckX7_of lkX7_164 ⟨Nat.le_of_ble_eq_true rfl, Nat.le_of_ble_eq_true rfl⟩ rfl dX7_redate_14 rfl rfl (Nat.le_of_ble_eq_true rfl) ?_
    refine mj_i2l dX7_redate_17 ?_
    refine mj_csp (K := mX7_in) (c_in _ x v 0 (mE x j 1) 0 _ (by decide) rfl) ckX7_in lkX7_79 ⟨Nat.le_of_ble_eq_true rfl, Nat.le_of_ble_eq_true rfl⟩ rfl dX7_redate_18 (Nat.le_of_ble_eq_true rfl) ?_
    refine mj_if_ne (tgt := 26) dX7_redate_21 rfl (fun h_21 => ?_) (fun h_21 => ?_)
    · rw [bi_nz] at h_21; simp only [inn, decide_eq_true_eq] at h_21
      refine mj_aldn dX7_redate_26 rfl ?_
      refine mj_ildn dX7_redate_27 rfl ?_
      refine mj_bipush dX7_redate_28 nb_7 ?_
      refine mj_cvp (K := mX7_of) (c_of x j 7 (by omega)) ckX7_of lkX7_164 ⟨Nat.le_of_ble_eq_true rfl, Nat.le_of_ble_eq_true rfl⟩ rfl dX7_redate_30 rfl rfl (Nat.le_of_ble_eq_true rfl) ?_
      refine mj_iconst dX7_redate_33 ni_1 ?_
      refine mj_ic_eq (tgt := 47) dX7_redate_34 rfl (fun h_34 => ?_) (fun h_34 => ?_)
      · refine mj_bipush dX7_redate_47 nb_m2 ?_
        refine mj_goto (tgt := 59) dX7_redate_49 rfl ?_
        refine mj_ret rfl dX7_redate_59 ?_
        first
        | exact hQ _ _ (by rw [if_neg (by grind), if_neg (by grind)]; exact q_56)
        | exact hQ _ _ (by rw [if_neg (by grind), if_pos (by grind)]; exact ⟨rfl, rfl⟩)
      · refine mj_aldn dX7_redate_37 rfl ?_
        refine mj_ildn dX7_redate_38 rfl ?_
        refine mj_iconst dX7_redate_39 ni_3 ?_
        refine mj_cvp (K := mX7_of) (c_of x j 3 (by omega)) ckX7_of lkX7_164 ⟨Nat.le_of_ble_eq_true rfl, Nat.le_of_ble_eq_true rfl⟩ rfl dX7_redate_40 rfl rfl (Nat.le_of_ble_eq_true rfl) ?_
        refine mj_ildn dX7_redate_43 rfl ?_
        refine mj_ic_ne (tgt := 52) dX7_redate_44 rfl (fun h_44 => ?_) (fun h_44 => ?_)
        · refine mj_aldn dX7_redate_52 rfl ?_
          refine mj_ildn dX7_redate_53 rfl ?_
          refine mj_iconst dX7_redate_54 ni_3 ?_
          refine mj_ildn dX7_redate_55 rfl ?_
          refine mj_cvi (K := mX7_retell) (c_mretell x n hn hs u hu hus j hj 3 (by omega) v (h1 ⟨h_5, h_21.1, h_21.2, by grind⟩) (h2 ⟨h_5, h_21.1, h_21.2, by grind⟩)) ckX7_retell lkX7_186 ⟨Nat.le_of_ble_eq_true rfl, Nat.le_of_ble_eq_true rfl⟩ rfl dX7_redate_56 rfl rfl (Nat.le_of_ble_eq_true rfl) (fun z_56 x_56 q_56 => ?_)
          refine mj_ret rfl dX7_redate_59 ?_
          first
          | exact hQ _ _ (by rw [if_neg (by grind), if_neg (by grind)]; exact q_56)
          | exact hQ _ _ (by rw [if_neg (by grind), if_pos (by grind)]; exact ⟨rfl, rfl⟩)
        · refine mj_bipush dX7_redate_47 nb_m2 ?_
          refine mj_goto (tgt := 59) dX7_redate_49 rfl ?_
          refine mj_ret rfl dX7_redate_59 ?_
          first
          | exact hQ _ _ (by rw [if_neg (by grind), if_neg (by grind)]; exact q_56)
          | exact hQ _ _ (by rw [if_neg (by grind), if_pos (by grind)]; exact ⟨rfl, rfl⟩)
    · rw [bi_z] at h_21; simp only [inn, decide_eq_false_iff_not] at h_21
      refine mj_iconst dX7_redate_24 ni_m1 ?_
      refine mj_ret rfl dX7_redate_25 ?_
      exact hQ _ _ (by rw [if_pos (by grind)]; exact ⟨rfl, rfl⟩)
def m_ev (y : mj_X) (j : Nat) (w : Int32) : Int32 := if w < 3 then mE y j w.toNatClampNeg else if w = 9 then y 47 j else if ¬ mE y j 2 = (if w = 10 then 2 else 0) then -4 else if w = 10 then y 48 j else if w = 8 then y 46 j else mE y j w.toNatClampNeg
set_option maxHeartbeats 1000000 in
theorem q_event (x : mj_X) (n : Nat) (hn : n ≤ 40) (hs : x 39 334 = nI n) (hvd : mvd x n) (nb : Nat) (hb : nb ≤ 82) (hbs : mkn x n 37 19 = nI nb) (e w : Int32) : mj_CI mX7_event (shX ++ shM) [.ref 37, .int e, .int w] x (fun z y => if 0 ≤ e ∧ e < nI n ∧ 0 ≤ w ∧ w ≤ 10 then z = m_ev (mkn x n) e.toNatClampNeg w ∧ y = mkn x n else z = -1 ∧ y = x) := by
  refine mj_startI (ls := [some (.ref 37), some (.int e), some (.int w)]) (by decide) rfl rfl (fun Q hQ => ?_)
  refine mj_aldn dX7_event_0 rfl ?_
  refine mj_ildn dX7_event_1 rfl ?_
  refine mj_cvp (K := mX7_isEvent) (c_mise x n (by omega) hs e) ckX7_isEvent lkX7_176 ⟨Nat.le_of_ble_eq_true rfl, Nat.le_of_ble_eq_true rfl⟩ rfl dX7_event_2 rfl rfl (Nat.le_of_ble_eq_true rfl) ?_
  refine mj_if_eq (tgt := 20) dX7_event_5 rfl (fun h_5 => ?_) (fun h_5 => ?_)
  · rw [bi_z] at h_5; simp only [ev_is, decide_eq_false_iff_not] at h_5
    refine mj_iconst dX7_event_20 ni_m1 ?_
    refine mj_ret rfl dX7_event_21 ?_
    exact hQ _ _ (by rw [if_neg (by grind)]; exact ⟨rfl, rfl⟩)
  · rw [bi_nz] at h_5; simp only [ev_is, decide_eq_true_eq] at h_5
    obtain ⟨j, hj, rfl⟩ := ix_of (n := n) (a := e) (by omega) h_5.1 h_5.2
    have ec := nI_clamp (n := j) (by omega)
    refine mj_ildn dX7_event_8 rfl ?_
    refine mj_i2l dX7_event_9 ?_
    refine mj_lconst dX7_event_10 nl_0 ?_
    refine mj_ldc2 kkX7_241 dX7_event_11 ?_
    refine mj_csp (K := mX7_in) (c_in _ x w 0 10 0 10 (by decide) (by decide)) ckX7_in lkX7_79 ⟨Nat.le_of_ble_eq_true rfl, Nat.le_of_ble_eq_true rfl⟩ rfl dX7_event_14 (Nat.le_of_ble_eq_true rfl) ?_
    refine mj_if_ne (tgt := 22) dX7_event_17 rfl (fun h_17 => ?_) (fun h_17 => ?_)
    · rw [bi_nz] at h_17; simp only [inn, decide_eq_true_eq] at h_17
      obtain ⟨i, hi, rfl⟩ := ix_of (n := 11) (a := w) (by decide) h_17.1 (by have q : (nI 11 : Int32) = 11 := rfl; rw [q]; grind)
      have ei := nI_clamp (n := i) (by omega)
      have hQ : ∀ z, z = m_ev (mkn x n) j (nI i) → Q (some (.int z)) (mkn x n) := fun z hz => hQ z _ (by rw [if_pos ⟨h_5.1, h_5.2, h_17.1, h_17.2⟩, ec]; exact ⟨hz, rfl⟩)
      unfold m_ev at hQ
      rw [ei] at hQ
      refine mj_aldn dX7_event_22 rfl ?_
      refine mj_cvv (K := mX7_know) (c_mknow x n (by omega) hs hvd) ckX7_know lkX7_167 ⟨Nat.le_of_ble_eq_true rfl, Nat.le_of_ble_eq_true rfl⟩ rfl dX7_event_23 rfl rfl (Nat.le_of_ble_eq_true rfl) (fun x_23 q_23 => ?_)
      subst q_23
      refine mj_ildn dX7_event_26 rfl ?_
      refine mj_iconst dX7_event_27 ni_3 ?_
      refine mj_ic_ge (tgt := 38) dX7_event_28 rfl (fun h_28 => ?_) (fun h_28 => ?_)
      · refine mj_ildn dX7_event_38 rfl ?_
        refine mj_bipush dX7_event_39 nb_9 ?_
        refine mj_ic_ne (tgt := 51) dX7_event_41 rfl (fun h_41 => ?_) (fun h_41 => ?_)
        · refine mj_aldn dX7_event_51 rfl ?_
          refine mj_ildn dX7_event_52 rfl ?_
          refine mj_iconst dX7_event_53 ni_2 ?_
          refine mj_cvp (K := mX7_of) (c_of (mkn x n) j 2 (by omega)) ckX7_of lkX7_164 ⟨Nat.le_of_ble_eq_true rfl, Nat.le_of_ble_eq_true rfl⟩ rfl dX7_event_54 rfl rfl (Nat.le_of_ble_eq_true rfl) ?_
          refine mj_ildn dX7_event_57 rfl ?_
          refine mj_bipush dX7_event_58 nb_10 ?_
          refine mj_ic_ne (tgt := 67) dX7_event_60 rfl (fun h_60 => ?_) (fun h_60 => ?_)
          · refine mj_iconst dX7_event_67 ni_0 ?_
            refine mj_ic_eq (tgt := 74) dX7_event_68 rfl (fun h_68 => ?_) (fun h_68 => ?_)
            · refine mj_ildn dX7_event_74 rfl ?_
              refine mj_bipush dX7_event_75 nb_10 ?_
              refine mj_ic_ne (tgt := 89) dX7_event_77 rfl (fun h_77 => ?_) (fun h_77 => ?_)
              · refine mj_ildn dX7_event_89 rfl ?_
                refine mj_bipush dX7_event_90 nb_8 ?_
                refine mj_ic_ne (tgt := 104) dX7_event_92 rfl (fun h_92 => ?_) (fun h_92 => ?_)
                · refine mj_aldn dX7_event_104 rfl ?_
                  refine mj_ildn dX7_event_105 rfl ?_
                  refine mj_ildn dX7_event_106 rfl ?_
                  refine mj_cvp (K := mX7_of) (c_of (mkn x n) j i (by omega)) ckX7_of lkX7_164 ⟨Nat.le_of_ble_eq_true rfl, Nat.le_of_ble_eq_true rfl⟩ rfl dX7_event_107 rfl rfl (Nat.le_of_ble_eq_true rfl) ?_
                  refine mj_ret rfl dX7_event_110 ?_
                  exact hQ _ (by simp only [h_5, h_17, h_28, h_41, h_60, h_68, h_77, h_92]; (try simp); (try grind))
                · refine mj_aldn dX7_event_95 rfl ?_
                  refine mj_getr fkX7_34 dX7_event_96 rfl rfl ?_
                  refine mj_ildn dX7_event_99 rfl ?_
                  refine mj_iald dX7_event_100 rfl j (by omega) rfl (by decide) ?_
                  refine mj_goto (tgt := 110) dX7_event_101 rfl ?_
                  refine mj_ret rfl dX7_event_110 ?_
                  exact hQ _ (by simp only [h_5, h_17, h_28, h_41, h_60, h_68, h_77, h_92]; (try simp); (try grind))
              · refine mj_aldn dX7_event_80 rfl ?_
                refine mj_getr fkX7_40 dX7_event_81 rfl rfl ?_
                refine mj_ildn dX7_event_84 rfl ?_
                refine mj_iald dX7_event_85 rfl j (by omega) rfl (by decide) ?_
                refine mj_goto (tgt := 110) dX7_event_86 rfl ?_
                refine mj_ret rfl dX7_event_110 ?_
                exact hQ _ (by simp only [h_5, h_17, h_28, h_41, h_60, h_68, h_77]; (try simp); (try grind))
            · refine mj_bipush dX7_event_71 nb_m4 ?_
              refine mj_ret rfl dX7_event_73 ?_
              exact hQ _ (by simp only [h_5, h_17, h_28, h_41, h_60, h_68]; (try simp); (try grind))
          · refine mj_iconst dX7_event_63 ni_2 ?_
            refine mj_goto (tgt := 68) dX7_event_64 rfl ?_
            refine mj_ic_eq (tgt := 74) dX7_event_68 rfl (fun h_68 => ?_) (fun h_68 => ?_)
            · refine mj_ildn dX7_event_74 rfl ?_
              refine mj_bipush dX7_event_75 nb_10 ?_
              refine mj_ic_ne (tgt := 89) dX7_event_77 rfl (fun h_77 => ?_) (fun h_77 => ?_)
              · refine mj_ildn dX7_event_89 rfl ?_
                refine mj_bipush dX7_event_90 nb_8 ?_
                refine mj_ic_ne (tgt := 104) dX7_event_92 rfl (fun h_92 => ?_) (fun h_92 => ?_)
                · refine mj_aldn dX7_event_104 rfl ?_
                  refine mj_ildn dX7_event_105 rfl ?_
                  refine mj_ildn dX7_event_106 rfl ?_
                  refine mj_cvp (K := mX7_of) (c_of (mkn x n) j i (by omega)) ckX7_of lkX7_164 ⟨Nat.le_of_ble_eq_true rfl, Nat.le_of_ble_eq_true rfl⟩ rfl dX7_event_107 rfl rfl (Nat.le_of_ble_eq_true rfl) ?_
                  refine mj_ret rfl dX7_event_110 ?_
                  exact hQ _ (by simp only [h_5, h_17, h_28, h_41, h_60, h_68, h_77, h_92]; (try simp); (try grind))
                · refine mj_aldn dX7_event_95 rfl ?_
                  refine mj_getr fkX7_34 dX7_event_96 rfl rfl ?_
                  refine mj_ildn dX7_event_99 rfl ?_
                  refine mj_iald dX7_event_100 rfl j (by omega) rfl (by decide) ?_
                  refine mj_goto (tgt := 110) dX7_event_101 rfl ?_
                  refine mj_ret rfl dX7_event_110 ?_
                  exact hQ _ (by simp only [h_5, h_17, h_28, h_41, h_60, h_68, h_77, h_92]; (try simp); (try grind))
              · refine mj_aldn dX7_event_80 rfl ?_
                refine mj_getr fkX7_40 dX7_event_81 rfl rfl ?_
                refine mj_ildn dX7_event_84 rfl ?_
                refine mj_iald dX7_event_85 rfl j (by omega) rfl (by decide) ?_
                refine mj_goto (tgt := 110) dX7_event_86 rfl ?_
                refine mj_ret rfl dX7_event_110 ?_
                exact hQ _ (by simp only [h_5, h_17, h_28, h_41, h_60, h_68, h_77]; (try simp); (try grind))
            · refine mj_bipush dX7_event_71 nb_m4 ?_
              refine mj_ret rfl dX7_event_73 ?_
              exact hQ _ (by simp only [h_5, h_17, h_28, h_41, h_60, h_68]; (try simp); (try grind))
        · refine mj_aldn dX7_event_44 rfl ?_
          refine mj_getr fkX7_37 dX7_event_45 rfl rfl ?_
          refine mj_ildn dX7_event_48 rfl ?_
          refine mj_iald dX7_event_49 rfl j (by omega) rfl (by decide) ?_
          refine mj_ret rfl dX7_event_50 ?_
          exact hQ _ (by simp only [h_5, h_17, h_28, h_41]; (try simp); (try grind))
      · refine mj_aldn dX7_event_31 rfl ?_
        refine mj_ildn dX7_event_32 rfl ?_
        refine mj_ildn dX7_event_33 rfl ?_
        refine mj_cvp (K := mX7_of) (c_of (mkn x n) j i (by omega)) ckX7_of lkX7_164 ⟨Nat.le_of_ble_eq_true rfl, Nat.le_of_ble_eq_true rfl⟩ rfl dX7_event_34 rfl rfl (Nat.le_of_ble_eq_true rfl) ?_
        refine mj_ret rfl dX7_event_37 ?_
        exact hQ _ (by rw [if_pos (by grind)])
    · rw [bi_z] at h_17; simp only [inn, decide_eq_false_iff_not] at h_17
      refine mj_iconst dX7_event_20 ni_m1 ?_
      refine mj_ret rfl dX7_event_21 ?_
      exact hQ _ _ (by rw [if_neg (by grind)]; exact ⟨rfl, rfl⟩)
set_option maxHeartbeats 1000000 in
theorem q_sum (x : mj_X) (n : Nat) (hn : n ≤ 40) (hs : x 39 334 = nI n) (hvd : mvd x n) (nb : Nat) (hb : nb ≤ 82) (hbs : mkn x n 37 19 = nI nb) (w : Nat) (hw : w ≤ 999) (hw8 : x 39 328 = nI w) (d t : Int32) : mj_CI mX7_sum (shX ++ shM) [.ref 37, .int d, .int t] x (fun z y => if dr d = true ∧ 0 ≤ t ∧ t ≤ 9999 then z = (if most (mkn x n) d t n w < 0 then 0 else most (mkn x n) d t n w) ∧ y = mkn x n else z = -1 ∧ y = x) := by
  refine mj_startI (ls := [some (.ref 37), some (.int d), some (.int t), none]) (by decide) rfl rfl (fun Q hQ => ?_)
  refine mj_ildn dX7_sum_0 rfl ?_
  refine mj_csp (K := mX7_isDriver) (c_mdr _ x d) ckX7_isDriver lkX7_157 ⟨Nat.le_of_ble_eq_true rfl, Nat.le_of_ble_eq_true rfl⟩ rfl dX7_sum_1 (Nat.le_of_ble_eq_true rfl) ?_
  refine mj_if_eq (tgt := 19) dX7_sum_4 rfl (fun h_4 => ?_) (fun h_4 => ?_)
  · rw [bi_z] at h_4
    refine mj_iconst dX7_sum_19 ni_m1 ?_
    refine mj_ret rfl dX7_sum_20 ?_
    exact hQ _ _ (by rw [if_neg (by grind)]; exact ⟨rfl, rfl⟩)
  · rw [bi_nz] at h_4
    refine mj_ildn dX7_sum_7 rfl ?_
    refine mj_i2l dX7_sum_8 ?_
    refine mj_lconst dX7_sum_9 nl_0 ?_
    refine mj_ldc2 kkX7_155 dX7_sum_10 ?_
    refine mj_csp (K := mX7_in) (c_in _ x t 0 9999 0 9999 (by decide) (by decide)) ckX7_in lkX7_79 ⟨Nat.le_of_ble_eq_true rfl, Nat.le_of_ble_eq_true rfl⟩ rfl dX7_sum_13 (Nat.le_of_ble_eq_true rfl) ?_
    refine mj_if_ne (tgt := 21) dX7_sum_16 rfl (fun h_16 => ?_) (fun h_16 => ?_)
    · rw [bi_nz] at h_16; simp only [inn, decide_eq_true_eq] at h_16
      obtain ⟨i, hi, rfl⟩ := ix_of (n := 10000) (a := t) (by decide) h_16.1 (by have q : (nI 10000 : Int32) = 10000 := rfl; rw [q]; grind)
      refine mj_aldn dX7_sum_21 rfl ?_
      refine mj_cvv (K := mX7_know) (c_mknow x n (by omega) hs hvd) ckX7_know lkX7_167 ⟨Nat.le_of_ble_eq_true rfl, Nat.le_of_ble_eq_true rfl⟩ rfl dX7_sum_22 rfl rfl (Nat.le_of_ble_eq_true rfl) (fun x_22 q_22 => ?_)
      subst q_22
      have y334 : mkn x n 39 334 = nI n := by rw [mkn_k (by decide) (by omega)]; exact hs
      have y328 : ∀ i, mkn x n 39 i = x 39 i := fun i => by rw [mkn_k (by decide) (by omega)]
      have y5 : mkn x n 37 5 = x 37 5 := mkn_37 (by decide) (by decide)
      refine mj_aldn dX7_sum_25 rfl ?_
      refine mj_ildn dX7_sum_26 rfl ?_
      refine mj_ildn dX7_sum_27 rfl ?_
      refine mj_aldn dX7_sum_28 rfl ?_
      refine mj_getr fkX7_13 dX7_sum_29 rfl rfl ?_
      refine mj_sipush dX7_sum_32 ns_334 ?_
      refine mj_iald dX7_sum_35 rfl 334 (by decide) rfl (by decide) ?_
      rw [y334]
      refine mj_cvp (K := mX7_mostOf) (c_most (mkn x n) i (by omega) w hw (by rw [y328]; exact hw8) n (by omega) d) ckX7_mostOf lkX7_216 ⟨Nat.le_of_ble_eq_true rfl, Nat.le_of_ble_eq_true rfl⟩ rfl dX7_sum_36 rfl rfl (Nat.le_of_ble_eq_true rfl) ?_
      refine mj_istn3 dX7_sum_39 rfl ?_
      refine mj_ildn dX7_sum_40 rfl ?_
      refine mj_if_ge (tgt := 48) dX7_sum_41 rfl (fun h_41 => ?_) (fun h_41 => ?_)
      · refine mj_ildn dX7_sum_48 rfl ?_
        refine mj_ret rfl dX7_sum_49 ?_
        exact hQ _ _ (by rw [if_pos ⟨h_4, h_16.1, h_16.2⟩]; exact ⟨by first | rw [if_neg (by grind)] | rw [if_pos (by grind)], rfl⟩)
      · refine mj_iconst dX7_sum_44 ni_0 ?_
        refine mj_goto (tgt := 49) dX7_sum_45 rfl ?_
        refine mj_ret rfl dX7_sum_49 ?_
        exact hQ _ _ (by rw [if_pos ⟨h_4, h_16.1, h_16.2⟩]; exact ⟨by first | rw [if_neg (by grind)] | rw [if_pos (by grind)], rfl⟩)
    · rw [bi_z] at h_16; simp only [inn, decide_eq_false_iff_not] at h_16
      refine mj_iconst dX7_sum_19 ni_m1 ?_
      refine mj_ret rfl dX7_sum_20 ?_
      exact hQ _ _ (by rw [if_neg (by grind)]; exact ⟨rfl, rfl⟩)
def m_needP (y : mj_X) (nb n w : Nat) (d t : Int32) (j : Nat) : Bool := decide (y 39 329 ≤ most y d t n w + (if lp_any (mn_has y d t) nb = true then 2 else 1) * nI (j + 1))
set_option maxHeartbeats 1000000 in
theorem q_need (x : mj_X) (n : Nat) (hn : n ≤ 40) (hs : x 39 334 = nI n) (hvd : mvd x n) (nb : Nat) (hb : nb ≤ 82) (hbs : mkn x n 37 19 = nI nb) (w : Nat) (hw : w ≤ 999) (hw8 : x 39 328 = nI w) (t : Nat) (ht : t ≤ 9999) (hts : x 37 5 = nI t) (d : Int32) : mj_CI mX7_need (shX ++ shM) [.ref 37, .int d] x (fun z y => if dr d = true then z = opI (lp_find (m_needP (mkn x n) nb n w d (nI t)) 99 0) (fun j => nI (j + 1)) (-4) ∧ y = mkn x n else z = -1 ∧ y = x) := by
  refine mj_startI (ls := [some (.ref 37), some (.int d), none, none, none]) (by decide) rfl rfl (fun Q hQ => ?_)
  refine mj_ildn dX7_need_0 rfl ?_
  refine mj_csp (K := mX7_isDriver) (c_mdr _ x d) ckX7_isDriver lkX7_157 ⟨Nat.le_of_ble_eq_true rfl, Nat.le_of_ble_eq_true rfl⟩ rfl dX7_need_1 (Nat.le_of_ble_eq_true rfl) ?_
  refine mj_if_ne (tgt := 9) dX7_need_4 rfl (fun h_4 => ?_) (fun h_4 => ?_)
  · rw [bi_nz] at h_4
    refine mj_aldn dX7_need_9 rfl ?_
    refine mj_cvv (K := mX7_know) (c_mknow x n (by omega) hs hvd) ckX7_know lkX7_167 ⟨Nat.le_of_ble_eq_true rfl, Nat.le_of_ble_eq_true rfl⟩ rfl dX7_need_10 rfl rfl (Nat.le_of_ble_eq_true rfl) (fun x_10 q_10 => ?_)
    subst q_10
    have y334 : mkn x n 39 334 = nI n := by rw [mkn_k (by decide) (by omega)]; exact hs
    have y328 : ∀ i, mkn x n 39 i = x 39 i := fun i => by rw [mkn_k (by decide) (by omega)]
    have y5 : mkn x n 37 5 = x 37 5 := mkn_37 (by decide) (by decide)
    rw [hts] at y5
    refine mj_aldn dX7_need_13 rfl ?_
    refine mj_ildn dX7_need_14 rfl ?_
    refine mj_aldn dX7_need_15 rfl ?_
    refine mj_geti fkX7_130 dX7_need_16 rfl rfl ?_
    refine mj_aldn dX7_need_19 rfl ?_
    refine mj_getr fkX7_13 dX7_need_20 rfl rfl ?_
    refine mj_sipush dX7_need_23 ns_334 ?_
    refine mj_iald dX7_need_26 rfl 334 (by decide) rfl (by decide) ?_
    rw [y334, y5]
    refine mj_cvp (K := mX7_mostOf) (c_most (mkn x n) t ht w hw (by rw [y328]; exact hw8) n (by omega) d) ckX7_mostOf lkX7_216 ⟨Nat.le_of_ble_eq_true rfl, Nat.le_of_ble_eq_true rfl⟩ rfl dX7_need_27 rfl rfl (Nat.le_of_ble_eq_true rfl) ?_
    refine mj_istn2 dX7_need_30 rfl ?_
    refine mj_aldn dX7_need_31 rfl ?_
    refine mj_ildn dX7_need_32 rfl ?_
    refine mj_aldn dX7_need_33 rfl ?_
    refine mj_geti fkX7_130 dX7_need_34 rfl rfl ?_
    rw [y5]
    refine mj_cvp (K := mX7_isBanned) (c_mban (mkn x n) nb hb hbs d (nI t)) ckX7_isBanned lkX7_209 ⟨Nat.le_of_ble_eq_true rfl, Nat.le_of_ble_eq_true rfl⟩ rfl dX7_need_37 rfl rfl (Nat.le_of_ble_eq_true rfl) ?_
    refine mj_if_eq (tgt := 47) dX7_need_40 rfl (fun h_40 => ?_) (fun h_40 => ?_)
    · rw [bi_z] at h_40
      refine mj_iconst dX7_need_47 ni_1 ?_
      refine mj_istn3 dX7_need_48 rfl ?_
      refine mj_iconst dX7_need_49 ni_1 ?_
      refine mj_ist4 dX7_need_50 rfl ?_
      have loop : ∀ (k j : Nat), j + k = 99 → (∀ i, i < j → m_needP (mkn x n) nb n w d (nI t) i = false) → mj_V mX7_need (shX ++ shM) Q (mkn x n) 52 [some (.ref 37), some (.int d), some (.int (most (mkn x n) d (nI t) n w)), some (.int 1), some (.int (nI (j + 1)))] [] := by
        intro k
        induction k with
        | zero =>
          intro j hj hp
          have hj : j = 99 := by omega
          subst hj
          refine mj_ild dX7_need_52 rfl ?_
          refine mj_bipush dX7_need_54 nb_100 ?_
          refine mj_ic_ge (tgt := 82) dX7_need_56 rfl (fun h_56 => ?_) (fun h_56 => False.elim (by exact h_56 (by decide)))
          refine mj_bipush dX7_need_82 nb_m4 ?_
          refine mj_ret rfl dX7_need_84 ?_
          exact hQ _ _ (by rw [if_pos h_4, lp_find_no 99 0 99 (by omega) (fun i _ h => hp i h)]; exact ⟨rfl, rfl⟩)
        | succ k ih =>
          intro j hj hp
          refine mj_ild dX7_need_52 rfl ?_
          refine mj_bipush dX7_need_54 nb_100 ?_
          refine mj_ic_ge (tgt := 82) dX7_need_56 rfl (fun h_56 => False.elim (by exact nl_lt (show j + 1 < 100 by omega) (by decide) h_56)) (fun h_56 => ?_)
          refine mj_ildn dX7_need_59 rfl ?_
          refine mj_ildn dX7_need_60 rfl ?_
          refine mj_ild dX7_need_61 rfl ?_
          refine mj_imul dX7_need_63 ?_
          refine mj_iadd dX7_need_64 ?_
          refine mj_aldn dX7_need_65 rfl ?_
          refine mj_iconst dX7_need_66 ni_1 ?_
          refine mj_cvp (K := mX7_ruleOf) (c_ruleOf (mkn x n) 1 (by decide)) ckX7_ruleOf lkX7_145 ⟨Nat.le_of_ble_eq_true rfl, Nat.le_of_ble_eq_true rfl⟩ rfl dX7_need_67 rfl rfl (Nat.le_of_ble_eq_true rfl) ?_
          refine mj_ic_lt (tgt := 76) dX7_need_70 rfl (fun h_70 => ?_) (fun h_70 => ?_)
          · refine mj_inc4 dX7_need_76 ni_1 rfl ?_
            refine mj_goto (tgt := 52) dX7_need_79 rfl ?_
            exact mj_ls (ih (j + 1) (by omega) (lt_s hp (by unfold m_needP; rw [h_40]; simp only [if_true, Bool.false_eq_true, if_false]; simp; grind))) (by rw [nI_1])
          · refine mj_ild dX7_need_73 rfl ?_
            refine mj_ret rfl dX7_need_75 ?_
            exact hQ _ _ (by rw [if_pos h_4, lp_find_yes (i := j) (by unfold m_needP; rw [h_40]; simp only [if_true, Bool.false_eq_true, if_false]; simp; grind) 99 0 (by omega) (by omega) (fun l _ h => hp l h)]; exact ⟨rfl, rfl⟩)
      exact loop 99 0 (by omega) (fun i h => by omega)
    · rw [bi_nz] at h_40
      refine mj_iconst dX7_need_43 ni_2 ?_
      refine mj_goto (tgt := 48) dX7_need_44 rfl ?_
      refine mj_istn3 dX7_need_48 rfl ?_
      refine mj_iconst dX7_need_49 ni_1 ?_
      refine mj_ist4 dX7_need_50 rfl ?_
      have loop : ∀ (k j : Nat), j + k = 99 → (∀ i, i < j → m_needP (mkn x n) nb n w d (nI t) i = false) → mj_V mX7_need (shX ++ shM) Q (mkn x n) 52 [some (.ref 37), some (.int d), some (.int (most (mkn x n) d (nI t) n w)), some (.int 2), some (.int (nI (j + 1)))] [] := by
        intro k
        induction k with
        | zero =>
          intro j hj hp
          have hj : j = 99 := by omega
          subst hj
          refine mj_ild dX7_need_52 rfl ?_
          refine mj_bipush dX7_need_54 nb_100 ?_
          refine mj_ic_ge (tgt := 82) dX7_need_56 rfl (fun h_56 => ?_) (fun h_56 => False.elim (by exact h_56 (by decide)))
          refine mj_bipush dX7_need_82 nb_m4 ?_
          refine mj_ret rfl dX7_need_84 ?_
          exact hQ _ _ (by rw [if_pos h_4, lp_find_no 99 0 99 (by omega) (fun i _ h => hp i h)]; exact ⟨rfl, rfl⟩)
        | succ k ih =>
          intro j hj hp
          refine mj_ild dX7_need_52 rfl ?_
          refine mj_bipush dX7_need_54 nb_100 ?_
          refine mj_ic_ge (tgt := 82) dX7_need_56 rfl (fun h_56 => False.elim (by exact nl_lt (show j + 1 < 100 by omega) (by decide) h_56)) (fun h_56 => ?_)
          refine mj_ildn dX7_need_59 rfl ?_
          refine mj_ildn dX7_need_60 rfl ?_
          refine mj_ild dX7_need_61 rfl ?_
          refine mj_imul dX7_need_63 ?_
          refine mj_iadd dX7_need_64 ?_
          refine mj_aldn dX7_need_65 rfl ?_
          refine mj_iconst dX7_need_66 ni_1 ?_
          refine mj_cvp (K := mX7_ruleOf) (c_ruleOf (mkn x n) 1 (by decide)) ckX7_ruleOf lkX7_145 ⟨Nat.le_of_ble_eq_true rfl, Nat.le_of_ble_eq_true rfl⟩ rfl dX7_need_67 rfl rfl (Nat.le_of_ble_eq_true rfl) ?_
          refine mj_ic_lt (tgt := 76) dX7_need_70 rfl (fun h_70 => ?_) (fun h_70 => ?_)
          · refine mj_inc4 dX7_need_76 ni_1 rfl ?_
            refine mj_goto (tgt := 52) dX7_need_79 rfl ?_
            exact mj_ls (ih (j + 1) (by omega) (lt_s hp (by unfold m_needP; rw [h_40]; simp only [if_true, Bool.false_eq_true, if_false]; simp; grind))) (by rw [nI_1])
          · refine mj_ild dX7_need_73 rfl ?_
            refine mj_ret rfl dX7_need_75 ?_
            exact hQ _ _ (by rw [if_pos h_4, lp_find_yes (i := j) (by unfold m_needP; rw [h_40]; simp only [if_true, Bool.false_eq_true, if_false]; simp; grind) 99 0 (by omega) (by omega) (fun l _ h => hp l h)]; exact ⟨rfl, rfl⟩)
      exact loop 99 0 (by omega) (fun i h => by omega)
  · rw [bi_z] at h_4
    refine mj_iconst dX7_need_7 ni_m1 ?_
    refine mj_ret rfl dX7_need_8 ?_
    exact hQ _ _ (by rw [if_neg (by grind)]; exact ⟨rfl, rfl⟩)
set_option maxHeartbeats 1000000 in
theorem q_banned (x : mj_X) (n : Nat) (hn : n ≤ 40) (hs : x 39 334 = nI n) (hvd : mvd x n) (nb : Nat) (hb : nb ≤ 82) (hbs : mkn x n 37 19 = nI nb) (d t : Int32) : mj_CI mX7_banned (shX ++ shM) [.ref 37, .int d, .int t] x (fun z y => if dr d = true ∧ 0 ≤ t ∧ t ≤ 99999 then z = bi (lp_any (mn_has (mkn x n) d t) nb) ∧ y = mkn x n else z = -1 ∧ y = x) := by
  refine mj_startI (ls := [some (.ref 37), some (.int d), some (.int t)]) (by decide) rfl rfl (fun Q hQ => ?_)
  refine mj_ildn dX7_banned_0 rfl ?_
  refine mj_csp (K := mX7_isDriver) (c_mdr _ x d) ckX7_isDriver lkX7_157 ⟨Nat.le_of_ble_eq_true rfl, Nat.le_of_ble_eq_true rfl⟩ rfl dX7_banned_1 (Nat.le_of_ble_eq_true rfl) ?_
  refine mj_if_eq (tgt := 19) dX7_banned_4 rfl (fun h_4 => ?_) (fun h_4 => ?_)
  · rw [bi_z] at h_4
    refine mj_iconst dX7_banned_19 ni_m1 ?_
    refine mj_ret rfl dX7_banned_20 ?_
    exact hQ _ _ (by rw [if_neg (by grind)]; exact ⟨rfl, rfl⟩)
  · rw [bi_nz] at h_4
    refine mj_ildn dX7_banned_7 rfl ?_
    refine mj_i2l dX7_banned_8 ?_
    refine mj_lconst dX7_banned_9 nl_0 ?_
    refine mj_ldc2 kkX7_243 dX7_banned_10 ?_
    refine mj_csp (K := mX7_in) (c_in _ x t 0 99999 0 99999 (by decide) (by decide)) ckX7_in lkX7_79 ⟨Nat.le_of_ble_eq_true rfl, Nat.le_of_ble_eq_true rfl⟩ rfl dX7_banned_13 (Nat.le_of_ble_eq_true rfl) ?_
    refine mj_if_ne (tgt := 21) dX7_banned_16 rfl (fun h_16 => ?_) (fun h_16 => ?_)
    · rw [bi_nz] at h_16; simp only [inn, decide_eq_true_eq] at h_16
      refine mj_aldn dX7_banned_21 rfl ?_
      refine mj_cvv (K := mX7_know) (c_mknow x n (by omega) hs hvd) ckX7_know lkX7_167 ⟨Nat.le_of_ble_eq_true rfl, Nat.le_of_ble_eq_true rfl⟩ rfl dX7_banned_22 rfl rfl (Nat.le_of_ble_eq_true rfl) (fun x_22 q_22 => ?_)
      subst q_22
      have y334 : mkn x n 39 334 = nI n := by rw [mkn_k (by decide) (by omega)]; exact hs
      have y328 : ∀ i, mkn x n 39 i = x 39 i := fun i => by rw [mkn_k (by decide) (by omega)]
      have y5 : mkn x n 37 5 = x 37 5 := mkn_37 (by decide) (by decide)
      refine mj_aldn dX7_banned_25 rfl ?_
      refine mj_ildn dX7_banned_26 rfl ?_
      refine mj_ildn dX7_banned_27 rfl ?_
      refine mj_cvp (K := mX7_isBanned) (c_mban (mkn x n) nb hb hbs d t) ckX7_isBanned lkX7_209 ⟨Nat.le_of_ble_eq_true rfl, Nat.le_of_ble_eq_true rfl⟩ rfl dX7_banned_28 rfl rfl (Nat.le_of_ble_eq_true rfl) ?_
      refine mj_if_eq (tgt := 38) dX7_banned_31 rfl (fun h_31 => ?_) (fun h_31 => ?_)
      · rw [bi_z] at h_31
        refine mj_iconst dX7_banned_38 ni_0 ?_
        refine mj_ret rfl dX7_banned_39 ?_
        exact hQ _ _ (by rw [if_pos ⟨h_4, h_16.1, h_16.2⟩, h_31]; exact ⟨rfl, rfl⟩)
      · rw [bi_nz] at h_31
        refine mj_iconst dX7_banned_34 ni_1 ?_
        refine mj_goto (tgt := 39) dX7_banned_35 rfl ?_
        refine mj_ret rfl dX7_banned_39 ?_
        exact hQ _ _ (by rw [if_pos ⟨h_4, h_16.1, h_16.2⟩, h_31]; exact ⟨rfl, rfl⟩)
    · rw [bi_z] at h_16; simp only [inn, decide_eq_false_iff_not] at h_16
      refine mj_iconst dX7_banned_19 ni_m1 ?_
      refine mj_ret rfl dX7_banned_20 ?_
      exact hQ _ _ (by rw [if_neg (by grind)]; exact ⟨rfl, rfl⟩)
set_option maxHeartbeats 1000000 in
theorem q_days (x : mj_X) (n : Nat) (hn : n ≤ 40) (hs : x 39 334 = nI n) (hvd : mvd x n) (nb : Nat) (hb : nb ≤ 82) (hbs : mkn x n 37 19 = nI nb) (d a b : Int32) (K : Nat) (h1 : ∀ j, j < K → nI (a.toNatClampNeg + j) ≤ (if b < lp_f (menF (mkn x n) d) (-1) nb then b else lp_f (menF (mkn x n) d) (-1) nb)) (h2 : (if b < lp_f (menF (mkn x n) d) (-1) nb then b else lp_f (menF (mkn x n) d) (-1) nb) < nI (a.toNatClampNeg + K)) : mj_CI mX7_days (shX ++ shM) [.ref 37, .int d, .int a, .int b] x (fun z y => if dr d = true ∧ 0 ≤ a ∧ a ≤ 99999 ∧ a ≤ b ∧ b ≤ 99999 then z = lp_f (mdfF (mkn x n) nb d a.toNatClampNeg) 0 K ∧ y = mkn x n else z = -1 ∧ y = x) := by
  refine mj_startI (ls := [some (.ref 37), some (.int d), some (.int a), some (.int b), none]) (by decide) rfl rfl (fun Q hQ => ?_)
  refine mj_ildn dX7_days_0 rfl ?_
  refine mj_csp (K := mX7_isDriver) (c_mdr _ x d) ckX7_isDriver lkX7_157 ⟨Nat.le_of_ble_eq_true rfl, Nat.le_of_ble_eq_true rfl⟩ rfl dX7_days_1 (Nat.le_of_ble_eq_true rfl) ?_
  refine mj_if_eq (tgt := 32) dX7_days_4 rfl (fun h_4 => ?_) (fun h_4 => ?_)
  · rw [bi_z] at h_4
    refine mj_iconst dX7_days_32 ni_m1 ?_
    refine mj_ret rfl dX7_days_33 ?_
    exact hQ _ _ (by rw [if_neg (by grind)]; exact ⟨rfl, rfl⟩)
  · rw [bi_nz] at h_4
    refine mj_ildn dX7_days_7 rfl ?_
    refine mj_i2l dX7_days_8 ?_
    refine mj_lconst dX7_days_9 nl_0 ?_
    refine mj_ldc2 kkX7_243 dX7_days_10 ?_
    refine mj_csp (K := mX7_in) (c_in _ x a 0 99999 0 99999 (by decide) (by decide)) ckX7_in lkX7_79 ⟨Nat.le_of_ble_eq_true rfl, Nat.le_of_ble_eq_true rfl⟩ rfl dX7_days_13 (Nat.le_of_ble_eq_true rfl) ?_
    refine mj_if_eq (tgt := 32) dX7_days_16 rfl (fun h_16 => ?_) (fun h_16 => ?_)
    · rw [bi_z] at h_16; simp only [inn, decide_eq_false_iff_not] at h_16
      refine mj_iconst dX7_days_32 ni_m1 ?_
      refine mj_ret rfl dX7_days_33 ?_
      exact hQ _ _ (by rw [if_neg (by grind)]; exact ⟨rfl, rfl⟩)
    · rw [bi_nz] at h_16; simp only [inn, decide_eq_true_eq] at h_16
      refine mj_ildn dX7_days_19 rfl ?_
      refine mj_i2l dX7_days_20 ?_
      refine mj_ildn dX7_days_21 rfl ?_
      refine mj_i2l dX7_days_22 ?_
      refine mj_ldc2 kkX7_243 dX7_days_23 ?_
      refine mj_csp (K := mX7_in) (c_in _ x b a 99999 _ 99999 rfl (by decide)) ckX7_in lkX7_79 ⟨Nat.le_of_ble_eq_true rfl, Nat.le_of_ble_eq_true rfl⟩ rfl dX7_days_26 (Nat.le_of_ble_eq_true rfl) ?_
      refine mj_if_ne (tgt := 34) dX7_days_29 rfl (fun h_29 => ?_) (fun h_29 => ?_)
      · rw [bi_nz] at h_29; simp only [inn, decide_eq_true_eq] at h_29
        obtain ⟨i, hi, rfl⟩ := ix_of (n := 100000) (a := a) (by decide) h_16.1 (by have q : (nI 100000 : Int32) = 100000 := rfl; rw [q]; grind)
        have ei := nI_clamp (n := i) (by omega)
        rw [ei] at h1 h2 hQ
        refine mj_aldn dX7_days_34 rfl ?_
        refine mj_cvv (K := mX7_know) (c_mknow x n (by omega) hs hvd) ckX7_know lkX7_167 ⟨Nat.le_of_ble_eq_true rfl, Nat.le_of_ble_eq_true rfl⟩ rfl dX7_days_35 rfl rfl (Nat.le_of_ble_eq_true rfl) (fun x_35 q_35 => ?_)
        subst q_35
        have y334 : mkn x n 39 334 = nI n := by rw [mkn_k (by decide) (by omega)]; exact hs
        have y328 : ∀ i, mkn x n 39 i = x 39 i := fun i => by rw [mkn_k (by decide) (by omega)]
        have y5 : mkn x n 37 5 = x 37 5 := mkn_37 (by decide) (by decide)
        refine mj_aldn dX7_days_38 rfl ?_
        refine mj_ildn dX7_days_39 rfl ?_
        refine mj_cvp (K := mX7_endOf) (c_mend (mkn x n) nb hb hbs d) ckX7_endOf lkX7_235 ⟨Nat.le_of_ble_eq_true rfl, Nat.le_of_ble_eq_true rfl⟩ rfl dX7_days_40 rfl rfl (Nat.le_of_ble_eq_true rfl) ?_
        refine mj_ist4 dX7_days_43 rfl ?_
        refine mj_aldn dX7_days_45 rfl ?_
        refine mj_ildn dX7_days_46 rfl ?_
        refine mj_ildn dX7_days_47 rfl ?_
        refine mj_ildn dX7_days_48 rfl ?_
        refine mj_ild dX7_days_49 rfl ?_
        refine mj_ic_ge (tgt := 58) dX7_days_51 rfl (fun h_51 => ?_) (fun h_51 => ?_)
        · rw [if_neg (by grind)] at h1 h2
          refine mj_ild dX7_days_58 rfl ?_
          refine mj_cvp (K := mX7_daysFrom) (c_mdf (mkn x n) nb hb hbs d _ i K h1 h2) ckX7_daysFrom lkX7_238 ⟨Nat.le_of_ble_eq_true rfl, Nat.le_of_ble_eq_true rfl⟩ rfl dX7_days_60 rfl rfl (Nat.le_of_ble_eq_true rfl) ?_
          refine mj_ret rfl dX7_days_63 ?_
          exact hQ _ _ (by rw [if_pos ⟨h_4, h_16.1, h_16.2, h_29.1, h_29.2⟩]; exact ⟨rfl, rfl⟩)
        · rw [if_pos (by grind)] at h1 h2
          refine mj_ildn dX7_days_54 rfl ?_
          refine mj_goto (tgt := 60) dX7_days_55 rfl ?_
          refine mj_cvp (K := mX7_daysFrom) (c_mdf (mkn x n) nb hb hbs d _ i K h1 h2) ckX7_daysFrom lkX7_238 ⟨Nat.le_of_ble_eq_true rfl, Nat.le_of_ble_eq_true rfl⟩ rfl dX7_days_60 rfl rfl (Nat.le_of_ble_eq_true rfl) ?_
          refine mj_ret rfl dX7_days_63 ?_
          exact hQ _ _ (by rw [if_pos ⟨h_4, h_16.1, h_16.2, h_29.1, h_29.2⟩]; exact ⟨rfl, rfl⟩)
      · rw [bi_z] at h_29; simp only [inn, decide_eq_false_iff_not] at h_29
        refine mj_iconst dX7_days_32 ni_m1 ?_
        refine mj_ret rfl dX7_days_33 ?_
        exact hQ _ _ (by rw [if_neg (by grind)]; exact ⟨rfl, rfl⟩)
set_option maxHeartbeats 1000000 in
theorem q_free (x : mj_X) (n : Nat) (hn : n ≤ 40) (hs : x 39 334 = nI n) (hvd : mvd x n) (nb : Nat) (hb : nb ≤ 82) (hbs : mkn x n 37 19 = nI nb) (t : Nat) (hts : x 37 5 = nI t) (d : Int32) (K : Nat) (h1 : ∀ j, j < K → lp_any (mn_has (mkn x n) d (nI (t + j))) nb = true) (h2 : lp_any (mn_has (mkn x n) d (nI (t + K))) nb = false) : mj_CI mX7_free (shX ++ shM) [.ref 37, .int d] x (fun z y => if dr d = true then z = nI (t + K) ∧ y = mkn x n else z = -1 ∧ y = x) := by
  refine mj_startI (ls := [some (.ref 37), some (.int d), none]) (by decide) rfl rfl (fun Q hQ => ?_)
  refine mj_ildn dX7_free_0 rfl ?_
  refine mj_csp (K := mX7_isDriver) (c_mdr _ x d) ckX7_isDriver lkX7_157 ⟨Nat.le_of_ble_eq_true rfl, Nat.le_of_ble_eq_true rfl⟩ rfl dX7_free_1 (Nat.le_of_ble_eq_true rfl) ?_
  refine mj_if_ne (tgt := 9) dX7_free_4 rfl (fun h_4 => ?_) (fun h_4 => ?_)
  · rw [bi_nz] at h_4
    refine mj_aldn dX7_free_9 rfl ?_
    refine mj_cvv (K := mX7_know) (c_mknow x n (by omega) hs hvd) ckX7_know lkX7_167 ⟨Nat.le_of_ble_eq_true rfl, Nat.le_of_ble_eq_true rfl⟩ rfl dX7_free_10 rfl rfl (Nat.le_of_ble_eq_true rfl) (fun x_10 q_10 => ?_)
    subst q_10
    have y334 : mkn x n 39 334 = nI n := by rw [mkn_k (by decide) (by omega)]; exact hs
    have y328 : ∀ i, mkn x n 39 i = x 39 i := fun i => by rw [mkn_k (by decide) (by omega)]
    have y5 : mkn x n 37 5 = x 37 5 := mkn_37 (by decide) (by decide)
    refine mj_aldn dX7_free_13 rfl ?_
    refine mj_geti fkX7_130 dX7_free_14 rfl rfl ?_
    rw [y5, hts]
    refine mj_istn2 dX7_free_17 rfl ?_
    have loop : ∀ (k j : Nat), j ≤ K → K < j + k → mj_V mX7_free (shX ++ shM) Q (mkn x n) 18 [some (.ref 37), some (.int d), some (.int (nI (t + j)))] [] := by
      intro k
      induction k with
      | zero => intro j g1 g2; omega
      | succ k ih =>
        intro j g1 g2
        refine mj_aldn dX7_free_18 rfl ?_
        refine mj_ildn dX7_free_19 rfl ?_
        refine mj_ildn dX7_free_20 rfl ?_
        refine mj_cvp (K := mX7_isBanned) (c_mban (mkn x n) nb hb hbs d (nI (t + j))) ckX7_isBanned lkX7_209 ⟨Nat.le_of_ble_eq_true rfl, Nat.le_of_ble_eq_true rfl⟩ rfl dX7_free_21 rfl rfl (Nat.le_of_ble_eq_true rfl) ?_
        refine mj_if_eq (tgt := 33) dX7_free_24 rfl (fun h_24 => ?_) (fun h_24 => ?_)
        · rw [bi_z] at h_24
          have hj : j = K := by
            rcases Nat.lt_or_ge j K with h | h
            · rw [h1 j h] at h_24; cases h_24
            · omega
          subst hj
          refine mj_ildn dX7_free_33 rfl ?_
          refine mj_ret rfl dX7_free_34 ?_
          exact hQ _ _ (by rw [if_pos h_4]; exact ⟨rfl, rfl⟩)
        · rw [bi_nz] at h_24
          have hj : j < K := by
            rcases Nat.lt_or_ge j K with h | h
            · exact h
            · have : j = K := by omega
              subst this
              rw [h2] at h_24; cases h_24
          refine mj_inc2 dX7_free_27 ni_1 rfl ?_
          refine mj_goto (tgt := 18) dX7_free_30 rfl ?_
          exact mj_ls (ih (j + 1) (by omega) (by omega)) (by rw [nI_1]; rfl)
    exact loop (K + 1) 0 (by omega) (by omega)
  · rw [bi_z] at h_4
    refine mj_iconst dX7_free_7 ni_m1 ?_
    refine mj_ret rfl dX7_free_8 ?_
    exact hQ _ _ (by rw [if_neg (by grind)]; exact ⟨rfl, rfl⟩)
def m_btell (y : mj_X) (j : Nat) (w : Int32) : Int32 := if w = 0 then y 50 j else if w = 1 then y 51 j else if w = 2 then y 52 j else if w = 3 then y 53 j else y 54 j
set_option maxHeartbeats 1000000 in
theorem q_ban (x : mj_X) (n : Nat) (hn : n ≤ 40) (hs : x 39 334 = nI n) (hvd : mvd x n) (nb : Nat) (hb : nb ≤ 82) (hbs : mkn x n 37 19 = nI nb) (d i w : Int32) : mj_CI mX7_ban (shX ++ shM) [.ref 37, .int d, .int i, .int w] x (fun z y => if dr d = true ∧ -1 ≤ i ∧ 0 ≤ w ∧ w ≤ 4 then z = (if i = -1 then lp_f (mctF (mkn x n) d) 0 nb else opI (lp_find (m_atP (mkn x n) d i) nb 0) (fun j => m_btell (mkn x n) j w) (-4)) ∧ y = mkn x n else z = -1 ∧ y = x) := by
  refine mj_startI (ls := [some (.ref 37), some (.int d), some (.int i), some (.int w), none, none]) (by decide) rfl rfl (fun Q hQ => ?_)
  refine mj_ildn dX7_ban_0 rfl ?_
  refine mj_csp (K := mX7_isDriver) (c_mdr _ x d) ckX7_isDriver lkX7_157 ⟨Nat.le_of_ble_eq_true rfl, Nat.le_of_ble_eq_true rfl⟩ rfl dX7_ban_1 (Nat.le_of_ble_eq_true rfl) ?_
  refine mj_if_eq (tgt := 24) dX7_ban_4 rfl (fun h_4 => ?_) (fun h_4 => ?_)
  · rw [bi_z] at h_4
    refine mj_iconst dX7_ban_24 ni_m1 ?_
    refine mj_ret rfl dX7_ban_25 ?_
    exact hQ _ _ (by rw [if_neg (by grind)]; exact ⟨rfl, rfl⟩)
  · rw [bi_nz] at h_4
    refine mj_ildn dX7_ban_7 rfl ?_
    refine mj_iconst dX7_ban_8 ni_m1 ?_
    refine mj_ic_lt (tgt := 24) dX7_ban_9 rfl (fun h_9 => ?_) (fun h_9 => ?_)
    · refine mj_iconst dX7_ban_24 ni_m1 ?_
      refine mj_ret rfl dX7_ban_25 ?_
      exact hQ _ _ (by rw [if_neg (by grind)]; exact ⟨rfl, rfl⟩)
    · refine mj_ildn dX7_ban_12 rfl ?_
      refine mj_i2l dX7_ban_13 ?_
      refine mj_lconst dX7_ban_14 nl_0 ?_
      refine mj_ldc2 kkX7_245 dX7_ban_15 ?_
      refine mj_csp (K := mX7_in) (c_in _ x w 0 4 0 4 (by decide) (by decide)) ckX7_in lkX7_79 ⟨Nat.le_of_ble_eq_true rfl, Nat.le_of_ble_eq_true rfl⟩ rfl dX7_ban_18 (Nat.le_of_ble_eq_true rfl) ?_
      refine mj_if_ne (tgt := 26) dX7_ban_21 rfl (fun h_21 => ?_) (fun h_21 => ?_)
      · rw [bi_nz] at h_21; simp only [inn, decide_eq_true_eq] at h_21
        refine mj_aldn dX7_ban_26 rfl ?_
        refine mj_cvv (K := mX7_know) (c_mknow x n (by omega) hs hvd) ckX7_know lkX7_167 ⟨Nat.le_of_ble_eq_true rfl, Nat.le_of_ble_eq_true rfl⟩ rfl dX7_ban_27 rfl rfl (Nat.le_of_ble_eq_true rfl) (fun x_27 q_27 => ?_)
        subst q_27
        have y334 : mkn x n 39 334 = nI n := by rw [mkn_k (by decide) (by omega)]; exact hs
        have y328 : ∀ i, mkn x n 39 i = x 39 i := fun i => by rw [mkn_k (by decide) (by omega)]
        have y5 : mkn x n 37 5 = x 37 5 := mkn_37 (by decide) (by decide)
        have hok : dr d = true ∧ -1 ≤ i ∧ 0 ≤ w ∧ w ≤ 4 := ⟨h_4, by grind, h_21.1, h_21.2⟩
        refine mj_ildn dX7_ban_30 rfl ?_
        refine mj_if_ge (tgt := 79) dX7_ban_31 rfl (fun h_31 => ?_) (fun h_31 => ?_)
        · have him : ¬ i = -1 := by grind
          refine mj_aldn dX7_ban_79 rfl ?_
          refine mj_ildn dX7_ban_80 rfl ?_
          refine mj_ildn dX7_ban_81 rfl ?_
          refine mj_cvp (K := mX7_banAt) (c_mbanAt (mkn x n) nb hb hbs d i) ckX7_banAt lkX7_247 ⟨Nat.le_of_ble_eq_true rfl, Nat.le_of_ble_eq_true rfl⟩ rfl dX7_ban_82 rfl rfl (Nat.le_of_ble_eq_true rfl) ?_
          have hlp : lp_find (m_atP (mkn x n) d i) nb 0 = none ∨ ∃ j, j < nb ∧ lp_find (m_atP (mkn x n) d i) nb 0 = some j := by simpa using lp_find_or (p := m_atP (mkn x n) d i) nb 0
          rcases hlp with hl | ⟨j, hj, hl⟩
          · have hQ : Q (some (.int (-4))) (mkn x n) := hQ _ _ (by rw [if_pos hok, if_neg him, hl]; exact ⟨rfl, rfl⟩)
            rw [hl]
            refine mj_ist4 dX7_ban_85 rfl ?_
            refine mj_ild dX7_ban_87 rfl ?_
            refine mj_bipush dX7_ban_89 nb_m4 ?_
            refine mj_ic_ne (tgt := 97) dX7_ban_91 rfl (fun h_91 => False.elim (by exact h_91 rfl)) (fun h_91 => ?_)
            refine mj_bipush dX7_ban_94 nb_m4 ?_
            refine mj_ret rfl dX7_ban_96 ?_
            exact hQ
          · have hQ : Q (some (.int (m_btell (mkn x n) j w))) (mkn x n) := hQ _ _ (by rw [if_pos hok, if_neg him, hl]; exact ⟨rfl, rfl⟩)
            have hn4 : ¬ nI j = -4 := fun h => by have := nI_toInt (n := j) (by omega); rw [h] at this; exact absurd this (by rw [tl_m4]; omega)
            rw [hl]
            refine mj_ss (st' := [.int (nI j)]) ?_ rfl
            refine mj_ist4 dX7_ban_85 rfl ?_
            refine mj_ild dX7_ban_87 rfl ?_
            refine mj_bipush dX7_ban_89 nb_m4 ?_
            refine mj_ic_ne (tgt := 97) dX7_ban_91 rfl (fun h_91 => ?_) (fun h_91 => False.elim (by exact hn4 h_91))
            refine mj_ildn dX7_ban_97 rfl ?_
            refine mj_if_ne (tgt := 111) dX7_ban_98 rfl (fun h_98 => ?_) (fun h_98 => ?_)
            · refine mj_ildn dX7_ban_111 rfl ?_
              refine mj_iconst dX7_ban_112 ni_1 ?_
              refine mj_ic_ne (tgt := 126) dX7_ban_113 rfl (fun h_113 => ?_) (fun h_113 => ?_)
              · refine mj_ildn dX7_ban_126 rfl ?_
                refine mj_iconst dX7_ban_127 ni_2 ?_
                refine mj_ic_ne (tgt := 141) dX7_ban_128 rfl (fun h_128 => ?_) (fun h_128 => ?_)
                · refine mj_ildn dX7_ban_141 rfl ?_
                  refine mj_iconst dX7_ban_142 ni_3 ?_
                  refine mj_ic_ne (tgt := 156) dX7_ban_143 rfl (fun h_143 => ?_) (fun h_143 => ?_)
                  · refine mj_aldn dX7_ban_156 rfl ?_
                    refine mj_getr fkX7_58 dX7_ban_157 rfl rfl ?_
                    refine mj_ild dX7_ban_160 rfl ?_
                    refine mj_iald dX7_ban_162 rfl j (by omega) rfl (by decide) ?_
                    refine mj_ret rfl dX7_ban_163 ?_
                    exact mj_q hQ (by unfold m_btell; simp [h_98, h_113, h_128, h_143])
                  · refine mj_aldn dX7_ban_146 rfl ?_
                    refine mj_getr fkX7_55 dX7_ban_147 rfl rfl ?_
                    refine mj_ild dX7_ban_150 rfl ?_
                    refine mj_iald dX7_ban_152 rfl j (by omega) rfl (by decide) ?_
                    refine mj_goto (tgt := 163) dX7_ban_153 rfl ?_
                    refine mj_ret rfl dX7_ban_163 ?_
                    exact mj_q hQ (by unfold m_btell; simp [h_98, h_113, h_128, h_143])
                · refine mj_aldn dX7_ban_131 rfl ?_
                  refine mj_getr fkX7_52 dX7_ban_132 rfl rfl ?_
                  refine mj_ild dX7_ban_135 rfl ?_
                  refine mj_iald dX7_ban_137 rfl j (by omega) rfl (by decide) ?_
                  refine mj_goto (tgt := 163) dX7_ban_138 rfl ?_
                  refine mj_ret rfl dX7_ban_163 ?_
                  exact mj_q hQ (by unfold m_btell; simp [h_98, h_113, h_128])
              · refine mj_aldn dX7_ban_116 rfl ?_
                refine mj_getr fkX7_49 dX7_ban_117 rfl rfl ?_
                refine mj_ild dX7_ban_120 rfl ?_
                refine mj_iald dX7_ban_122 rfl j (by omega) rfl (by decide) ?_
                refine mj_goto (tgt := 163) dX7_ban_123 rfl ?_
                refine mj_ret rfl dX7_ban_163 ?_
                exact mj_q hQ (by unfold m_btell; simp [h_98, h_113])
            · refine mj_aldn dX7_ban_101 rfl ?_
              refine mj_getr fkX7_46 dX7_ban_102 rfl rfl ?_
              refine mj_ild dX7_ban_105 rfl ?_
              refine mj_iald dX7_ban_107 rfl j (by omega) rfl (by decide) ?_
              refine mj_goto (tgt := 163) dX7_ban_108 rfl ?_
              refine mj_ret rfl dX7_ban_163 ?_
              exact mj_q hQ (by unfold m_btell; simp [h_98])
        · have him : i = -1 := by grind
          refine mj_iconst dX7_ban_34 ni_0 ?_
          refine mj_ist4 dX7_ban_35 rfl ?_
          refine mj_iconst dX7_ban_37 ni_0 ?_
          refine mj_ist5 dX7_ban_38 rfl ?_
          have loop : ∀ (k j : Nat), j ≤ nb → nb < j + k → mj_V mX7_ban (shX ++ shM) Q (mkn x n) 40 [some (.ref 37), some (.int d), some (.int i), some (.int w), some (.int (lp_f (mctF (mkn x n) d) 0 j)), some (.int (nI j))] [] := by
            intro k
            induction k with
            | zero => intro j g1 g2; omega
            | succ k ih =>
              intro j h1 h2
              refine mj_ild dX7_ban_40 rfl ?_
              refine mj_aldn dX7_ban_42 rfl ?_
              refine mj_geti fkX7_199 dX7_ban_43 rfl rfl ?_
              refine mj_ic_ge (tgt := 76) dX7_ban_46 rfl (fun h_46 => ?_) (fun h_46 => ?_)
              · have hj : j = nb := by rw [hbs, nI_leI (by omega) (by omega)] at h_46; omega
                subst hj
                refine mj_ild dX7_ban_76 rfl ?_
                refine mj_ret rfl dX7_ban_78 ?_
                exact hQ _ _ (by rw [if_pos hok, if_pos him]; exact ⟨rfl, rfl⟩)
              · have hlt : j < nb := by rw [hbs, nI_leI (by omega) (by omega)] at h_46; omega
                refine mj_ild dX7_ban_49 rfl ?_
                refine mj_aldn dX7_ban_51 rfl ?_
                refine mj_getr fkX7_43 dX7_ban_52 rfl rfl ?_
                refine mj_ild dX7_ban_55 rfl ?_
                refine mj_iald dX7_ban_57 rfl j (by omega) rfl (by decide) ?_
                refine mj_ildn dX7_ban_58 rfl ?_
                refine mj_ic_ne (tgt := 66) dX7_ban_59 rfl (fun h_59 => ?_) (fun h_59 => ?_)
                · refine mj_iconst dX7_ban_66 ni_0 ?_
                  refine mj_iadd dX7_ban_67 ?_
                  refine mj_ist4 dX7_ban_68 rfl ?_
                  refine mj_inc5 dX7_ban_70 ni_1 rfl ?_
                  refine mj_goto (tgt := 40) dX7_ban_73 rfl ?_
                  exact mj_ls (ih (j + 1) (by omega) (by omega)) (by simp [lp_f, nI_1, mctF, h_46, h_59])
                · refine mj_iconst dX7_ban_62 ni_1 ?_
                  refine mj_goto (tgt := 67) dX7_ban_63 rfl ?_
                  refine mj_iadd dX7_ban_67 ?_
                  refine mj_ist4 dX7_ban_68 rfl ?_
                  refine mj_inc5 dX7_ban_70 ni_1 rfl ?_
                  refine mj_goto (tgt := 40) dX7_ban_73 rfl ?_
                  exact mj_ls (ih (j + 1) (by omega) (by omega)) (by simp [lp_f, nI_1, mctF, h_46, h_59])
          exact loop (nb + 1) 0 (by omega) (by omega)
      · rw [bi_z] at h_21; simp only [inn, decide_eq_false_iff_not] at h_21
        refine mj_iconst dX7_ban_24 ni_m1 ?_
        refine mj_ret rfl dX7_ban_25 ?_
        exact hQ _ _ (by rw [if_neg (by grind)]; exact ⟨rfl, rfl⟩)
def m_seenF (y : mj_X) (a d : Int32) (j : Nat) (r : Int32 × Int32 × Int32) : Int32 × Int32 × Int32 := if mE y j 0 = d ∧ mE y j 2 = 0 ∧ m_see y a j = true then (r.1 + 1, r.2.1 + mE y j 5, nI j) else r
set_option maxHeartbeats 1000000 in
theorem q_seen (x : mj_X) (n : Nat) (hn : n ≤ 40) (hs : x 39 334 = nI n) (hvd : mvd x n) (nb : Nat) (hb : nb ≤ 82) (hbs : mkn x n 37 19 = nI nb) (a d w : Int32) : mj_CI mX7_seen (shX ++ shM) [.ref 37, .int a, .int d, .int w] x (fun z y => if 0 ≤ a ∧ a ≤ 3 ∧ dr d = true ∧ 0 ≤ w ∧ w ≤ 2 then z = (if w = 0 then (lp_f (m_seenF (mkn x n) a d) (0, 0, -4) n).1 else if w = 1 then (lp_f (m_seenF (mkn x n) a d) (0, 0, -4) n).2.1 else (lp_f (m_seenF (mkn x n) a d) (0, 0, -4) n).2.2) ∧ y = mkn x n else z = -1 ∧ y = x) := by
  refine mj_startI (ls := [some (.ref 37), some (.int a), some (.int d), some (.int w), none, none, none, none]) (by decide) rfl rfl (fun Q hQ => ?_)
  refine mj_ildn dX7_seen_0 rfl ?_
  refine mj_i2l dX7_seen_1 ?_
  refine mj_lconst dX7_seen_2 nl_0 ?_
  refine mj_ldc2 kkX7_137 dX7_seen_3 ?_
  refine mj_csp (K := mX7_in) (c_in _ x a 0 3 0 3 (by decide) (by decide)) ckX7_in lkX7_79 ⟨Nat.le_of_ble_eq_true rfl, Nat.le_of_ble_eq_true rfl⟩ rfl dX7_seen_6 (Nat.le_of_ble_eq_true rfl) ?_
  refine mj_if_eq (tgt := 31) dX7_seen_9 rfl (fun h_9 => ?_) (fun h_9 => ?_)
  · rw [bi_z] at h_9; simp only [inn, decide_eq_false_iff_not] at h_9
    refine mj_iconst dX7_seen_31 ni_m1 ?_
    refine mj_ret rfl dX7_seen_32 ?_
    exact hQ _ _ (by rw [if_neg (by grind)]; exact ⟨rfl, rfl⟩)
  · rw [bi_nz] at h_9; simp only [inn, decide_eq_true_eq] at h_9
    refine mj_ildn dX7_seen_12 rfl ?_
    refine mj_csp (K := mX7_isDriver) (c_mdr _ x d) ckX7_isDriver lkX7_157 ⟨Nat.le_of_ble_eq_true rfl, Nat.le_of_ble_eq_true rfl⟩ rfl dX7_seen_13 (Nat.le_of_ble_eq_true rfl) ?_
    refine mj_if_eq (tgt := 31) dX7_seen_16 rfl (fun h_16 => ?_) (fun h_16 => ?_)
    · rw [bi_z] at h_16
      refine mj_iconst dX7_seen_31 ni_m1 ?_
      refine mj_ret rfl dX7_seen_32 ?_
      exact hQ _ _ (by rw [if_neg (by grind)]; exact ⟨rfl, rfl⟩)
    · rw [bi_nz] at h_16
      refine mj_ildn dX7_seen_19 rfl ?_
      refine mj_i2l dX7_seen_20 ?_
      refine mj_lconst dX7_seen_21 nl_0 ?_
      refine mj_ldc2 kkX7_250 dX7_seen_22 ?_
      refine mj_csp (K := mX7_in) (c_in _ x w 0 2 0 2 (by decide) (by decide)) ckX7_in lkX7_79 ⟨Nat.le_of_ble_eq_true rfl, Nat.le_of_ble_eq_true rfl⟩ rfl dX7_seen_25 (Nat.le_of_ble_eq_true rfl) ?_
      refine mj_if_ne (tgt := 33) dX7_seen_28 rfl (fun h_28 => ?_) (fun h_28 => ?_)
      · rw [bi_nz] at h_28; simp only [inn, decide_eq_true_eq] at h_28
        refine mj_aldn dX7_seen_33 rfl ?_
        refine mj_cvv (K := mX7_know) (c_mknow x n (by omega) hs hvd) ckX7_know lkX7_167 ⟨Nat.le_of_ble_eq_true rfl, Nat.le_of_ble_eq_true rfl⟩ rfl dX7_seen_34 rfl rfl (Nat.le_of_ble_eq_true rfl) (fun x_34 q_34 => ?_)
        subst q_34
        have y334 : mkn x n 39 334 = nI n := by rw [mkn_k (by decide) (by omega)]; exact hs
        have y328 : ∀ i, mkn x n 39 i = x 39 i := fun i => by rw [mkn_k (by decide) (by omega)]
        have y5 : mkn x n 37 5 = x 37 5 := mkn_37 (by decide) (by decide)
        refine mj_iconst dX7_seen_37 ni_0 ?_
        refine mj_ist4 dX7_seen_38 rfl ?_
        refine mj_iconst dX7_seen_40 ni_0 ?_
        refine mj_ist5 dX7_seen_41 rfl ?_
        refine mj_bipush dX7_seen_43 nb_m4 ?_
        refine mj_ist6 dX7_seen_45 rfl ?_
        refine mj_iconst dX7_seen_47 ni_0 ?_
        refine mj_ist7 dX7_seen_48 rfl ?_
        have hok : 0 ≤ a ∧ a ≤ 3 ∧ dr d = true ∧ 0 ≤ w ∧ w ≤ 2 := ⟨h_9.1, h_9.2, h_16, h_28.1, h_28.2⟩
        have loop : ∀ (k j : Nat), j ≤ n → n < j + k → mj_V mX7_seen (shX ++ shM) Q (mkn x n) 50 [some (.ref 37), some (.int a), some (.int d), some (.int w), some (.int (lp_f (m_seenF (mkn x n) a d) (0, 0, -4) j).1), some (.int (lp_f (m_seenF (mkn x n) a d) (0, 0, -4) j).2.1), some (.int (lp_f (m_seenF (mkn x n) a d) (0, 0, -4) j).2.2), some (.int (nI j))] [] := by
          intro k
          induction k with
          | zero => intro j g1 g2; omega
          | succ k ih =>
            intro j h1 h2
            refine mj_ild dX7_seen_50 rfl ?_
            refine mj_aldn dX7_seen_52 rfl ?_
            refine mj_getr fkX7_13 dX7_seen_53 rfl rfl ?_
            refine mj_sipush dX7_seen_56 ns_334 ?_
            refine mj_iald dX7_seen_59 rfl 334 (by decide) rfl (by decide) ?_
            refine mj_ic_ge (tgt := 119) dX7_seen_60 rfl (fun h_60 => ?_) (fun h_60 => ?_)
            · have hj : j = n := by rw [y334, nI_leI (by omega) (by omega)] at h_60; omega
              subst hj
              refine mj_ildn dX7_seen_119 rfl ?_
              refine mj_if_ne (tgt := 128) dX7_seen_120 rfl (fun h_120 => ?_) (fun h_120 => ?_)
              · refine mj_ildn dX7_seen_128 rfl ?_
                refine mj_iconst dX7_seen_129 ni_1 ?_
                refine mj_ic_ne (tgt := 138) dX7_seen_130 rfl (fun h_130 => ?_) (fun h_130 => ?_)
                · refine mj_ild dX7_seen_138 rfl ?_
                  refine mj_ret rfl dX7_seen_140 ?_
                  exact hQ _ _ (by rw [if_pos hok]; exact ⟨by first | rw [if_pos h_120] | rw [if_neg h_120, if_pos h_130] | rw [if_neg h_120, if_neg h_130], rfl⟩)
                · refine mj_ild dX7_seen_133 rfl ?_
                  refine mj_goto (tgt := 140) dX7_seen_135 rfl ?_
                  refine mj_ret rfl dX7_seen_140 ?_
                  exact hQ _ _ (by rw [if_pos hok]; exact ⟨by first | rw [if_pos h_120] | rw [if_neg h_120, if_pos h_130] | rw [if_neg h_120, if_neg h_130], rfl⟩)
              · refine mj_ild dX7_seen_123 rfl ?_
                refine mj_goto (tgt := 140) dX7_seen_125 rfl ?_
                refine mj_ret rfl dX7_seen_140 ?_
                exact hQ _ _ (by rw [if_pos hok]; exact ⟨by first | rw [if_pos h_120] | rw [if_neg h_120, if_pos h_130] | rw [if_neg h_120, if_neg h_130], rfl⟩)
            · have hlt : j < n := by rw [y334, nI_leI (by omega) (by omega)] at h_60; omega
              refine mj_aldn dX7_seen_63 rfl ?_
              refine mj_ild dX7_seen_64 rfl ?_
              refine mj_iconst dX7_seen_66 ni_0 ?_
              refine mj_cvp (K := mX7_of) (c_of (mkn x n) j 0 (by omega)) ckX7_of lkX7_164 ⟨Nat.le_of_ble_eq_true rfl, Nat.le_of_ble_eq_true rfl⟩ rfl dX7_seen_67 rfl rfl (Nat.le_of_ble_eq_true rfl) ?_
              refine mj_ildn dX7_seen_70 rfl ?_
              refine mj_ic_ne (tgt := 113) dX7_seen_71 rfl (fun h_71 => ?_) (fun h_71 => ?_)
              · refine mj_inc7 dX7_seen_113 ni_1 rfl ?_
                refine mj_goto (tgt := 50) dX7_seen_116 rfl ?_
                exact mj_ls (ih (j + 1) (by omega) (by omega)) (by simp [lp_f, nI_1, m_seenF, h_60, h_71])
              · refine mj_aldn dX7_seen_74 rfl ?_
                refine mj_ild dX7_seen_75 rfl ?_
                refine mj_iconst dX7_seen_77 ni_2 ?_
                refine mj_cvp (K := mX7_of) (c_of (mkn x n) j 2 (by omega)) ckX7_of lkX7_164 ⟨Nat.le_of_ble_eq_true rfl, Nat.le_of_ble_eq_true rfl⟩ rfl dX7_seen_78 rfl rfl (Nat.le_of_ble_eq_true rfl) ?_
                refine mj_if_ne (tgt := 113) dX7_seen_81 rfl (fun h_81 => ?_) (fun h_81 => ?_)
                · refine mj_inc7 dX7_seen_113 ni_1 rfl ?_
                  refine mj_goto (tgt := 50) dX7_seen_116 rfl ?_
                  exact mj_ls (ih (j + 1) (by omega) (by omega)) (by simp [lp_f, nI_1, m_seenF, h_60, h_71, h_81])
                · refine mj_aldn dX7_seen_84 rfl ?_
                  refine mj_ildn dX7_seen_85 rfl ?_
                  refine mj_ild dX7_seen_86 rfl ?_
                  refine mj_cvp (K := mX7_isSeen) (c_msee (mkn x n) a j (by omega)) ckX7_isSeen lkX7_252 ⟨Nat.le_of_ble_eq_true rfl, Nat.le_of_ble_eq_true rfl⟩ rfl dX7_seen_88 rfl rfl (Nat.le_of_ble_eq_true rfl) ?_
                  refine mj_if_eq (tgt := 113) dX7_seen_91 rfl (fun h_91 => ?_) (fun h_91 => ?_)
                  · rw [bi_z] at h_91
                    refine mj_inc7 dX7_seen_113 ni_1 rfl ?_
                    refine mj_goto (tgt := 50) dX7_seen_116 rfl ?_
                    exact mj_ls (ih (j + 1) (by omega) (by omega)) (by simp [lp_f, nI_1, m_seenF, h_60, h_71, h_81, h_91])
                  · rw [bi_nz] at h_91
                    refine mj_inc4 dX7_seen_94 ni_1 rfl ?_
                    refine mj_ild dX7_seen_97 rfl ?_
                    refine mj_aldn dX7_seen_99 rfl ?_
                    refine mj_ild dX7_seen_100 rfl ?_
                    refine mj_iconst dX7_seen_102 ni_5 ?_
                    refine mj_cvp (K := mX7_of) (c_of (mkn x n) j 5 (by omega)) ckX7_of lkX7_164 ⟨Nat.le_of_ble_eq_true rfl, Nat.le_of_ble_eq_true rfl⟩ rfl dX7_seen_103 rfl rfl (Nat.le_of_ble_eq_true rfl) ?_
                    refine mj_iadd dX7_seen_106 ?_
                    refine mj_ist5 dX7_seen_107 rfl ?_
                    refine mj_ild dX7_seen_109 rfl ?_
                    refine mj_ist6 dX7_seen_111 rfl ?_
                    refine mj_inc7 dX7_seen_113 ni_1 rfl ?_
                    refine mj_goto (tgt := 50) dX7_seen_116 rfl ?_
                    exact mj_ls (ih (j + 1) (by omega) (by omega)) (by simp [lp_f, nI_1, m_seenF, h_60, h_71, h_81, h_91])
        exact loop (n + 1) 0 (by omega) (by omega)
      · rw [bi_z] at h_28; simp only [inn, decide_eq_false_iff_not] at h_28
        refine mj_iconst dX7_seen_31 ni_m1 ?_
        refine mj_ret rfl dX7_seen_32 ?_
        exact hQ _ _ (by rw [if_neg (by grind)]; exact ⟨rfl, rfl⟩)
set_option maxHeartbeats 1000000 in
theorem q_count (x : mj_X) (n : Nat) (hn : n ≤ 40) (hs : x 39 334 = nI n) (hvd : mvd x n) (nb : Nat) (hb : nb ≤ 82) (hbs : mkn x n 37 19 = nI nb) (w : Int32) : mj_CI mX7_count (shX ++ shM) [.ref 37, .int w] x (fun z y => z = (if w = 0 then x 37 6 else if w = 1 then nI n else if w = 2 then x 37 5 else if w = 3 then x 37 4 else if w = 4 then x 37 0 else if w = 5 then x 39 328 else if w = 6 then x 39 329 else if w = 7 then x 39 330 else if w = 8 then x 39 331 else if w = 9 then x 39 332 else if w = 10 then x 39 333 else if w = 11 then nI nb else -1) ∧ y = (if w = 11 then mkn x n else x)) := by
  refine mj_startI (ls := [some (.ref 37), some (.int w)]) (by decide) rfl rfl (fun Q hQ => ?_)
  refine mj_ildn dX7_count_0 rfl ?_
  by_cases s1_0 : w = 0
  · subst s1_0
    refine mj_tableIn (off := 63) (tgt := 64) dX7_count_1 (by decide) (by decide) (by decide) rfl ?_
    refine mj_aldn dX7_count_64 rfl ?_
    refine mj_geti fkX7_124 dX7_count_65 rfl rfl ?_
    refine mj_ret rfl dX7_count_68 ?_
    exact hQ _ _ ⟨by simp [], by simp []⟩
  by_cases s1_1 : w = 1
  · subst s1_1
    refine mj_tableIn (off := 68) (tgt := 69) dX7_count_1 (by decide) (by decide) (by decide) rfl ?_
    refine mj_aldn dX7_count_69 rfl ?_
    refine mj_getr fkX7_13 dX7_count_70 rfl rfl ?_
    refine mj_sipush dX7_count_73 ns_334 ?_
    refine mj_iald dX7_count_76 rfl 334 (by decide) rfl (by decide) ?_
    refine mj_ret rfl dX7_count_77 ?_
    exact hQ _ _ ⟨by simp [hs], by simp⟩
  by_cases s1_2 : w = 2
  · subst s1_2
    refine mj_tableIn (off := 77) (tgt := 78) dX7_count_1 (by decide) (by decide) (by decide) rfl ?_
    refine mj_aldn dX7_count_78 rfl ?_
    refine mj_geti fkX7_130 dX7_count_79 rfl rfl ?_
    refine mj_ret rfl dX7_count_82 ?_
    exact hQ _ _ ⟨by simp [s1_0, s1_1], by simp [s1_0, s1_1]⟩
  by_cases s1_3 : w = 3
  · subst s1_3
    refine mj_tableIn (off := 82) (tgt := 83) dX7_count_1 (by decide) (by decide) (by decide) rfl ?_
    refine mj_aldn dX7_count_83 rfl ?_
    refine mj_geti fkX7_127 dX7_count_84 rfl rfl ?_
    refine mj_ret rfl dX7_count_87 ?_
    exact hQ _ _ ⟨by simp [s1_0, s1_1, s1_2], by simp [s1_0, s1_1, s1_2]⟩
  by_cases s1_4 : w = 4
  · subst s1_4
    refine mj_tableIn (off := 87) (tgt := 88) dX7_count_1 (by decide) (by decide) (by decide) rfl ?_
    refine mj_aldn dX7_count_88 rfl ?_
    refine mj_geti fkX7_83 dX7_count_89 rfl rfl ?_
    refine mj_ret rfl dX7_count_92 ?_
    exact hQ _ _ ⟨by simp [s1_0, s1_1, s1_2, s1_3], by simp [s1_0, s1_1, s1_2, s1_3]⟩
  by_cases s1_5 : w = 5
  · subst s1_5
    refine mj_tableIn (off := 92) (tgt := 93) dX7_count_1 (by decide) (by decide) (by decide) rfl ?_
    refine mj_aldn dX7_count_93 rfl ?_
    refine mj_ildn dX7_count_94 rfl ?_
    refine mj_iconst dX7_count_95 ni_5 ?_
    refine mj_isub dX7_count_96 ?_
    refine mj_cvp (K := mX7_ruleOf) (c_ruleOf x 0 (by decide)) ckX7_ruleOf lkX7_145 ⟨Nat.le_of_ble_eq_true rfl, Nat.le_of_ble_eq_true rfl⟩ rfl dX7_count_97 rfl rfl (Nat.le_of_ble_eq_true rfl) ?_
    refine mj_ret rfl dX7_count_100 ?_
    exact hQ _ _ ⟨by simp [s1_0, s1_1, s1_2, s1_3, s1_4], by simp [s1_0, s1_1, s1_2, s1_3, s1_4]⟩
  by_cases s1_6 : w = 6
  · subst s1_6
    refine mj_tableIn (off := 92) (tgt := 93) dX7_count_1 (by decide) (by decide) (by decide) rfl ?_
    refine mj_aldn dX7_count_93 rfl ?_
    refine mj_ildn dX7_count_94 rfl ?_
    refine mj_iconst dX7_count_95 ni_5 ?_
    refine mj_isub dX7_count_96 ?_
    refine mj_cvp (K := mX7_ruleOf) (c_ruleOf x 1 (by decide)) ckX7_ruleOf lkX7_145 ⟨Nat.le_of_ble_eq_true rfl, Nat.le_of_ble_eq_true rfl⟩ rfl dX7_count_97 rfl rfl (Nat.le_of_ble_eq_true rfl) ?_
    refine mj_ret rfl dX7_count_100 ?_
    exact hQ _ _ ⟨by simp [s1_0, s1_1, s1_2, s1_3, s1_4, s1_5], by simp [s1_0, s1_1, s1_2, s1_3, s1_4, s1_5]⟩
  by_cases s1_7 : w = 7
  · subst s1_7
    refine mj_tableIn (off := 92) (tgt := 93) dX7_count_1 (by decide) (by decide) (by decide) rfl ?_
    refine mj_aldn dX7_count_93 rfl ?_
    refine mj_ildn dX7_count_94 rfl ?_
    refine mj_iconst dX7_count_95 ni_5 ?_
    refine mj_isub dX7_count_96 ?_
    refine mj_cvp (K := mX7_ruleOf) (c_ruleOf x 2 (by decide)) ckX7_ruleOf lkX7_145 ⟨Nat.le_of_ble_eq_true rfl, Nat.le_of_ble_eq_true rfl⟩ rfl dX7_count_97 rfl rfl (Nat.le_of_ble_eq_true rfl) ?_
    refine mj_ret rfl dX7_count_100 ?_
    exact hQ _ _ ⟨by simp [s1_0, s1_1, s1_2, s1_3, s1_4, s1_5, s1_6], by simp [s1_0, s1_1, s1_2, s1_3, s1_4, s1_5, s1_6]⟩
  by_cases s1_8 : w = 8
  · subst s1_8
    refine mj_tableIn (off := 92) (tgt := 93) dX7_count_1 (by decide) (by decide) (by decide) rfl ?_
    refine mj_aldn dX7_count_93 rfl ?_
    refine mj_ildn dX7_count_94 rfl ?_
    refine mj_iconst dX7_count_95 ni_5 ?_
    refine mj_isub dX7_count_96 ?_
    refine mj_cvp (K := mX7_ruleOf) (c_ruleOf x 3 (by decide)) ckX7_ruleOf lkX7_145 ⟨Nat.le_of_ble_eq_true rfl, Nat.le_of_ble_eq_true rfl⟩ rfl dX7_count_97 rfl rfl (Nat.le_of_ble_eq_true rfl) ?_
    refine mj_ret rfl dX7_count_100 ?_
    exact hQ _ _ ⟨by simp [s1_0, s1_1, s1_2, s1_3, s1_4, s1_5, s1_6, s1_7], by simp [s1_0, s1_1, s1_2, s1_3, s1_4, s1_5, s1_6, s1_7]⟩
  by_cases s1_9 : w = 9
  · subst s1_9
    refine mj_tableIn (off := 92) (tgt := 93) dX7_count_1 (by decide) (by decide) (by decide) rfl ?_
    refine mj_aldn dX7_count_93 rfl ?_
    refine mj_ildn dX7_count_94 rfl ?_
    refine mj_iconst dX7_count_95 ni_5 ?_
    refine mj_isub dX7_count_96 ?_
    refine mj_cvp (K := mX7_ruleOf) (c_ruleOf x 4 (by decide)) ckX7_ruleOf lkX7_145 ⟨Nat.le_of_ble_eq_true rfl, Nat.le_of_ble_eq_true rfl⟩ rfl dX7_count_97 rfl rfl (Nat.le_of_ble_eq_true rfl) ?_
    refine mj_ret rfl dX7_count_100 ?_
    exact hQ _ _ ⟨by simp [s1_0, s1_1, s1_2, s1_3, s1_4, s1_5, s1_6, s1_7, s1_8], by simp [s1_0, s1_1, s1_2, s1_3, s1_4, s1_5, s1_6, s1_7, s1_8]⟩
  by_cases s1_10 : w = 10
  · subst s1_10
    refine mj_tableIn (off := 92) (tgt := 93) dX7_count_1 (by decide) (by decide) (by decide) rfl ?_
    refine mj_aldn dX7_count_93 rfl ?_
    refine mj_ildn dX7_count_94 rfl ?_
    refine mj_iconst dX7_count_95 ni_5 ?_
    refine mj_isub dX7_count_96 ?_
    refine mj_cvp (K := mX7_ruleOf) (c_ruleOf x 5 (by decide)) ckX7_ruleOf lkX7_145 ⟨Nat.le_of_ble_eq_true rfl, Nat.le_of_ble_eq_true rfl⟩ rfl dX7_count_97 rfl rfl (Nat.le_of_ble_eq_true rfl) ?_
    refine mj_ret rfl dX7_count_100 ?_
    exact hQ _ _ ⟨by simp [s1_0, s1_1, s1_2, s1_3, s1_4, s1_5, s1_6, s1_7, s1_8, s1_9], by simp [s1_0, s1_1, s1_2, s1_3, s1_4, s1_5, s1_6, s1_7, s1_8, s1_9]⟩
  by_cases s1_11 : w = 11
  · subst s1_11
    refine mj_tableIn (off := 100) (tgt := 101) dX7_count_1 (by decide) (by decide) (by decide) rfl ?_
    refine mj_aldn dX7_count_101 rfl ?_
    refine mj_cvv (K := mX7_know) (c_mknow x n (by omega) hs hvd) ckX7_know lkX7_167 ⟨Nat.le_of_ble_eq_true rfl, Nat.le_of_ble_eq_true rfl⟩ rfl dX7_count_102 rfl rfl (Nat.le_of_ble_eq_true rfl) (fun x_102 q_102 => ?_)
    subst q_102
    have y334 : mkn x n 39 334 = nI n := by rw [mkn_k (by decide) (by omega)]; exact hs
    have y328 : ∀ i, mkn x n 39 i = x 39 i := fun i => by rw [mkn_k (by decide) (by omega)]
    have y5 : mkn x n 37 5 = x 37 5 := mkn_37 (by decide) (by decide)
    refine mj_aldn dX7_count_105 rfl ?_
    refine mj_geti fkX7_199 dX7_count_106 rfl rfl ?_
    refine mj_ret rfl dX7_count_109 ?_
    exact hQ _ _ ⟨by simp [hbs], by simp⟩
  refine mj_tableOut (tgt := 110) dX7_count_1 (by have u0 := ti_ne s1_0; rw [tl_0] at u0; have u1 := ti_ne s1_1; rw [tl_1] at u1; have u2 := ti_ne s1_2; rw [tl_2] at u2; have u3 := ti_ne s1_3; rw [tl_3] at u3; have u4 := ti_ne s1_4; rw [tl_4] at u4; have u5 := ti_ne s1_5; rw [tl_5] at u5; have u6 := ti_ne s1_6; rw [tl_6] at u6; have u7 := ti_ne s1_7; rw [tl_7] at u7; have u8 := ti_ne s1_8; rw [tl_8] at u8; have u9 := ti_ne s1_9; rw [tl_9] at u9; have u10 := ti_ne s1_10; rw [tl_10] at u10; have u11 := ti_ne s1_11; rw [tl_11] at u11; omega) rfl ?_
  refine mj_iconst dX7_count_110 ni_m1 ?_
  refine mj_ret rfl dX7_count_111 ?_
  exact hQ _ _ ⟨by simp [s1_0, s1_1, s1_2, s1_3, s1_4, s1_5, s1_6, s1_7, s1_8, s1_9, s1_10, s1_11], by simp [s1_0, s1_1, s1_2, s1_3, s1_4, s1_5, s1_6, s1_7, s1_8, s1_9, s1_10, s1_11]⟩
set_option maxHeartbeats 1000000 in
theorem q_would (x : mj_X) (n : Nat) (hn : n ≤ 40) (hs : x 39 334 = nI n) (k0 : Nat) (hk : k0 ≤ 6) (hks : x 37 6 = nI k0) (d o c : Int32) (h1 : m_ofok x k0 d o c = true → mdok x n d) (h2 : m_ofok x k0 d o c = true → mdok (mcm (mkn x n) n d 0 o c 0 (mkn x n 41 c.toNatClampNeg)) (n + 1) d) : mj_CI mX7_would (shX ++ shM) [.ref 37, .int d, .int o, .int c] x (fun z y => if m_ofok x k0 d o c = false then z = -1 ∧ y = x else ∃ a b, mdays x n d a ∧ mdays (mcm (mkn x n) n d 0 o c 0 (mkn x n 41 c.toNatClampNeg)) (n + 1) d b ∧ z = b - a ∧ y = mj_up (mj_up (mkn (mcm (mkn x n) n d 0 o c 0 (mkn x n 41 c.toNatClampNeg)) (n + 1)) 39 334 (nI n)) 37 15 0) := by
  refine mj_startI (ls := [some (.ref 37), some (.int d), some (.int o), some (.int c), none, none]) (by decide) rfl rfl (fun Q hQ => ?_)
  refine mj_ildn dX7_would_0 rfl ?_
  refine mj_csp (K := mX7_isDriver) (c_mdr _ x d) ckX7_isDriver lkX7_157 ⟨Nat.le_of_ble_eq_true rfl, Nat.le_of_ble_eq_true rfl⟩ rfl dX7_would_1 (Nat.le_of_ble_eq_true rfl) ?_
  refine mj_if_eq (tgt := 29) dX7_would_4 rfl (fun h_4 => ?_) (fun h_4 => ?_)
  · rw [bi_z] at h_4
    refine mj_iconst dX7_would_29 ni_m1 ?_
    refine mj_ret rfl dX7_would_30 ?_
    exact hQ _ _ (by rw [if_pos (by unfold m_ofok; simp only [decide_eq_false_iff_not]; grind)]; exact ⟨rfl, rfl⟩)
  · rw [bi_nz] at h_4
    refine mj_ildn dX7_would_7 rfl ?_
    refine mj_i2l dX7_would_8 ?_
    refine mj_lconst dX7_would_9 nl_0 ?_
    refine mj_aldn dX7_would_10 rfl ?_
    refine mj_geti fkX7_130 dX7_would_11 rfl rfl ?_
    refine mj_i2l dX7_would_14 ?_
    refine mj_csp (K := mX7_in) (c_in _ x o 0 (x 37 5) 0 _ (by decide) rfl) ckX7_in lkX7_79 ⟨Nat.le_of_ble_eq_true rfl, Nat.le_of_ble_eq_true rfl⟩ rfl dX7_would_15 (Nat.le_of_ble_eq_true rfl) ?_
    refine mj_if_eq (tgt := 29) dX7_would_18 rfl (fun h_18 => ?_) (fun h_18 => ?_)
    · rw [bi_z] at h_18; simp only [inn, decide_eq_false_iff_not] at h_18
      refine mj_iconst dX7_would_29 ni_m1 ?_
      refine mj_ret rfl dX7_would_30 ?_
      exact hQ _ _ (by rw [if_pos (by unfold m_ofok; simp only [decide_eq_false_iff_not]; grind)]; exact ⟨rfl, rfl⟩)
    · rw [bi_nz] at h_18; simp only [inn, decide_eq_true_eq] at h_18
      refine mj_aldn dX7_would_21 rfl ?_
      refine mj_ildn dX7_would_22 rfl ?_
      refine mj_cvp (K := mX7_isCode) (c_misc x k0 hk hks c) ckX7_isCode lkX7_151 ⟨Nat.le_of_ble_eq_true rfl, Nat.le_of_ble_eq_true rfl⟩ rfl dX7_would_23 rfl rfl (Nat.le_of_ble_eq_true rfl) ?_
      refine mj_if_ne (tgt := 31) dX7_would_26 rfl (fun h_26 => ?_) (fun h_26 => ?_)
      · rw [bi_nz] at h_26; simp only [ru_hc, decide_eq_true_eq] at h_26
        obtain ⟨j, hj, rfl⟩ := ix_of (n := k0) (a := c) (by omega) h_26.1 h_26.2
        have ec := nI_clamp (n := j) (by omega)
        have hok : m_ofok x k0 d o (nI j) = true := by unfold m_ofok; simp only [decide_eq_true_eq]; exact ⟨h_4, h_18.1, h_18.2, h_26.1, h_26.2⟩
        have h1 := h1 hok
        have h2 := h2 hok
        rw [ec] at h2 hQ
        refine mj_aldn dX7_would_31 rfl ?_
        refine mj_ildn dX7_would_32 rfl ?_
        refine mj_cvi (K := mX7_daysOf) (c_mdays2 x n (by omega) hs d h1) ckX7_daysOf lkX7_179 ⟨Nat.le_of_ble_eq_true rfl, Nat.le_of_ble_eq_true rfl⟩ rfl dX7_would_33 rfl rfl (Nat.le_of_ble_eq_true rfl) (fun z_33 x_33 q_33 => ?_)
        obtain ⟨g1, rfl⟩ := q_33
        refine mj_ist4 dX7_would_36 rfl ?_
        refine mj_aldn dX7_would_38 rfl ?_
        refine mj_ildn dX7_would_39 rfl ?_
        refine mj_iconst dX7_would_40 ni_0 ?_
        refine mj_ildn dX7_would_41 rfl ?_
        refine mj_ildn dX7_would_42 rfl ?_
        refine mj_iconst dX7_would_43 ni_0 ?_
        refine mj_cvv (K := mX7_comes) (c_mcomes (mkn x n) n hn (by rw [mkn_k (by decide) (by omega)]; exact hs) d 0 o j (by omega) 0) ckX7_comes lkX7_160 ⟨Nat.le_of_ble_eq_true rfl, Nat.le_of_ble_eq_true rfl⟩ rfl dX7_would_44 rfl rfl (Nat.le_of_ble_eq_true rfl) (fun x_44 q_44 => ?_)
        rw [if_pos rfl] at q_44
        subst q_44
        refine mj_aldn dX7_would_47 rfl ?_
        refine mj_ildn dX7_would_48 rfl ?_
        refine mj_cvi (K := mX7_daysOf) (c_mdays2 _ (n + 1) (by omega) mcm_many d h2) ckX7_daysOf lkX7_179 ⟨Nat.le_of_ble_eq_true rfl, Nat.le_of_ble_eq_true rfl⟩ rfl dX7_would_49 rfl rfl (Nat.le_of_ble_eq_true rfl) (fun z_49 x_49 q_49 => ?_)
        obtain ⟨g2, rfl⟩ := q_49
        have e9 : mkn (mcm (mkn x n) n d 0 o (nI j) 0 (mkn x n 41 j)) (n + 1) 39 334 - 1 = nI n := by rw [mkn_k (by decide) (by omega), mcm_many]; exact nI_pred n
        refine mj_ist5 dX7_would_52 rfl ?_
        refine mj_aldn dX7_would_54 rfl ?_
        refine mj_getr fkX7_13 dX7_would_55 rfl rfl ?_
        refine mj_sipush dX7_would_58 ns_334 ?_
        refine mj_dup2 dX7_would_61 ?_
        refine mj_iald dX7_would_62 rfl 334 (by decide) rfl (by decide) ?_
        refine mj_iconst dX7_would_63 ni_1 ?_
        refine mj_isub dX7_would_64 ?_
        rw [e9]
        refine mj_iast dX7_would_65 rfl 334 (by decide) rfl (by decide) ?_
        refine mj_aldn dX7_would_66 rfl ?_
        refine mj_iconst dX7_would_67 ni_0 ?_
        refine mj_putz fkX7_133 pkX7_15 (by decide) dX7_would_68 rfl rfl ?_
        refine mj_ild dX7_would_71 rfl ?_
        refine mj_ild dX7_would_73 rfl ?_
        refine mj_isub dX7_would_75 ?_
        refine mj_ret rfl dX7_would_76 ?_
        exact hQ _ _ (by rw [if_neg (by rw [hok]; decide)]; exact ⟨z_33, z_49, g1, g2, rfl, rfl⟩)
      · rw [bi_z] at h_26; simp only [ru_hc, decide_eq_false_iff_not] at h_26
        refine mj_iconst dX7_would_29 ni_m1 ?_
        refine mj_ret rfl dX7_would_30 ?_
        exact hQ _ _ (by rw [if_pos (by unfold m_ofok; simp only [decide_eq_false_iff_not]; grind)]; exact ⟨rfl, rfl⟩)
def m_cno (y : mj_X) (nb n : Nat) (d w : Int32) : Prop := if w = 0 then lp_any (mwl y d) n = true else lp_f (mshF y d (y 37 5)) (-4) nb = -4
set_option maxHeartbeats 1000000 in
theorem q_course (x : mj_X) (n : Nat) (hn : n ≤ 40) (hs : x 39 334 = nI n) (u : Nat) (hu : u ≤ 6) (hus : x 37 4 = nI u) (hvd : mvd x n) (nb : Nat) (hb : nb ≤ 82) (hbs : mkn x n 37 19 = nI nb) (d w : Int32) : mj_CI mX7_course (shX ++ shM) [.ref 37, .int d, .int w] x (fun z y => if ¬ (dr d = true ∧ 0 ≤ w ∧ w ≤ 1) then z = -1 ∧ y = x else if n = 40 then z = -3 ∧ y = x else (m_cno (mkn x n) nb n d w → z = -2 ∧ y = mkn x n) ∧ (¬ m_cno (mkn x n) nb n d w → z = nI n ∧ mcame (mkn x n) y u n d (w + 1) 0 0 0)) := by
  refine mj_startI (ls := [some (.ref 37), some (.int d), some (.int w)]) (by decide) rfl rfl (fun Q hQ => ?_)
  have fin : dr d = true ∧ 0 ≤ w ∧ w ≤ 1 → ¬ n = 40 → ¬ m_cno (mkn x n) nb n d w → mj_V mX7_course (shX ++ shM) Q (mkn x n) 71 [some (.ref 37), some (.int d), some (.int w)] [] := by
    intro hok h40 hc
    have hw0 : ¬ w + 1 = 0 := by grind
    refine mj_aldn dX7_course_71 rfl ?_
    refine mj_cvv (K := mX7_note) (c_mnote (mkn x n) u hu (by rw [mkn_37 (by decide) (by decide)]; exact hus)) ckX7_note lkX7_148 ⟨Nat.le_of_ble_eq_true rfl, Nat.le_of_ble_eq_true rfl⟩ rfl dX7_course_72 rfl rfl (Nat.le_of_ble_eq_true rfl) (fun x_72 q_72 => ?_)
    refine mj_aldn dX7_course_75 rfl ?_
    refine mj_ildn dX7_course_76 rfl ?_
    refine mj_ildn dX7_course_77 rfl ?_
    refine mj_iconst dX7_course_78 ni_1 ?_
    refine mj_iadd dX7_course_79 ?_
    refine mj_iconst dX7_course_80 ni_0 ?_
    refine mj_iconst dX7_course_81 ni_0 ?_
    refine mj_iconst dX7_course_82 ni_0 ?_
    refine mj_cvv (K := mX7_comes) (c_mcomes x_72 n hn (by rw [q_72.2.2.2.2.2 39 (by decide) (by decide), mkn_k (by decide) (by omega)]; exact hs) d (w + 1) 0 0 (by decide) 0) ckX7_comes lkX7_160 ⟨Nat.le_of_ble_eq_true rfl, Nat.le_of_ble_eq_true rfl⟩ rfl dX7_course_83 rfl rfl (Nat.le_of_ble_eq_true rfl) (fun x_83 q_83 => ?_)
    refine mj_aldn dX7_course_86 rfl ?_
    refine mj_getr fkX7_13 dX7_course_87 rfl rfl ?_
    refine mj_sipush dX7_course_90 ns_334 ?_
    refine mj_iald dX7_course_93 rfl 334 (by decide) rfl (by decide) ?_
    refine mj_iconst dX7_course_94 ni_1 ?_
    refine mj_isub dX7_course_95 ?_
    refine mj_ret rfl dX7_course_96 ?_
    have e9 : x_83 39 334 - 1 = nI n := by rw [q_83, mcm_many]; exact nI_pred n
    rw [e9]; exact hQ _ _ (by rw [if_neg (fun h => h hok), if_neg h40]; exact ⟨fun h => absurd h hc, fun _ => ⟨rfl, x_72, q_72, by rw [q_83, if_neg hw0, if_neg hw0]; rfl⟩⟩)
  have no : dr d = true ∧ 0 ≤ w ∧ w ≤ 1 → ¬ n = 40 → m_cno (mkn x n) nb n d w → mj_V mX7_course (shX ++ shM) Q (mkn x n) 68 [some (.ref 37), some (.int d), some (.int w)] [] := by
    intro hok h40 hc
    refine mj_bipush dX7_course_68 nb_m2 ?_
    refine mj_ret rfl dX7_course_70 ?_
    exact hQ _ _ (by rw [if_neg (fun h => h hok), if_neg h40]; exact ⟨fun _ => ⟨rfl, rfl⟩, fun h => absurd hc h⟩)
  refine mj_ildn dX7_course_0 rfl ?_
  refine mj_csp (K := mX7_isDriver) (c_mdr _ x d) ckX7_isDriver lkX7_157 ⟨Nat.le_of_ble_eq_true rfl, Nat.le_of_ble_eq_true rfl⟩ rfl dX7_course_1 (Nat.le_of_ble_eq_true rfl) ?_
  refine mj_if_eq (tgt := 17) dX7_course_4 rfl (fun h_4 => ?_) (fun h_4 => ?_)
  · rw [bi_z] at h_4
    refine mj_iconst dX7_course_17 ni_m1 ?_
    refine mj_ret rfl dX7_course_18 ?_
    exact hQ _ _ (by rw [if_pos (by grind)]; exact ⟨rfl, rfl⟩)
  · rw [bi_nz] at h_4
    refine mj_ildn dX7_course_7 rfl ?_
    refine mj_i2l dX7_course_8 ?_
    refine mj_lconst dX7_course_9 nl_0 ?_
    refine mj_lconst dX7_course_10 nl_1 ?_
    refine mj_csp (K := mX7_in) (c_in _ x w 0 1 0 1 (by decide) (by decide)) ckX7_in lkX7_79 ⟨Nat.le_of_ble_eq_true rfl, Nat.le_of_ble_eq_true rfl⟩ rfl dX7_course_11 (Nat.le_of_ble_eq_true rfl) ?_
    refine mj_if_ne (tgt := 19) dX7_course_14 rfl (fun h_14 => ?_) (fun h_14 => ?_)
    · rw [bi_nz] at h_14; simp only [inn, decide_eq_true_eq] at h_14
      refine mj_aldn dX7_course_19 rfl ?_
      refine mj_getr fkX7_13 dX7_course_20 rfl rfl ?_
      refine mj_sipush dX7_course_23 ns_334 ?_
      refine mj_iald dX7_course_26 rfl 334 (by decide) rfl (by decide) ?_
      refine mj_bipush dX7_course_27 nb_40 ?_
      refine mj_ic_ne (tgt := 35) dX7_course_29 rfl (fun h_29 => ?_) (fun h_29 => ?_)
      · have h40 : ¬ n = 40 := fun h => h_29 (by rw [hs, h]; rfl)
        have hok : dr d = true ∧ 0 ≤ w ∧ w ≤ 1 := ⟨h_4, h_14.1, h_14.2⟩
        refine mj_aldn dX7_course_35 rfl ?_
        refine mj_cvv (K := mX7_know) (c_mknow x n (by omega) hs hvd) ckX7_know lkX7_167 ⟨Nat.le_of_ble_eq_true rfl, Nat.le_of_ble_eq_true rfl⟩ rfl dX7_course_36 rfl rfl (Nat.le_of_ble_eq_true rfl) (fun x_36 q_36 => ?_)
        subst q_36
        have y334 : mkn x n 39 334 = nI n := by rw [mkn_k (by decide) (by omega)]; exact hs
        have y328 : ∀ i, mkn x n 39 i = x 39 i := fun i => by rw [mkn_k (by decide) (by omega)]
        have y5 : mkn x n 37 5 = x 37 5 := mkn_37 (by decide) (by decide)
        refine mj_ildn dX7_course_39 rfl ?_
        refine mj_if_ne (tgt := 54) dX7_course_40 rfl (fun h_40 => ?_) (fun h_40 => ?_)
        · refine mj_aldn dX7_course_54 rfl ?_
          refine mj_ildn dX7_course_55 rfl ?_
          refine mj_aldn dX7_course_56 rfl ?_
          refine mj_geti fkX7_130 dX7_course_57 rfl rfl ?_
          refine mj_cvp (K := mX7_toShorten) (c_mtosh (mkn x n) nb hb hbs d (mkn x n 37 5)) ckX7_toShorten lkX7_173 ⟨Nat.le_of_ble_eq_true rfl, Nat.le_of_ble_eq_true rfl⟩ rfl dX7_course_60 rfl rfl (Nat.le_of_ble_eq_true rfl) ?_
          refine mj_bipush dX7_course_63 nb_m4 ?_
          refine mj_ic_ne (tgt := 71) dX7_course_65 rfl (fun h_65 => ?_) (fun h_65 => ?_)
          · exact fin hok h40 (by unfold m_cno; rw [if_neg h_40]; exact h_65)
          · exact no hok h40 (by unfold m_cno; rw [if_neg h_40]; exact h_65)
        · refine mj_aldn dX7_course_43 rfl ?_
          refine mj_ildn dX7_course_44 rfl ?_
          refine mj_cvp (K := mX7_wasLight) (c_mwl (mkn x n) n (by omega) y334 d) ckX7_wasLight lkX7_170 ⟨Nat.le_of_ble_eq_true rfl, Nat.le_of_ble_eq_true rfl⟩ rfl dX7_course_45 rfl rfl (Nat.le_of_ble_eq_true rfl) ?_
          refine mj_if_eq (tgt := 71) dX7_course_48 rfl (fun h_48 => ?_) (fun h_48 => ?_)
          · rw [bi_z] at h_48
            exact fin hok h40 (by unfold m_cno; rw [if_pos h_40, h_48]; decide)
          · rw [bi_nz] at h_48
            refine mj_goto (tgt := 68) dX7_course_51 rfl ?_
            exact no hok h40 (by unfold m_cno; rw [if_pos h_40]; exact h_48)
      · have h40 : n = 40 := by rw [hs] at h_29; exact (nI_eq (a := n) (b := 40) (by omega) (by decide)).mp h_29
        refine mj_bipush dX7_course_32 nb_m3 ?_
        refine mj_ret rfl dX7_course_34 ?_
        exact hQ _ _ (by rw [if_neg (fun h => h ⟨h_4, h_14.1, h_14.2⟩), if_pos h40]; exact ⟨rfl, rfl⟩)
    · rw [bi_z] at h_14; simp only [inn, decide_eq_false_iff_not] at h_14
      refine mj_iconst dX7_course_17 ni_m1 ?_
      refine mj_ret rfl dX7_course_18 ?_
      exact hQ _ _ (by rw [if_pos (by grind)]; exact ⟨rfl, rfl⟩)
/-- one draw of a year, in the reference -/
def mstep (y z : mj_X) (n u k t w : Nat) : Prop := if n < 40 then ∃ v, mno (mj_up y 37 5 (nI (lt_t t w))) v u ∧ z = mcm v n (nI (w / 16 % 4)) 0 (nI (lt_o t w)) (nI (w / 64 % k)) 0 (v 41 (w / 64 % k)) else z = mj_up y 37 5 (nI (lt_t t w))
def mfacts (y : mj_X) (n u k t : Nat) : Prop := n ≤ 40 ∧ y 39 334 = nI n ∧ u ≤ 6 ∧ y 37 4 = nI u ∧ 1 ≤ k ∧ k ≤ 6 ∧ y 37 6 = nI k ∧ t ≤ 9999 ∧ y 37 5 = nI t
set_option maxHeartbeats 1000000 in
theorem q_yearB (x : mj_X) (z m : Int32) (hb : ¬ (0 ≤ z ∧ z ≤ 9999 ∧ 1 ≤ m ∧ m ≤ 20)) : mj_CP mX7_year (shX ++ shM) [.ref 37, .int z, .int m] x (-1) := by
  refine mj_startP (ls := [some (.ref 37), some (.int z), some (.int m), none, none, none, none, none, none]) (by decide) rfl rfl (fun Q hQ => ?_)
  refine mj_ildn dX7_year_0 rfl ?_
  refine mj_i2l dX7_year_1 ?_
  refine mj_lconst dX7_year_2 nl_0 ?_
  refine mj_ldc2 kkX7_155 dX7_year_3 ?_
  refine mj_csp (K := mX7_in) (c_in _ x z 0 9999 0 9999 (by decide) (by decide)) ckX7_in lkX7_79 ⟨Nat.le_of_ble_eq_true rfl, Nat.le_of_ble_eq_true rfl⟩ rfl dX7_year_6 (Nat.le_of_ble_eq_true rfl) ?_
  refine mj_if_eq (tgt := 24) dX7_year_9 rfl (fun h_9 => ?_) (fun h_9 => ?_)
  · rw [bi_z] at h_9; simp only [inn, decide_eq_false_iff_not] at h_9
    refine mj_iconst dX7_year_24 ni_m1 ?_
    refine mj_ret rfl dX7_year_25 ?_
    exact hQ
  · rw [bi_nz] at h_9; simp only [inn, decide_eq_true_eq] at h_9
    refine mj_ildn dX7_year_12 rfl ?_
    refine mj_i2l dX7_year_13 ?_
    refine mj_lconst dX7_year_14 nl_1 ?_
    refine mj_ldc2 kkX7_191 dX7_year_15 ?_
    refine mj_csp (K := mX7_in) (c_in _ x m 1 20 1 20 (by decide) (by decide)) ckX7_in lkX7_79 ⟨Nat.le_of_ble_eq_true rfl, Nat.le_of_ble_eq_true rfl⟩ rfl dX7_year_18 (Nat.le_of_ble_eq_true rfl) ?_
    refine mj_if_ne (tgt := 26) dX7_year_21 rfl (fun h_21 => ?_) (fun h_21 => ?_)
    · rw [bi_nz] at h_21; simp only [inn, decide_eq_true_eq] at h_21
      exact absurd ⟨h_9.1, h_9.2, h_21.1, h_21.2⟩ hb
    · rw [bi_z] at h_21; simp only [inn, decide_eq_false_iff_not] at h_21
      refine mj_iconst dX7_year_24 ni_m1 ?_
      refine mj_ret rfl dX7_year_25 ?_
      exact hQ
set_option maxHeartbeats 1000000 in
theorem q_year (x : mj_X) (I : Nat → Nat → mj_X → Prop) (z m : Nat) (hz : z ≤ 9999) (hm1 : 1 ≤ m) (hm : m ≤ 20) (h0 : I 0 0 x) (hf : ∀ i c y, I i c y → c ≤ i ∧ ∃ n u k t, mfacts y n u k t) (hst : ∀ i c y n u k t, i < m → I i c y → mfacts y n u k t → ∀ y2, mstep y y2 n u k t (yr_w z i) → I (i + 1) (if n < 40 then c + 1 else c) y2) : mj_CI mX7_year (shX ++ shM) [.ref 37, .int (nI z), .int (nI m)] x (fun r y => ∃ c, I m c y ∧ r = nI c) := by
  refine mj_startI (ls := [some (.ref 37), some (.int (nI z)), some (.int (nI m)), none, none, none, none, none, none]) (by decide) rfl rfl (fun Q hQ => ?_)
  have loop : ∀ (k j c : Nat) (y : mj_X) (w5 w7 w8 : Option Value), j ≤ m → m < j + k → I j c y → mj_V mX7_year (shX ++ shM) Q y 31 [some (.ref 37), some (.int (nI z)), some (.int (nI m)), some (.int (nI c)), some (.int (nI j)), w5, none, w7, w8] [] := by
    intro k
    induction k with
    | zero => intro j c y w5 w7 w8 h1 h2; omega
    | succ k ih =>
      intro j c y w5 w7 w8 h1 h2 hy
      obtain ⟨hc, n, u, k0, t, hfa⟩ := hf j c y hy
      obtain ⟨hn, hns, hu, hus, hk1, hk6, hks, ht, hts⟩ := id hfa
      refine mj_ild dX7_year_31 rfl ?_
      refine mj_ildn dX7_year_33 rfl ?_
      refine mj_ic_ge (tgt := 179) dX7_year_34 rfl (fun h_34 => ?_) (fun h_34 => ?_)
      · have hj : j = m := by rw [nI_leI (by omega) (by omega)] at h_34; omega
        subst hj
        refine mj_ildn dX7_year_179 rfl ?_
        refine mj_ret rfl dX7_year_180 ?_
        exact hQ _ _ ⟨c, hy, rfl⟩
      · have hlt : j < m := by rw [nI_leI (by omega) (by omega)] at h_34; omega
        have e1 : (7919 : Int64) * (nI z).toInt64 = lN (7919 * z) := by rw [nI_l (by omega)]; exact lN_mul 7919 z
        have e2 : (6151 : Int64) * (nI j).toInt64 = lN (6151 * j) := by rw [nI_l (by omega)]; exact lN_mul 6151 j
        have hb := yr_bd hz (show j < 20 by omega)
        have e3 : lN (7919 * z + 6151 * j + 1) * lN (7919 * z + 6151 * j + 1) - lN (7919 * z + 6151 * j + 1) * lN (7919 * z + 6151 * j + 1) / 65521 * 65521 = lN (yr_w z j) := by rw [lN_mul]; exact pk_lRem (b := 65521) hb (by decide) (by decide)
        have hw2 := yr_lt z j
        have hst9 := hst j c y n u k0 t hlt hy hfa
        generalize yr_w z j = w at e3 hw2 hst9
        have r16 : nI w - nI w / 16 * 16 = nI (w % 16) := pk_rem (d := 16) (by omega) (by decide) (by decide)
        have hlt9 : lt_t t w ≤ 9999 := by unfold lt_t; omega
        have eadd : y 37 5 + nI (w % 16) = nI (t + w % 16) := by rw [hts, nI_add]
        have d64 : nI w / 64 = nI (w / 64) := pk_div (d := 64) (by omega) (by decide) (by decide)
        have d256 : nI w / 256 = nI (w / 256) := pk_div (d := 256) (by omega) (by decide) (by decide)
        have d16 : nI w / 16 = nI (w / 16) := pk_div (d := 16) (by omega) (by decide) (by decide)
        have rk : nI (w / 64) - nI (w / 64) / nI k0 * nI k0 = nI (w / 64 % k0) := pk_rem (by omega) (by omega) (by omega)
        have r32 : nI (w / 256) - nI (w / 256) / 32 * 32 = nI (w / 256 % 32) := pk_rem (d := 32) (by omega) (by decide) (by decide)
        have r4 : nI (w / 16) - nI (w / 16) / 4 * 4 = nI (w / 16 % 4) := pk_rem (d := 4) (by omega) (by decide) (by decide)
        have hj6 : w / 64 % k0 < k0 := Nat.mod_lt _ (by omega)
        refine mj_ldc2 kkX7_193 dX7_year_37 ?_
        refine mj_ildn dX7_year_40 rfl ?_
        refine mj_i2l dX7_year_41 ?_
        refine mj_lmul dX7_year_42 ?_
        rw [e1]
        refine mj_ldc2 kkX7_195 dX7_year_43 ?_
        refine mj_ild dX7_year_46 rfl ?_
        refine mj_i2l dX7_year_48 ?_
        refine mj_lmul dX7_year_49 ?_
        rw [e2]
        refine mj_ladd dX7_year_50 ?_
        rw [lN_add]
        refine mj_lconst dX7_year_51 nl_1 ?_
        refine mj_ladd dX7_year_52 ?_
        rw [show lN (7919 * z + 6151 * j) + 1 = lN (7919 * z + 6151 * j + 1) from lN_add _ 1]
        refine mj_lst dX7_year_53 (by simp) (fun j hj => by cases hj; rfl) ?_
        refine mj_ls (ls' := [some (.ref 37), some (.int (nI z)), some (.int (nI m)), some (.int (nI c)), some (.int (nI j)), some (.long (lN (7919 * z + 6151 * j + 1))), none, w7, w8]) ?_ rfl
        refine mj_lld dX7_year_55 rfl ?_
        refine mj_lld dX7_year_57 rfl ?_
        refine mj_lmul dX7_year_59 ?_
        refine mj_ldc2 kkX7_197 dX7_year_60 ?_
        refine mj_lrem dX7_year_63 (by decide) ?_
        rw [e3]
        refine mj_l2i dX7_year_64 ?_
        rw [lN_i]
        refine mj_ist7 dX7_year_65 rfl ?_
        refine mj_aldn dX7_year_67 rfl ?_
        refine mj_aldn dX7_year_68 rfl ?_
        refine mj_geti fkX7_130 dX7_year_69 rfl rfl ?_
        refine mj_ild dX7_year_72 rfl ?_
        refine mj_bipush dX7_year_74 nb_16 ?_
        refine mj_irem dX7_year_76 (by decide) ?_
        rw [r16]
        refine mj_iadd dX7_year_77 ?_
        rw [eadd]
        refine mj_sipush dX7_year_78 ns_9999 ?_
        refine mj_ic_le (tgt := 90) dX7_year_81 rfl (fun h_81 => ?_) (fun h_81 => ?_)
        · have ht9 : lt_t t w = t + w % 16 := by have := (nI_leI (a := t + w % 16) (b := 9999) (by omega) (by decide)).mp h_81; unfold lt_t; omega
          refine mj_aldn dX7_year_90 rfl ?_
          refine mj_geti fkX7_130 dX7_year_91 rfl rfl ?_
          refine mj_ild dX7_year_94 rfl ?_
          refine mj_bipush dX7_year_96 nb_16 ?_
          refine mj_irem dX7_year_98 (by decide) ?_
          rw [r16]
          refine mj_iadd dX7_year_99 ?_
          have ev : ∀ v : Int32, v = nI (lt_t t w) → mj_up y 37 5 v = mj_up y 37 5 (nI (lt_t t w)) := fun v h => by rw [h]
          refine mj_ss (st' := [.int (nI (lt_t t w)), .ref 37]) ?_ (by rw [ht9]; first | rfl | rw [eadd])
          refine mj_puti fkX7_130 pkX7_5 dX7_year_100 rfl rfl ?_
          have y5 : mj_up y 37 5 (nI (lt_t t w)) 37 5 = nI (lt_t t w) := by rw [up_eq, upd_eq]
          have y334 : mj_up y 37 5 (nI (lt_t t w)) 39 334 = nI n := hns
          have eo := nI_msub (a := lt_t t w) (b := w / 256 % 32) (by omega) (by omega)
          refine mj_aldn dX7_year_103 rfl ?_
          refine mj_geti fkX7_130 dX7_year_104 rfl rfl ?_
          rw [y5]
          refine mj_ild dX7_year_107 rfl ?_
          refine mj_sipush dX7_year_109 ns_256 ?_
          refine mj_idiv dX7_year_112 (by decide) ?_
          rw [d256]
          refine mj_bipush dX7_year_113 nb_32 ?_
          refine mj_irem dX7_year_115 (by decide) ?_
          rw [r32]
          refine mj_isub dX7_year_116 ?_
          refine mj_ist8 dX7_year_117 rfl ?_
          refine mj_aldn dX7_year_119 rfl ?_
          refine mj_getr fkX7_13 dX7_year_120 rfl rfl ?_
          refine mj_sipush dX7_year_123 ns_334 ?_
          refine mj_iald dX7_year_126 rfl 334 (by decide) rfl (by decide) ?_
          refine mj_bipush dX7_year_127 nb_40 ?_
          refine mj_ic_ge (tgt := 173) dX7_year_129 rfl (fun h_129 => ?_) (fun h_129 => ?_)
          · have h40 : ¬ n < 40 := by rw [y334] at h_129; have := (nI_leI (a := 40) (b := n) (by decide) (by omega)).mp h_129; omega
            refine mj_inc4 dX7_year_173 ni_1 rfl ?_
            refine mj_goto (tgt := 31) dX7_year_176 rfl ?_
            have i9 := hst9 _ (by unfold mstep; rw [if_neg h40])
            rw [if_neg h40] at i9
            exact mj_ls (ih (j + 1) c _ _ _ _ (by omega) (by omega) i9) (by rw [nI_1])
          · have h40 : n < 40 := by rw [y334] at h_129; have := mt (nI_leI (a := 40) (b := n) (by decide) (by omega)).mpr h_129; omega
            refine mj_aldn dX7_year_132 rfl ?_
            refine mj_cvv (K := mX7_note) (c_mnote (mj_up y 37 5 (nI (lt_t t w))) u hu hus) ckX7_note lkX7_148 ⟨Nat.le_of_ble_eq_true rfl, Nat.le_of_ble_eq_true rfl⟩ rfl dX7_year_133 rfl rfl (Nat.le_of_ble_eq_true rfl) (fun x_133 q_133 => ?_)
            refine mj_aldn dX7_year_136 rfl ?_
            refine mj_ild dX7_year_137 rfl ?_
            refine mj_bipush dX7_year_139 nb_16 ?_
            refine mj_idiv dX7_year_141 (by decide) ?_
            rw [d16]
            refine mj_iconst dX7_year_142 ni_4 ?_
            refine mj_irem dX7_year_143 (by decide) ?_
            rw [r4]
            refine mj_iconst dX7_year_144 ni_0 ?_
            refine mj_ild dX7_year_145 rfl ?_
            refine mj_if_ge (tgt := 154) dX7_year_147 rfl (fun h_147 => ?_) (fun h_147 => ?_)
            · have eo2 : nI (lt_t t w) - nI (w / 256 % 32) = nI (lt_o t w) := by unfold lt_o; rw [← eo]; split <;> grind
              refine mj_ild dX7_year_154 rfl ?_
              refine mj_ss (st' := [.int (nI (lt_o t w)), .int 0, .int (nI (w / 16 % 4)), .ref 37]) ?_ (by rw [eo2])
              refine mj_ild dX7_year_156 rfl ?_
              refine mj_bipush dX7_year_158 nb_64 ?_
              refine mj_idiv dX7_year_160 (by decide) ?_
              rw [d64]
              refine mj_aldn dX7_year_161 rfl ?_
              refine mj_geti fkX7_124 dX7_year_162 rfl rfl ?_
              refine mj_irem dX7_year_165 (by rw [q_133.2.2.2.2.1 6 (by decide) (by decide)]; show ¬ y 37 6 = 0; rw [hks]; exact nI_ne0 (by omega) (by omega)) ?_
              rw [show x_133 37 6 = nI k0 from by rw [q_133.2.2.2.2.1 6 (by decide) (by decide)]; exact hks, rk]
              refine mj_iconst dX7_year_166 ni_0 ?_
              refine mj_cvv (K := mX7_comes) (c_mcomes x_133 n hn (by rw [q_133.2.2.2.2.2 39 (by decide) (by decide)]; exact hns) (nI (w / 16 % 4)) 0 (nI (lt_o t w)) (w / 64 % k0) (by omega) 0) ckX7_comes lkX7_160 ⟨Nat.le_of_ble_eq_true rfl, Nat.le_of_ble_eq_true rfl⟩ rfl dX7_year_167 rfl rfl (Nat.le_of_ble_eq_true rfl) (fun x_167 q_167 => ?_)
              have i9 := hst9 x_167 (by unfold mstep; rw [if_pos h40]; exact ⟨x_133, q_133, by rw [q_167, if_pos rfl]⟩)
              rw [if_pos h40] at i9
              refine mj_inc3 dX7_year_170 ni_1 rfl ?_
              refine mj_inc4 dX7_year_173 ni_1 rfl ?_
              refine mj_goto (tgt := 31) dX7_year_176 rfl ?_
              exact mj_ls (ih (j + 1) (c + 1) _ _ _ _ (by omega) (by omega) i9) (by rw [nI_1, nI_1])
            · have eo2 : (0 : Int32) = nI (lt_o t w) := by unfold lt_o; rw [← eo]; split <;> grind
              refine mj_iconst dX7_year_150 ni_0 ?_
              refine mj_goto (tgt := 156) dX7_year_151 rfl ?_
              refine mj_ss (st' := [.int (nI (lt_o t w)), .int 0, .int (nI (w / 16 % 4)), .ref 37]) ?_ (by rw [eo2])
              refine mj_ild dX7_year_156 rfl ?_
              refine mj_bipush dX7_year_158 nb_64 ?_
              refine mj_idiv dX7_year_160 (by decide) ?_
              rw [d64]
              refine mj_aldn dX7_year_161 rfl ?_
              refine mj_geti fkX7_124 dX7_year_162 rfl rfl ?_
              refine mj_irem dX7_year_165 (by rw [q_133.2.2.2.2.1 6 (by decide) (by decide)]; show ¬ y 37 6 = 0; rw [hks]; exact nI_ne0 (by omega) (by omega)) ?_
              rw [show x_133 37 6 = nI k0 from by rw [q_133.2.2.2.2.1 6 (by decide) (by decide)]; exact hks, rk]
              refine mj_iconst dX7_year_166 ni_0 ?_
              refine mj_cvv (K := mX7_comes) (c_mcomes x_133 n hn (by rw [q_133.2.2.2.2.2 39 (by decide) (by decide)]; exact hns) (nI (w / 16 % 4)) 0 (nI (lt_o t w)) (w / 64 % k0) (by omega) 0) ckX7_comes lkX7_160 ⟨Nat.le_of_ble_eq_true rfl, Nat.le_of_ble_eq_true rfl⟩ rfl dX7_year_167 rfl rfl (Nat.le_of_ble_eq_true rfl) (fun x_167 q_167 => ?_)
              have i9 := hst9 x_167 (by unfold mstep; rw [if_pos h40]; exact ⟨x_133, q_133, by rw [q_167, if_pos rfl]⟩)
              rw [if_pos h40] at i9
              refine mj_inc3 dX7_year_170 ni_1 rfl ?_
              refine mj_inc4 dX7_year_173 ni_1 rfl ?_
              refine mj_goto (tgt := 31) dX7_year_176 rfl ?_
              exact mj_ls (ih (j + 1) (c + 1) _ _ _ _ (by omega) (by omega) i9) (by rw [nI_1, nI_1])
        · have ht9 : lt_t t w = 9999 := by have := mt (nI_leI (a := t + w % 16) (b := 9999) (by omega) (by decide)).mpr h_81; unfold lt_t; omega
          refine mj_sipush dX7_year_84 ns_9999 ?_
          refine mj_goto (tgt := 100) dX7_year_87 rfl ?_
          have ev : ∀ v : Int32, v = nI (lt_t t w) → mj_up y 37 5 v = mj_up y 37 5 (nI (lt_t t w)) := fun v h => by rw [h]
          refine mj_ss (st' := [.int (nI (lt_t t w)), .ref 37]) ?_ (by rw [ht9]; first | rfl | rw [eadd])
          refine mj_puti fkX7_130 pkX7_5 dX7_year_100 rfl rfl ?_
          have y5 : mj_up y 37 5 (nI (lt_t t w)) 37 5 = nI (lt_t t w) := by rw [up_eq, upd_eq]
          have y334 : mj_up y 37 5 (nI (lt_t t w)) 39 334 = nI n := hns
          have eo := nI_msub (a := lt_t t w) (b := w / 256 % 32) (by omega) (by omega)
          refine mj_aldn dX7_year_103 rfl ?_
          refine mj_geti fkX7_130 dX7_year_104 rfl rfl ?_
          rw [y5]
          refine mj_ild dX7_year_107 rfl ?_
          refine mj_sipush dX7_year_109 ns_256 ?_
          refine mj_idiv dX7_year_112 (by decide) ?_
          rw [d256]
          refine mj_bipush dX7_year_113 nb_32 ?_
          refine mj_irem dX7_year_115 (by decide) ?_
          rw [r32]
          refine mj_isub dX7_year_116 ?_
          refine mj_ist8 dX7_year_117 rfl ?_
          refine mj_aldn dX7_year_119 rfl ?_
          refine mj_getr fkX7_13 dX7_year_120 rfl rfl ?_
          refine mj_sipush dX7_year_123 ns_334 ?_
          refine mj_iald dX7_year_126 rfl 334 (by decide) rfl (by decide) ?_
          refine mj_bipush dX7_year_127 nb_40 ?_
          refine mj_ic_ge (tgt := 173) dX7_year_129 rfl (fun h_129 => ?_) (fun h_129 => ?_)
          · have h40 : ¬ n < 40 := by rw [y334] at h_129; have := (nI_leI (a := 40) (b := n) (by decide) (by omega)).mp h_129; omega
            refine mj_inc4 dX7_year_173 ni_1 rfl ?_
            refine mj_goto (tgt := 31) dX7_year_176 rfl ?_
            have i9 := hst9 _ (by unfold mstep; rw [if_neg h40])
            rw [if_neg h40] at i9
            exact mj_ls (ih (j + 1) c _ _ _ _ (by omega) (by omega) i9) (by rw [nI_1])
          · have h40 : n < 40 := by rw [y334] at h_129; have := mt (nI_leI (a := 40) (b := n) (by decide) (by omega)).mpr h_129; omega
            refine mj_aldn dX7_year_132 rfl ?_
            refine mj_cvv (K := mX7_note) (c_mnote (mj_up y 37 5 (nI (lt_t t w))) u hu hus) ckX7_note lkX7_148 ⟨Nat.le_of_ble_eq_true rfl, Nat.le_of_ble_eq_true rfl⟩ rfl dX7_year_133 rfl rfl (Nat.le_of_ble_eq_true rfl) (fun x_133 q_133 => ?_)
            refine mj_aldn dX7_year_136 rfl ?_
            refine mj_ild dX7_year_137 rfl ?_
            refine mj_bipush dX7_year_139 nb_16 ?_
            refine mj_idiv dX7_year_141 (by decide) ?_
            rw [d16]
            refine mj_iconst dX7_year_142 ni_4 ?_
            refine mj_irem dX7_year_143 (by decide) ?_
            rw [r4]
            refine mj_iconst dX7_year_144 ni_0 ?_
            refine mj_ild dX7_year_145 rfl ?_
            refine mj_if_ge (tgt := 154) dX7_year_147 rfl (fun h_147 => ?_) (fun h_147 => ?_)
            · have eo2 : nI (lt_t t w) - nI (w / 256 % 32) = nI (lt_o t w) := by unfold lt_o; rw [← eo]; split <;> grind
              refine mj_ild dX7_year_154 rfl ?_
              refine mj_ss (st' := [.int (nI (lt_o t w)), .int 0, .int (nI (w / 16 % 4)), .ref 37]) ?_ (by rw [eo2])
              refine mj_ild dX7_year_156 rfl ?_
              refine mj_bipush dX7_year_158 nb_64 ?_
              refine mj_idiv dX7_year_160 (by decide) ?_
              rw [d64]
              refine mj_aldn dX7_year_161 rfl ?_
              refine mj_geti fkX7_124 dX7_year_162 rfl rfl ?_
              refine mj_irem dX7_year_165 (by rw [q_133.2.2.2.2.1 6 (by decide) (by decide)]; show ¬ y 37 6 = 0; rw [hks]; exact nI_ne0 (by omega) (by omega)) ?_
              rw [show x_133 37 6 = nI k0 from by rw [q_133.2.2.2.2.1 6 (by decide) (by decide)]; exact hks, rk]
              refine mj_iconst dX7_year_166 ni_0 ?_
              refine mj_cvv (K := mX7_comes) (c_mcomes x_133 n hn (by rw [q_133.2.2.2.2.2 39 (by decide) (by decide)]; exact hns) (nI (w / 16 % 4)) 0 (nI (lt_o t w)) (w / 64 % k0) (by omega) 0) ckX7_comes lkX7_160 ⟨Nat.le_of_ble_eq_true rfl, Nat.le_of_ble_eq_true rfl⟩ rfl dX7_year_167 rfl rfl (Nat.le_of_ble_eq_true rfl) (fun x_167 q_167 => ?_)
              have i9 := hst9 x_167 (by unfold mstep; rw [if_pos h40]; exact ⟨x_133, q_133, by rw [q_167, if_pos rfl]⟩)
              rw [if_pos h40] at i9
              refine mj_inc3 dX7_year_170 ni_1 rfl ?_
              refine mj_inc4 dX7_year_173 ni_1 rfl ?_
              refine mj_goto (tgt := 31) dX7_year_176 rfl ?_
              exact mj_ls (ih (j + 1) (c + 1) _ _ _ _ (by omega) (by omega) i9) (by rw [nI_1, nI_1])
            · have eo2 : (0 : Int32) = nI (lt_o t w) := by unfold lt_o; rw [← eo]; split <;> grind
              refine mj_iconst dX7_year_150 ni_0 ?_
              refine mj_goto (tgt := 156) dX7_year_151 rfl ?_
              refine mj_ss (st' := [.int (nI (lt_o t w)), .int 0, .int (nI (w / 16 % 4)), .ref 37]) ?_ (by rw [eo2])
              refine mj_ild dX7_year_156 rfl ?_
              refine mj_bipush dX7_year_158 nb_64 ?_
              refine mj_idiv dX7_year_160 (by decide) ?_
              rw [d64]
              refine mj_aldn dX7_year_161 rfl ?_
              refine mj_geti fkX7_124 dX7_year_162 rfl rfl ?_
              refine mj_irem dX7_year_165 (by rw [q_133.2.2.2.2.1 6 (by decide) (by decide)]; show ¬ y 37 6 = 0; rw [hks]; exact nI_ne0 (by omega) (by omega)) ?_
              rw [show x_133 37 6 = nI k0 from by rw [q_133.2.2.2.2.1 6 (by decide) (by decide)]; exact hks, rk]
              refine mj_iconst dX7_year_166 ni_0 ?_
              refine mj_cvv (K := mX7_comes) (c_mcomes x_133 n hn (by rw [q_133.2.2.2.2.2 39 (by decide) (by decide)]; exact hns) (nI (w / 16 % 4)) 0 (nI (lt_o t w)) (w / 64 % k0) (by omega) 0) ckX7_comes lkX7_160 ⟨Nat.le_of_ble_eq_true rfl, Nat.le_of_ble_eq_true rfl⟩ rfl dX7_year_167 rfl rfl (Nat.le_of_ble_eq_true rfl) (fun x_167 q_167 => ?_)
              have i9 := hst9 x_167 (by unfold mstep; rw [if_pos h40]; exact ⟨x_133, q_133, by rw [q_167, if_pos rfl]⟩)
              rw [if_pos h40] at i9
              refine mj_inc3 dX7_year_170 ni_1 rfl ?_
              refine mj_inc4 dX7_year_173 ni_1 rfl ?_
              refine mj_goto (tgt := 31) dX7_year_176 rfl ?_
              exact mj_ls (ih (j + 1) (c + 1) _ _ _ _ (by omega) (by omega) i9) (by rw [nI_1, nI_1])
  refine mj_ildn dX7_year_0 rfl ?_
  refine mj_i2l dX7_year_1 ?_
  refine mj_lconst dX7_year_2 nl_0 ?_
  refine mj_ldc2 kkX7_155 dX7_year_3 ?_
  refine mj_csp (K := mX7_in) (c_in _ x (nI z) 0 9999 0 9999 (by decide) (by decide)) ckX7_in lkX7_79 ⟨Nat.le_of_ble_eq_true rfl, Nat.le_of_ble_eq_true rfl⟩ rfl dX7_year_6 (Nat.le_of_ble_eq_true rfl) ?_
  refine mj_if_eq (tgt := 24) dX7_year_9 rfl (fun h_9 => False.elim (by rw [bi_z] at h_9; simp only [inn, decide_eq_false_iff_not] at h_9; exact h_9 ⟨nI_pos' (by omega), nI_le (a := z) (b := 9999) (by omega) (by decide)⟩)) (fun h_9 => ?_)
  refine mj_ildn dX7_year_12 rfl ?_
  refine mj_i2l dX7_year_13 ?_
  refine mj_lconst dX7_year_14 nl_1 ?_
  refine mj_ldc2 kkX7_191 dX7_year_15 ?_
  refine mj_csp (K := mX7_in) (c_in _ x (nI m) 1 20 1 20 (by decide) (by decide)) ckX7_in lkX7_79 ⟨Nat.le_of_ble_eq_true rfl, Nat.le_of_ble_eq_true rfl⟩ rfl dX7_year_18 (Nat.le_of_ble_eq_true rfl) ?_
  refine mj_if_ne (tgt := 26) dX7_year_21 rfl (fun h_21 => ?_) (fun h_21 => False.elim (by rw [bi_z] at h_21; simp only [inn, decide_eq_false_iff_not] at h_21; exact h_21 ⟨nI_le (a := 1) (b := m) (by omega) (by omega), nI_le (a := m) (b := 20) (by omega) (by decide)⟩))
  refine mj_iconst dX7_year_26 ni_0 ?_
  refine mj_istn3 dX7_year_27 rfl ?_
  refine mj_iconst dX7_year_28 ni_0 ?_
  refine mj_ist4 dX7_year_29 rfl ?_
  exact loop (m + 1) 0 0 x _ _ _ (by omega) (by omega) h0
