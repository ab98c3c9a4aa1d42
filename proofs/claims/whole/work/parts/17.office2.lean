set_option maxHeartbeats 1000000 in
theorem p_write (R : List mj_S) (x : mj_X) (len : Nat) (hlen : len ≤ 200) (hl : x 1 1 = nI len) (a : Int32) : mj_CI mX6_write (shX ++ R) [.ref 0, .int a] x (fun z y => if ¬ (32 ≤ a ∧ a ≤ 126) then z = -1 ∧ y = x else if len = 200 then z = -3 ∧ y = x else z = nI (len + 1) ∧ y = mj_up (mj_up x 2 len a) 1 1 (nI (len + 1))) := by
  refine mj_startI (ls := [some (.ref 0), some (.int a)]) (by decide) rfl rfl (fun Q hQ => ?_)
  refine mj_ildn dX6_write_0 rfl ?_
  refine mj_bipush dX6_write_1 nb_32 ?_
  refine mj_ic_lt (tgt := 12) dX6_write_3 rfl (fun h_3 => ?_) (fun h_3 => ?_)
  · refine mj_iconst dX6_write_12 ni_m1 ?_
    refine mj_ret rfl dX6_write_13 ?_
    exact hQ _ _ (by rw [if_pos (by grind)]; exact ⟨rfl, rfl⟩)
  · refine mj_ildn dX6_write_6 rfl ?_
    refine mj_bipush dX6_write_7 nb_126 ?_
    refine mj_ic_le (tgt := 14) dX6_write_9 rfl (fun h_9 => ?_) (fun h_9 => ?_)
    · have hv : ¬ ¬ (32 ≤ a ∧ a ≤ 126) := by grind
      by_cases hf : len = 200
      · subst hf
        refine mj_aldn dX6_write_14 rfl ?_
        refine mj_getr fkX6_10 dX6_write_15 rfl rfl ?_
        refine mj_ildn dX6_write_18 rfl ?_
        refine mj_cvp (K := mX4_add) (c_tadd0 R x hl a) ckX4_add lkX6_68 ⟨Nat.le_of_ble_eq_true rfl, Nat.le_of_ble_eq_true rfl⟩ rfl dX6_write_19 rfl rfl (Nat.le_of_ble_eq_true rfl) ?_
        refine mj_if_eq (tgt := 35) dX6_write_22 rfl (fun h_22 => ?_) (fun h_22 => False.elim (by exact h_22 rfl))
        refine mj_bipush dX6_write_35 nb_m3 ?_
        refine mj_ret rfl dX6_write_37 ?_
        exact hQ _ _ (by rw [if_neg hv, if_pos rfl]; exact ⟨rfl, rfl⟩)
      · skip
        refine mj_aldn dX6_write_14 rfl ?_
        refine mj_getr fkX6_10 dX6_write_15 rfl rfl ?_
        refine mj_ildn dX6_write_18 rfl ?_
        refine mj_cvi (K := mX4_add) (c_tadd R x len (by omega) hl a) ckX4_add lkX6_68 ⟨Nat.le_of_ble_eq_true rfl, Nat.le_of_ble_eq_true rfl⟩ rfl dX6_write_19 rfl rfl (Nat.le_of_ble_eq_true rfl) (fun z_19 x_19 q_19 => ?_)
        obtain ⟨rfl, rfl⟩ := q_19
        refine mj_if_eq (tgt := 35) dX6_write_22 rfl (fun h_22 => False.elim (by exact absurd h_22 (by decide))) (fun h_22 => ?_)
        refine mj_aldn dX6_write_25 rfl ?_
        refine mj_getr fkX6_10 dX6_write_26 rfl rfl ?_
        refine mj_geti fkX6_79 dX6_write_29 rfl rfl ?_
        refine mj_goto (tgt := 37) dX6_write_32 rfl ?_
        refine mj_ret rfl dX6_write_37 ?_
        exact hQ _ _ (by rw [if_neg hv, if_neg hf]; exact ⟨rfl, rfl⟩)
    · refine mj_iconst dX6_write_12 ni_m1 ?_
      refine mj_ret rfl dX6_write_13 ?_
      exact hQ _ _ (by rw [if_pos (by grind)]; exact ⟨rfl, rfl⟩)
set_option maxHeartbeats 1000000 in
theorem p_wipe (R : List mj_S) (x : mj_X) : mj_CI mX6_wipe (shX ++ R) [.ref 0] x (fun z y => z = x 1 1 ∧ y = mj_up x 1 1 0) := by
  refine mj_startI (ls := [some (.ref 0), none]) (by decide) rfl rfl (fun Q hQ => ?_)
  refine mj_aldn dX6_wipe_0 rfl ?_
  refine mj_getr fkX6_10 dX6_wipe_1 rfl rfl ?_
  refine mj_geti fkX6_79 dX6_wipe_4 rfl rfl ?_
  refine mj_istn1 dX6_wipe_7 rfl ?_
  refine mj_aldn dX6_wipe_8 rfl ?_
  refine mj_getr fkX6_10 dX6_wipe_9 rfl rfl ?_
  refine mj_cvv (K := mX4_clear) (c_tclear R x) ckX4_clear lkX6_76 ⟨Nat.le_of_ble_eq_true rfl, Nat.le_of_ble_eq_true rfl⟩ rfl dX6_wipe_12 rfl rfl (Nat.le_of_ble_eq_true rfl) (fun x_12 q_12 => ?_)
  refine mj_ildn dX6_wipe_15 rfl ?_
  refine mj_ret rfl dX6_wipe_16 ?_
  exact hQ _ _ ⟨rfl, q_12⟩
def tx_ans (f : Nat × Int32 → Int32) (r : (Nat × Int32) ⊕ tx_P) : Int32 := match r with
  | .inl e => f e
  | .inr _ => -4
set_option maxHeartbeats 1000000 in
theorem p_fault (R : List mj_S) (x : mj_X) (len : Nat) (hlen : len ≤ 200) (hl : x 1 1 = nI len) : mj_CI mX6_fault (shX ++ R) [.ref 0] x (fun z y => z = tx_ans (fun e => nI e.1) (tx_all (tx_pk (x 2) len) len 200 tx_in) ∧ tx_A x y 7 (tx_all (tx_pk (x 2) len) len 200 tx_in)) := by
  refine mj_startI (ls := [some (.ref 0)]) (by decide) rfl rfl (fun Q hQ => ?_)
  refine mj_aldn dX6_fault_0 rfl ?_
  refine mj_getr fkX6_10 dX6_fault_1 rfl rfl ?_
  refine mj_aldn dX6_fault_4 rfl ?_
  refine mj_getr fkX6_23 dX6_fault_5 rfl rfl ?_
  refine mj_cvv (K := mX4_readInto) (c_into R x len hlen hl 7 (by decide) (ru_sh7 R)) ckX4_readInto lkX6_72 ⟨Nat.le_of_ble_eq_true rfl, Nat.le_of_ble_eq_true rfl⟩ rfl dX6_fault_8 rfl rfl (Nat.le_of_ble_eq_true rfl) (fun x_8 q_8 => ?_)
  cases hr : (tx_all (tx_pk (x 2) len) len 200 tx_in) with
  | inl e =>
    rw [hr] at q_8
    have q : tx_E x x_8 7 (nI e.1) e.2 := q_8
    refine mj_aldn dX6_fault_11 rfl ?_
    refine mj_getr fkX6_10 dX6_fault_12 rfl rfl ?_
    refine mj_geti fkX6_82 dX6_fault_15 rfl rfl ?_
    refine mj_if_ne (tgt := 26) dX6_fault_18 rfl (fun h_18 => ?_) (fun h_18 => False.elim (by rw [q.1] at h_18; exact q.2.1 h_18))
    refine mj_aldn dX6_fault_26 rfl ?_
    refine mj_getr fkX6_10 dX6_fault_27 rfl rfl ?_
    refine mj_geti fkX6_85 dX6_fault_30 rfl rfl ?_
    refine mj_ret rfl dX6_fault_33 ?_
    exact hQ _ _ ⟨by rw [hr]; exact q.2.2.1, by rw [hr]; exact q_8⟩
  | inr s9 =>
    rw [hr] at q_8
    obtain ⟨pl, q⟩ := q_8
    refine mj_aldn dX6_fault_11 rfl ?_
    refine mj_getr fkX6_10 dX6_fault_12 rfl rfl ?_
    refine mj_geti fkX6_82 dX6_fault_15 rfl rfl ?_
    refine mj_if_ne (tgt := 26) dX6_fault_18 rfl (fun h_18 => False.elim (by exact h_18 q.2.2.1)) (fun h_18 => ?_)
    refine mj_bipush dX6_fault_21 nb_m4 ?_
    refine mj_goto (tgt := 33) dX6_fault_23 rfl ?_
    refine mj_ret rfl dX6_fault_33 ?_
    exact hQ _ _ ⟨by rw [hr]; rfl, by rw [hr]; exact ⟨pl, q⟩⟩
set_option maxHeartbeats 1000000 in
theorem p_reason (R : List mj_S) (x : mj_X) (len : Nat) (hlen : len ≤ 200) (hl : x 1 1 = nI len) : mj_CI mX6_reason (shX ++ R) [.ref 0] x (fun z y => z = tx_ans (fun e => e.2) (tx_all (tx_pk (x 2) len) len 200 tx_in) ∧ tx_A x y 7 (tx_all (tx_pk (x 2) len) len 200 tx_in)) := by
  refine mj_startI (ls := [some (.ref 0)]) (by decide) rfl rfl (fun Q hQ => ?_)
  refine mj_aldn dX6_reason_0 rfl ?_
  refine mj_getr fkX6_10 dX6_reason_1 rfl rfl ?_
  refine mj_aldn dX6_reason_4 rfl ?_
  refine mj_getr fkX6_23 dX6_reason_5 rfl rfl ?_
  refine mj_cvv (K := mX4_readInto) (c_into R x len hlen hl 7 (by decide) (ru_sh7 R)) ckX4_readInto lkX6_72 ⟨Nat.le_of_ble_eq_true rfl, Nat.le_of_ble_eq_true rfl⟩ rfl dX6_reason_8 rfl rfl (Nat.le_of_ble_eq_true rfl) (fun x_8 q_8 => ?_)
  cases hr : (tx_all (tx_pk (x 2) len) len 200 tx_in) with
  | inl e =>
    rw [hr] at q_8
    have q : tx_E x x_8 7 (nI e.1) e.2 := q_8
    refine mj_aldn dX6_reason_11 rfl ?_
    refine mj_getr fkX6_10 dX6_reason_12 rfl rfl ?_
    refine mj_geti fkX6_82 dX6_reason_15 rfl rfl ?_
    refine mj_if_ne (tgt := 26) dX6_reason_18 rfl (fun h_18 => ?_) (fun h_18 => False.elim (by rw [q.1] at h_18; exact q.2.1 h_18))
    refine mj_aldn dX6_reason_26 rfl ?_
    refine mj_getr fkX6_10 dX6_reason_27 rfl rfl ?_
    refine mj_geti fkX6_82 dX6_reason_30 rfl rfl ?_
    refine mj_ret rfl dX6_reason_33 ?_
    exact hQ _ _ ⟨by rw [hr]; exact q.1, by rw [hr]; exact q_8⟩
  | inr s9 =>
    rw [hr] at q_8
    obtain ⟨pl, q⟩ := q_8
    refine mj_aldn dX6_reason_11 rfl ?_
    refine mj_getr fkX6_10 dX6_reason_12 rfl rfl ?_
    refine mj_geti fkX6_82 dX6_reason_15 rfl rfl ?_
    refine mj_if_ne (tgt := 26) dX6_reason_18 rfl (fun h_18 => False.elim (by exact h_18 q.2.2.1)) (fun h_18 => ?_)
    refine mj_bipush dX6_reason_21 nb_m4 ?_
    refine mj_goto (tgt := 33) dX6_reason_23 rfl ?_
    refine mj_ret rfl dX6_reason_33 ?_
    exact hQ _ _ ⟨by rw [hr]; rfl, by rw [hr]; exact ⟨pl, q⟩⟩
def lay0 (y : mj_X) : mj_X := mj_up (mj_up (mj_up y 11 12 0) 33 3 0) 0 7 0
def lay_R (x y : mj_X) (z : Int32) (r : (Nat × Int32) ⊕ tx_P) : Prop := match r with
  | .inl _ => z = -2 ∧ tx_A x y 7 r
  | .inr s => if s.2.2.2.2 = 0 then z = -2 ∧ tx_A x y 7 r else z = nI s.2.2.2.2 ∧ ∃ v w pl, tx_S x v 7 pl s ∧ ru_cp v w 6 6 6 ∧ w 3 3 = nI s.2.2.2.2 ∧ y = rc_it (lay0 w) 0
set_option maxHeartbeats 1000000 in
theorem p_lay (R : List mj_S) (x : mj_X) (len : Nat) (hlen : len ≤ 200) (hl : x 1 1 = nI len) : mj_CI mX6_lay (shX ++ R) [.ref 0] x (fun z y => lay_R x y z (tx_all (tx_pk (x 2) len) len 200 tx_in)) := by
  refine mj_startI (ls := [some (.ref 0)]) (by decide) rfl rfl (fun Q hQ => ?_)
  refine mj_aldn dX6_lay_0 rfl ?_
  refine mj_getr fkX6_10 dX6_lay_1 rfl rfl ?_
  refine mj_aldn dX6_lay_4 rfl ?_
  refine mj_getr fkX6_23 dX6_lay_5 rfl rfl ?_
  refine mj_cvv (K := mX4_readInto) (c_into R x len hlen hl 7 (by decide) (ru_sh7 R)) ckX4_readInto lkX6_72 ⟨Nat.le_of_ble_eq_true rfl, Nat.le_of_ble_eq_true rfl⟩ rfl dX6_lay_8 rfl rfl (Nat.le_of_ble_eq_true rfl) (fun x_8 q_8 => ?_)
  cases hr : (tx_all (tx_pk (x 2) len) len 200 tx_in) with
  | inl e =>
    rw [hr] at q_8 hQ
    have q : tx_E x x_8 7 (nI e.1) e.2 := q_8
    refine mj_aldn dX6_lay_11 rfl ?_
    refine mj_getr fkX6_10 dX6_lay_12 rfl rfl ?_
    refine mj_geti fkX6_82 dX6_lay_15 rfl rfl ?_
    refine mj_if_ne (tgt := 31) dX6_lay_18 rfl (fun h_18 => ?_) (fun h_18 => False.elim (by rw [q.1] at h_18; exact q.2.1 h_18))
    refine mj_bipush dX6_lay_31 nb_m2 ?_
    refine mj_ret rfl dX6_lay_33 ?_
    exact hQ _ _ ⟨rfl, q_8⟩
  | inr s9 =>
    rw [hr] at q_8 hQ
    obtain ⟨pl, q⟩ := q_8
    have hk6 := q.2.2.2.2.2.2.1
    have hck := q.2.2.2.2.2.1
    refine mj_aldn dX6_lay_11 rfl ?_
    refine mj_getr fkX6_10 dX6_lay_12 rfl rfl ?_
    refine mj_geti fkX6_82 dX6_lay_15 rfl rfl ?_
    refine mj_if_ne (tgt := 31) dX6_lay_18 rfl (fun h_18 => False.elim (by exact h_18 q.2.2.1)) (fun h_18 => ?_)
    refine mj_aldn dX6_lay_21 rfl ?_
    refine mj_getr fkX6_23 dX6_lay_22 rfl rfl ?_
    refine mj_geti fkX6_88 dX6_lay_25 rfl rfl ?_
    refine mj_if_ne (tgt := 34) dX6_lay_28 rfl (fun h_28 => ?_) (fun h_28 => ?_)
    · have h0 : ¬ s9.2.2.2.2 = 0 := by intro h; rw [hck, h] at h_28; exact h_28 rfl
      refine mj_aldn dX6_lay_34 rfl ?_
      refine mj_getr fkX6_19 dX6_lay_35 rfl rfl ?_
      refine mj_aldn dX6_lay_38 rfl ?_
      refine mj_getr fkX6_23 dX6_lay_39 rfl rfl ?_
      refine mj_cvv (K := mX5_copy) (c_copy R x_8) ckX5_copy lkX6_91 ⟨Nat.le_of_ble_eq_true rfl, Nat.le_of_ble_eq_true rfl⟩ rfl dX6_lay_42 rfl rfl (Nat.le_of_ble_eq_true rfl) (fun x_42 q_42 => ?_)
      refine mj_aldn dX6_lay_45 rfl ?_
      refine mj_getr fkX6_29 dX6_lay_46 rfl rfl ?_
      refine mj_iconst dX6_lay_49 ni_0 ?_
      refine mj_puti fkX6_94 pkX2_12 dX6_lay_50 rfl rfl ?_
      refine mj_aldn dX6_lay_53 rfl ?_
      refine mj_getr fkX6_52 dX6_lay_54 rfl rfl ?_
      refine mj_iconst dX6_lay_57 ni_0 ?_
      refine mj_puti fkX6_97 pkX1_3 dX6_lay_58 rfl rfl ?_
      refine mj_aldn dX6_lay_61 rfl ?_
      refine mj_iconst dX6_lay_62 ni_0 ?_
      refine mj_puti fkX6_98 pkX6_7 dX6_lay_63 rfl rfl ?_
      refine mj_aldn dX6_lay_66 rfl ?_
      refine mj_getr fkX6_45 dX6_lay_67 rfl rfl ?_
      refine mj_cvv (K := mX3_reckonAll) (c_rall R (lay0 x_42) 0 (by decide) rfl (fun e he => absurd he (Nat.not_lt_zero e))) ckX3_reckonAll lkX6_101 ⟨Nat.le_of_ble_eq_true rfl, Nat.le_of_ble_eq_true rfl⟩ rfl dX6_lay_70 rfl rfl (Nat.le_of_ble_eq_true rfl) (fun x_70 q_70 => ?_)
      refine mj_aldn dX6_lay_73 rfl ?_
      refine mj_getr fkX6_19 dX6_lay_74 rfl rfl ?_
      refine mj_geti fkX6_88 dX6_lay_77 rfl rfl ?_
      refine mj_ret rfl dX6_lay_80 ?_
      have e3 : x_42 3 3 = nI s9.2.2.2.2 := by rw [q_42.2]; exact hck
      refine hQ _ _ ?_
      unfold lay_R
      dsimp only
      rw [if_neg h0]
      refine ⟨?_, x_8, x_42, pl, q, q_42.1, e3, q_70⟩
      rw [q_70, fr_it (Or.inl (by decide))]
      exact e3
    · have h0 : s9.2.2.2.2 = 0 := by
        rw [hck] at h_28
        by_cases h : s9.2.2.2.2 = 0
        · exact h
        · exact absurd h_28 (nI_ne0 (by omega) (by omega))
      refine mj_bipush dX6_lay_31 nb_m2 ?_
      refine mj_ret rfl dX6_lay_33 ?_
      exact hQ _ _ (by unfold lay_R; dsimp only; rw [if_pos h0]; exact ⟨rfl, pl, q⟩)
set_option maxHeartbeats 1000000 in
theorem p_rule (R : List mj_S) (x : mj_X) (n nb s k : Nat) (hw : CW x n nb s k) (a v : Int32) : mj_CI mX6_rule (shX ++ R) [.ref 0, .int a, .int v] x (fun z y => if ru_ok a v = false then z = -1 ∧ y = x else if x 4 a.toNatClampNeg = v then z = -2 ∧ y = x else z = x 4 a.toNatClampNeg ∧ ∃ w, ch_no (mj_up x 4 a.toNatClampNeg v) w s 5 a (x 4 a.toNatClampNeg) ∧ y = rc_it w n) := by
  obtain ⟨hn, hn40, hb, hb80, hs, hs6, hk, hk6, hk1, hsf, hcd⟩ := hw
  refine mj_startI (ls := [some (.ref 0), some (.int a), some (.int v), none]) (by decide) rfl rfl (fun Q hQ => ?_)
  refine mj_aldn dX6_rule_0 rfl ?_
  refine mj_getr fkX6_19 dX6_rule_1 rfl rfl ?_
  refine mj_ildn dX6_rule_4 rfl ?_
  refine mj_ildn dX6_rule_5 rfl ?_
  refine mj_cvp (K := mX5_allows) (c_allows _ 3 (ru_sh3 R) x a v) ckX5_allows lkX6_104 ⟨Nat.le_of_ble_eq_true rfl, Nat.le_of_ble_eq_true rfl⟩ rfl dX6_rule_6 rfl rfl (Nat.le_of_ble_eq_true rfl) ?_
  refine mj_if_ne (tgt := 14) dX6_rule_9 rfl (fun h_9 => ?_) (fun h_9 => ?_)
  · rw [bi_nz] at h_9
    have h9 := h_9
    simp only [ru_ok, decide_eq_true_eq] at h9
    obtain ⟨j, hj, rfl⟩ := ix_of (n := 6) (a := a) (by decide) h9.1 h9.2.1
    have ec := nI_clamp (n := j) (by omega)
    rw [ec] at hQ
    refine mj_aldn dX6_rule_14 rfl ?_
    refine mj_getr fkX6_19 dX6_rule_15 rfl rfl ?_
    refine mj_ildn dX6_rule_18 rfl ?_
    refine mj_cvp (K := mX5_get) (c_get3 R x j hj) ckX5_get lkX6_108 ⟨Nat.le_of_ble_eq_true rfl, Nat.le_of_ble_eq_true rfl⟩ rfl dX6_rule_19 rfl rfl (Nat.le_of_ble_eq_true rfl) ?_
    refine mj_istn3 dX6_rule_22 rfl ?_
    refine mj_ildn dX6_rule_23 rfl ?_
    refine mj_ildn dX6_rule_24 rfl ?_
    refine mj_ic_ne (tgt := 31) dX6_rule_25 rfl (fun h_25 => ?_) (fun h_25 => ?_)
    · refine mj_aldn dX6_rule_31 rfl ?_
      refine mj_getr fkX6_19 dX6_rule_32 rfl rfl ?_
      refine mj_ildn dX6_rule_35 rfl ?_
      refine mj_ildn dX6_rule_36 rfl ?_
      refine mj_cvv (K := mX5_put) (c_put _ 3 (ru_sh3 R) x j hj v) ckX5_put lkX6_112 ⟨Nat.le_of_ble_eq_true rfl, Nat.le_of_ble_eq_true rfl⟩ rfl dX6_rule_37 rfl rfl (Nat.le_of_ble_eq_true rfl) (fun x_37 q_37 => ?_)
      have q_37 : x_37 = mj_up x 4 j v := q_37
      subst q_37
      refine mj_aldn dX6_rule_40 rfl ?_
      refine mj_getr fkX6_52 dX6_rule_41 rfl rfl ?_
      refine mj_iconst dX6_rule_44 ni_5 ?_
      refine mj_ildn dX6_rule_45 rfl ?_
      refine mj_ildn dX6_rule_46 rfl ?_
      refine mj_cvv (K := mX1_note) (c_note R (mj_up x 4 j v) s hs6 hs 5 (nI j) (x 4 j)) ckX1_note lkX6_116 ⟨Nat.le_of_ble_eq_true rfl, Nat.le_of_ble_eq_true rfl⟩ rfl dX6_rule_47 rfl rfl (Nat.le_of_ble_eq_true rfl) (fun x_47 q_47 => ?_)
      have fr : ∀ c, c < 33 → c ≠ 4 → x_47 c = x c := fun c hc a1 => by rw [q_47.2.2.2 c (by omega) (by omega) (by omega) (by omega)]; exact up_ne a1
      refine mj_aldn dX6_rule_50 rfl ?_
      refine mj_getr fkX6_45 dX6_rule_51 rfl rfl ?_
      refine mj_cvv (K := mX3_reckonAll) (c_rall R x_47 n (by omega) (by rw [fr 11 (by decide) (by decide)]; exact hn) (fun e he => cd_fr (fr 3 (by decide) (by decide)) (fr 14 (by decide) (by decide)) (fr 16 (by decide) (by decide)) (hcd e he))) ckX3_reckonAll lkX6_101 ⟨Nat.le_of_ble_eq_true rfl, Nat.le_of_ble_eq_true rfl⟩ rfl dX6_rule_54 rfl rfl (Nat.le_of_ble_eq_true rfl) (fun x_54 q_54 => ?_)
      refine mj_ildn dX6_rule_57 rfl ?_
      refine mj_ret rfl dX6_rule_58 ?_
      exact hQ _ _ (by rw [if_neg (by rw [h_9]; decide), if_neg h_25]; exact ⟨rfl, x_47, q_47, q_54⟩)
    · refine mj_bipush dX6_rule_28 nb_m2 ?_
      refine mj_ret rfl dX6_rule_30 ?_
      exact hQ _ _ (by rw [if_neg (by rw [h_9]; decide), if_pos h_25]; exact ⟨rfl, rfl⟩)
  · rw [bi_z] at h_9
    refine mj_iconst dX6_rule_12 ni_m1 ?_
    refine mj_ret rfl dX6_rule_13 ?_
    exact hQ _ _ (by rw [if_pos h_9]; exact ⟨rfl, rfl⟩)
set_option maxHeartbeats 1000000 in
theorem p_code (R : List mj_S) (x : mj_X) (n nb s k : Nat) (hw : CW x n nb s k) (a w : Int32) : mj_CP mX6_code (shX ++ R) [.ref 0, .int a, .int w] x (if 0 ≤ a ∧ a < nI k ∧ 0 ≤ w ∧ w ≤ 1 then (if w = 0 then x 5 a.toNatClampNeg else x 6 a.toNatClampNeg) else -1) := by
  obtain ⟨hn, hn40, hb, hb80, hs, hs6, hk, hk6, hk1, hsf, hcd⟩ := hw
  refine mj_startP (ls := [some (.ref 0), some (.int a), some (.int w)]) (by decide) rfl rfl (fun Q hQ => ?_)
  refine mj_aldn dX6_code_0 rfl ?_
  refine mj_getr fkX6_19 dX6_code_1 rfl rfl ?_
  refine mj_ildn dX6_code_4 rfl ?_
  refine mj_cvp (K := mX5_hasCode) (c_hasCode _ 3 (ru_sh3 R) x k hk6 hk a) ckX5_hasCode lkX6_120 ⟨Nat.le_of_ble_eq_true rfl, Nat.le_of_ble_eq_true rfl⟩ rfl dX6_code_5 rfl rfl (Nat.le_of_ble_eq_true rfl) ?_
  refine mj_if_eq (tgt := 20) dX6_code_8 rfl (fun h_8 => ?_) (fun h_8 => ?_)
  · rw [bi_z] at h_8; simp only [ru_hc, decide_eq_false_iff_not] at h_8
    refine mj_iconst dX6_code_20 ni_m1 ?_
    refine mj_ret rfl dX6_code_21 ?_
    exact mj_q hQ (by rw [if_neg (by grind)])
  · rw [bi_nz] at h_8; simp only [ru_hc, decide_eq_true_eq] at h_8
    obtain ⟨j, hj, rfl⟩ := ix_of (n := k) (a := a) (by omega) h_8.1 h_8.2
    have ec := nI_clamp (n := j) (by omega)
    refine mj_ildn dX6_code_11 rfl ?_
    refine mj_if_lt (tgt := 20) dX6_code_12 rfl (fun h_12 => ?_) (fun h_12 => ?_)
    · refine mj_iconst dX6_code_20 ni_m1 ?_
      refine mj_ret rfl dX6_code_21 ?_
      exact mj_q hQ (by rw [if_neg (by grind)])
    · refine mj_ildn dX6_code_15 rfl ?_
      refine mj_iconst dX6_code_16 ni_1 ?_
      refine mj_ic_le (tgt := 22) dX6_code_17 rfl (fun h_17 => ?_) (fun h_17 => ?_)
      · refine mj_ildn dX6_code_22 rfl ?_
        refine mj_if_ne (tgt := 37) dX6_code_23 rfl (fun h_23 => ?_) (fun h_23 => ?_)
        · refine mj_aldn dX6_code_37 rfl ?_
          refine mj_getr fkX6_19 dX6_code_38 rfl rfl ?_
          refine mj_ildn dX6_code_41 rfl ?_
          refine mj_cvp (K := mX5_ownBanOf) (c_own _ 3 (ru_sh3 R) x k hk6 hk j hj) ckX5_ownBanOf lkX6_126 ⟨Nat.le_of_ble_eq_true rfl, Nat.le_of_ble_eq_true rfl⟩ rfl dX6_code_42 rfl rfl (Nat.le_of_ble_eq_true rfl) ?_
          refine mj_ret rfl dX6_code_45 ?_
          exact mj_q hQ (by rw [if_pos ⟨h_8.1, h_8.2, by grind, by grind⟩, ec]; first | rw [if_pos h_23] | rw [if_neg h_23])
        · refine mj_aldn dX6_code_26 rfl ?_
          refine mj_getr fkX6_19 dX6_code_27 rfl rfl ?_
          refine mj_ildn dX6_code_30 rfl ?_
          refine mj_cvp (K := mX5_pointsOf) (c_pts _ 3 (ru_sh3 R) x k hk6 hk j hj) ckX5_pointsOf lkX6_123 ⟨Nat.le_of_ble_eq_true rfl, Nat.le_of_ble_eq_true rfl⟩ rfl dX6_code_31 rfl rfl (Nat.le_of_ble_eq_true rfl) ?_
          refine mj_goto (tgt := 45) dX6_code_34 rfl ?_
          refine mj_ret rfl dX6_code_45 ?_
          exact mj_q hQ (by rw [if_pos ⟨h_8.1, h_8.2, by grind, by grind⟩, ec]; first | rw [if_pos h_23] | rw [if_neg h_23])
      · refine mj_iconst dX6_code_20 ni_m1 ?_
        refine mj_ret rfl dX6_code_21 ?_
        exact mj_q hQ (by rw [if_neg (by grind)])
set_option maxHeartbeats 1000000 in
theorem p_pass (R : List mj_S) (x : mj_X) (a : Int32) : mj_CI mX6_pass (shX ++ R) [.ref 0, .int a] x (fun z y => if ¬ (0 ≤ a ∧ a ≤ 9999) then z = -1 ∧ y = x else if 9999 < x 0 7 + a then z = -3 ∧ y = x else z = x 0 7 + a ∧ y = mj_up x 0 7 (x 0 7 + a)) := by
  refine mj_startI (ls := [some (.ref 0), some (.int a)]) (by decide) rfl rfl (fun Q hQ => ?_)
  refine mj_ildn dX6_pass_0 rfl ?_
  refine mj_if_lt (tgt := 11) dX6_pass_1 rfl (fun h_1 => ?_) (fun h_1 => ?_)
  · refine mj_iconst dX6_pass_11 ni_m1 ?_
    refine mj_ret rfl dX6_pass_12 ?_
    exact hQ _ _ (by rw [if_pos (by grind)]; exact ⟨rfl, rfl⟩)
  · refine mj_ildn dX6_pass_4 rfl ?_
    refine mj_sipush dX6_pass_5 ns_9999 ?_
    refine mj_ic_le (tgt := 13) dX6_pass_8 rfl (fun h_8 => ?_) (fun h_8 => ?_)
    · refine mj_aldn dX6_pass_13 rfl ?_
      refine mj_geti fkX6_98 dX6_pass_14 rfl rfl ?_
      refine mj_ildn dX6_pass_17 rfl ?_
      refine mj_iadd dX6_pass_18 ?_
      refine mj_sipush dX6_pass_19 ns_9999 ?_
      refine mj_ic_le (tgt := 28) dX6_pass_22 rfl (fun h_22 => ?_) (fun h_22 => ?_)
      · refine mj_aldn dX6_pass_28 rfl ?_
        refine mj_dupr dX6_pass_29 ?_
        refine mj_geti fkX6_98 dX6_pass_30 rfl rfl ?_
        refine mj_ildn dX6_pass_33 rfl ?_
        refine mj_iadd dX6_pass_34 ?_
        refine mj_puti fkX6_98 pkX6_7 dX6_pass_35 rfl rfl ?_
        refine mj_aldn dX6_pass_38 rfl ?_
        refine mj_geti fkX6_98 dX6_pass_39 rfl rfl ?_
        refine mj_ret rfl dX6_pass_42 ?_
        exact hQ _ _ (by rw [if_neg (by grind), if_neg (by grind)]; exact ⟨by rw [up_eq, upd_eq], rfl⟩)
      · refine mj_bipush dX6_pass_25 nb_m3 ?_
        refine mj_ret rfl dX6_pass_27 ?_
        exact hQ _ _ (by rw [if_neg (by grind), if_pos (by grind)]; exact ⟨rfl, rfl⟩)
    · refine mj_iconst dX6_pass_11 ni_m1 ?_
      refine mj_ret rfl dX6_pass_12 ?_
      exact hQ _ _ (by rw [if_pos (by grind)]; exact ⟨rfl, rfl⟩)
/-- an event has come: it is noted and reckoned -/
def came (x y : mj_X) (s n : Nat) : Prop := ∃ w, ch_no x w s 0 (nI n) 0 ∧ y = rc_next w n
set_option maxHeartbeats 1000000 in
theorem p_convict (R : List mj_S) (x : mj_X) (n nb s k : Nat) (hw : CW x n nb s k) (d o c r : Int32) : mj_CI mX6_convict (shX ++ R) [.ref 0, .int d, .int o, .int c, .int r] x (fun z y => if ¬ (of_ok x k d o c = true ∧ 0 ≤ r ∧ r ≤ 1) then z = -1 ∧ y = x else if n = 40 then z = -3 ∧ y = x else z = nI n ∧ came (ev_addC x n d (x 0 7) o c (x 5 c.toNatClampNeg) r) y s n) := by
  have hw0 := hw
  obtain ⟨hn, hn40, hb, hb80, hs, hs6, hk, hk6, hk1, hsf, hcd⟩ := hw
  refine mj_startI (ls := [some (.ref 0), some (.int d), some (.int o), some (.int c), some (.int r)]) (by decide) rfl rfl (fun Q hQ => ?_)
  refine mj_aldn dX6_convict_0 rfl ?_
  refine mj_ildn dX6_convict_1 rfl ?_
  refine mj_ildn dX6_convict_2 rfl ?_
  refine mj_ildn dX6_convict_3 rfl ?_
  refine mj_cvp (K := mX6_canBeOffence) (c_ofok R x n nb s k hw0 d o c) ckX6_canBeOffence lkX6_129 ⟨Nat.le_of_ble_eq_true rfl, Nat.le_of_ble_eq_true rfl⟩ rfl dX6_convict_4 rfl rfl (Nat.le_of_ble_eq_true rfl) ?_
  refine mj_if_eq (tgt := 21) dX6_convict_7 rfl (fun h_7 => ?_) (fun h_7 => ?_)
  · rw [bi_z] at h_7
    refine mj_iconst dX6_convict_21 ni_m1 ?_
    refine mj_ret rfl dX6_convict_22 ?_
    exact hQ _ _ (by rw [if_pos (by grind)]; exact ⟨rfl, rfl⟩)
  · rw [bi_nz] at h_7
    refine mj_ild dX6_convict_10 rfl ?_
    refine mj_if_lt (tgt := 21) dX6_convict_12 rfl (fun h_12 => ?_) (fun h_12 => ?_)
    · refine mj_iconst dX6_convict_21 ni_m1 ?_
      refine mj_ret rfl dX6_convict_22 ?_
      exact hQ _ _ (by rw [if_pos (by grind)]; exact ⟨rfl, rfl⟩)
    · refine mj_ild dX6_convict_15 rfl ?_
      refine mj_iconst dX6_convict_17 ni_1 ?_
      refine mj_ic_le (tgt := 23) dX6_convict_18 rfl (fun h_18 => ?_) (fun h_18 => ?_)
      · refine mj_aldn dX6_convict_23 rfl ?_
        refine mj_getr fkX6_29 dX6_convict_24 rfl rfl ?_
        refine mj_geti fkX6_94 dX6_convict_27 rfl rfl ?_
        refine mj_bipush dX6_convict_30 nb_40 ?_
        refine mj_ic_lt (tgt := 38) dX6_convict_32 rfl (fun h_32 => ?_) (fun h_32 => ?_)
        · have hlt : n < 40 := by rw [hn] at h_32; exact (nI_ltI (b := 40) (by omega) (by decide)).mp h_32
          have h7 := h_7
          simp only [of_ok, decide_eq_true_eq] at h7
          obtain ⟨-, -, -, hc0, hc1⟩ := h7
          obtain ⟨j, hj, rfl⟩ := ix_of (n := k) (a := c) (by omega) hc0 hc1
          have ec := nI_clamp (n := j) (by omega)
          rw [ec] at hQ
          refine mj_aldn dX6_convict_38 rfl ?_
          refine mj_getr fkX6_29 dX6_convict_39 rfl rfl ?_
          refine mj_ildn dX6_convict_42 rfl ?_
          refine mj_aldn dX6_convict_43 rfl ?_
          refine mj_geti fkX6_98 dX6_convict_44 rfl rfl ?_
          refine mj_ildn dX6_convict_47 rfl ?_
          refine mj_ildn dX6_convict_48 rfl ?_
          refine mj_aldn dX6_convict_49 rfl ?_
          refine mj_getr fkX6_19 dX6_convict_50 rfl rfl ?_
          refine mj_ildn dX6_convict_53 rfl ?_
          refine mj_cvp (K := mX5_pointsOf) (c_pts _ 3 (ru_sh3 R) x k hk6 hk j hj) ckX5_pointsOf lkX6_123 ⟨Nat.le_of_ble_eq_true rfl, Nat.le_of_ble_eq_true rfl⟩ rfl dX6_convict_54 rfl rfl (Nat.le_of_ble_eq_true rfl) ?_
          refine mj_ild dX6_convict_57 rfl ?_
          refine mj_cvv (K := mX2_addConviction) (c_addC R x n (by omega) hn d (x 0 7) o (nI j) (x 5 j) r) ckX2_addConviction lkX6_133 ⟨Nat.le_of_ble_eq_true rfl, Nat.le_of_ble_eq_true rfl⟩ rfl dX6_convict_59 rfl rfl (Nat.le_of_ble_eq_true rfl) (fun x_59 q_59 => ?_)
          subst q_59
          refine mj_aldn dX6_convict_62 rfl ?_
          refine mj_cvi (K := mX6_noteNewEvent) (c_nne R (ev_addC x n d (x 0 7) o (nI j) (x 5 j) r) n nb s rfl (by omega) hb (by omega) hs hs6 hsf ⟨j, k, hk6, hk, hj, fun _ => by show ev_addC x n d (x 0 7) o (nI j) (x 5 j) r 16 n = nI j; unfold ev_addC; simp [up_at]⟩) ckX6_noteNewEvent lkX6_137 ⟨Nat.le_of_ble_eq_true rfl, Nat.le_of_ble_eq_true rfl⟩ rfl dX6_convict_63 rfl rfl (Nat.le_of_ble_eq_true rfl) (fun z_63 x_63 q_63 => ?_)
          refine mj_ret rfl dX6_convict_66 ?_
          exact hQ _ _ (by rw [if_neg (by grind), if_neg (by omega)]; exact q_63)
        · have hge : n = 40 := by rw [hn] at h_32; have := mt (nI_ltI (a := n) (b := 40) (by omega) (by decide)).mpr h_32; omega
          refine mj_bipush dX6_convict_35 nb_m3 ?_
          refine mj_ret rfl dX6_convict_37 ?_
          exact hQ _ _ (by rw [if_neg (by grind), if_pos hge]; exact ⟨rfl, rfl⟩)
      · refine mj_iconst dX6_convict_21 ni_m1 ?_
        refine mj_ret rfl dX6_convict_22 ?_
        exact hQ _ _ (by rw [if_pos (by grind)]; exact ⟨rfl, rfl⟩)
def crs_no (x : mj_X) (nb n : Nat) (d w : Int32) : Prop := if w = 0 then lp_any (ev_light x d (x 0 7 - x 4 0)) n = true else (lp_f (bn_shF x d (x 0 7)) (-1, x 0 7) nb).1 < 0
set_option maxHeartbeats 1000000 in
theorem p_course (R : List mj_S) (x : mj_X) (n nb s k : Nat) (hw : CW x n nb s k) (d w : Int32) : mj_CI mX6_course (shX ++ R) [.ref 0, .int d, .int w] x (fun z y => if ¬ (dr d = true ∧ 0 ≤ w ∧ w ≤ 1) then z = -1 ∧ y = x else if n = 40 then z = -3 ∧ y = x else (crs_no x nb n d w → z = -2 ∧ y = x) ∧ (¬ crs_no x nb n d w → z = nI n ∧ came (ev_addK x n d (x 0 7) (w + 1)) y s n)) := by
  obtain ⟨hn, hn40, hb, hb80, hs, hs6, hk, hk6, hk1, hsf, hcd⟩ := hw
  refine mj_startI (ls := [some (.ref 0), some (.int d), some (.int w), none]) (by decide) rfl rfl (fun Q hQ => ?_)
  refine mj_ildn dX6_course_0 rfl ?_
  refine mj_csp (K := mX6_isDriver) (c_isDr _ x d) ckX6_isDriver lkX6_140 ⟨Nat.le_of_ble_eq_true rfl, Nat.le_of_ble_eq_true rfl⟩ rfl dX6_course_1 (Nat.le_of_ble_eq_true rfl) ?_
  refine mj_if_eq (tgt := 16) dX6_course_4 rfl (fun h_4 => ?_) (fun h_4 => ?_)
  · rw [bi_z] at h_4
    refine mj_iconst dX6_course_16 ni_m1 ?_
    refine mj_ret rfl dX6_course_17 ?_
    exact hQ _ _ (by rw [if_pos (by grind)]; exact ⟨rfl, rfl⟩)
  · rw [bi_nz] at h_4
    refine mj_ildn dX6_course_7 rfl ?_
    refine mj_if_lt (tgt := 16) dX6_course_8 rfl (fun h_8 => ?_) (fun h_8 => ?_)
    · refine mj_iconst dX6_course_16 ni_m1 ?_
      refine mj_ret rfl dX6_course_17 ?_
      exact hQ _ _ (by rw [if_pos (by grind)]; exact ⟨rfl, rfl⟩)
    · refine mj_ildn dX6_course_11 rfl ?_
      refine mj_iconst dX6_course_12 ni_1 ?_
      refine mj_ic_le (tgt := 18) dX6_course_13 rfl (fun h_13 => ?_) (fun h_13 => ?_)
      · refine mj_aldn dX6_course_18 rfl ?_
        refine mj_getr fkX6_29 dX6_course_19 rfl rfl ?_
        refine mj_geti fkX6_94 dX6_course_22 rfl rfl ?_
        refine mj_bipush dX6_course_25 nb_40 ?_
        refine mj_ic_lt (tgt := 33) dX6_course_27 rfl (fun h_27 => ?_) (fun h_27 => ?_)
        · have hlt : n < 40 := by rw [hn] at h_27; exact (nI_ltI (b := 40) (by omega) (by decide)).mp h_27
          have hv : ¬ ¬ (dr d = true ∧ 0 ≤ w ∧ w ≤ 1) := by grind
          refine mj_ildn dX6_course_33 rfl ?_
          refine mj_if_ne (tgt := 61) dX6_course_34 rfl (fun h_34 => ?_) (fun h_34 => ?_)
          · have hw1 : w = 1 := by grind
            subst hw1
            refine mj_aldn dX6_course_61 rfl ?_
            refine mj_getr fkX6_36 dX6_course_62 rfl rfl ?_
            refine mj_ildn dX6_course_65 rfl ?_
            refine mj_aldn dX6_course_66 rfl ?_
            refine mj_geti fkX6_98 dX6_course_67 rfl rfl ?_
            refine mj_cvp (K := mX0_toShorten) (c_toSh R x nb (by omega) hb d (x 0 7)) ckX0_toShorten lkX6_146 ⟨Nat.le_of_ble_eq_true rfl, Nat.le_of_ble_eq_true rfl⟩ rfl dX6_course_70 rfl rfl (Nat.le_of_ble_eq_true rfl) ?_
            refine mj_if_ge (tgt := 80) dX6_course_73 rfl (fun h_73 => ?_) (fun h_73 => ?_)
            · refine mj_iconst dX6_course_80 ni_0 ?_
              have hcn : crs_no x nb n d 1 = ((lp_f (bn_shF x d (x 0 7)) (-1, x 0 7) nb).1 < 0) := by unfold crs_no; rw [if_neg (by decide)]
              refine mj_istn3 dX6_course_81 rfl ?_
              refine mj_ildn dX6_course_82 rfl ?_
              refine mj_if_eq (tgt := 89) dX6_course_83 rfl (fun h_83 => ?_) (fun h_83 => False.elim (by exact h_83 rfl))
              refine mj_aldn dX6_course_89 rfl ?_
              refine mj_getr fkX6_29 dX6_course_90 rfl rfl ?_
              refine mj_ildn dX6_course_93 rfl ?_
              refine mj_aldn dX6_course_94 rfl ?_
              refine mj_geti fkX6_98 dX6_course_95 rfl rfl ?_
              refine mj_ildn dX6_course_98 rfl ?_
              refine mj_if_ne (tgt := 106) dX6_course_99 rfl (fun h_99 => ?_) (fun h_99 => False.elim (by exact absurd h_99 (by decide)))
              refine mj_iconst dX6_course_106 ni_2 ?_
              refine mj_cvv (K := mX2_addCourse) (c_addK R x n (by omega) hn d (x 0 7) 2) ckX2_addCourse lkX6_150 ⟨Nat.le_of_ble_eq_true rfl, Nat.le_of_ble_eq_true rfl⟩ rfl dX6_course_107 rfl rfl (Nat.le_of_ble_eq_true rfl) (fun x_107 q_107 => ?_)
              subst q_107
              refine mj_aldn dX6_course_110 rfl ?_
              refine mj_cvi (K := mX6_noteNewEvent) (c_nne R (ev_addK x n d (x 0 7) 2) n nb s rfl (by omega) hb (by omega) hs hs6 hsf ⟨0, k, hk6, hk, by omega, fun h => by exfalso; have h : ev_addK x n d (x 0 7) 2 14 n = 0 := h; unfold ev_addK at h; simp [up_at] at h⟩) ckX6_noteNewEvent lkX6_137 ⟨Nat.le_of_ble_eq_true rfl, Nat.le_of_ble_eq_true rfl⟩ rfl dX6_course_111 rfl rfl (Nat.le_of_ble_eq_true rfl) (fun z_111 x_111 q_111 => ?_)
              refine mj_ret rfl dX6_course_114 ?_
              exact hQ _ _ (by rw [if_neg hv, if_neg (by omega), hcn]; exact ⟨fun h => by exfalso; grind, fun _ => q_111⟩)
            · refine mj_iconst dX6_course_76 ni_1 ?_
              refine mj_goto (tgt := 81) dX6_course_77 rfl ?_
              have hcn : crs_no x nb n d 1 = ((lp_f (bn_shF x d (x 0 7)) (-1, x 0 7) nb).1 < 0) := by unfold crs_no; rw [if_neg (by decide)]
              refine mj_istn3 dX6_course_81 rfl ?_
              refine mj_ildn dX6_course_82 rfl ?_
              refine mj_if_eq (tgt := 89) dX6_course_83 rfl (fun h_83 => False.elim (by exact absurd h_83 (by decide))) (fun h_83 => ?_)
              refine mj_bipush dX6_course_86 nb_m2 ?_
              refine mj_ret rfl dX6_course_88 ?_
              exact hQ _ _ (by rw [if_neg hv, if_neg (by omega), hcn]; exact ⟨fun _ => ⟨rfl, rfl⟩, fun h => by exfalso; grind⟩)
          · subst h_34
            refine mj_aldn dX6_course_37 rfl ?_
            refine mj_getr fkX6_29 dX6_course_38 rfl rfl ?_
            refine mj_ildn dX6_course_41 rfl ?_
            refine mj_aldn dX6_course_42 rfl ?_
            refine mj_geti fkX6_98 dX6_course_43 rfl rfl ?_
            refine mj_aldn dX6_course_46 rfl ?_
            refine mj_getr fkX6_19 dX6_course_47 rfl rfl ?_
            refine mj_iconst dX6_course_50 ni_0 ?_
            refine mj_cvp (K := mX5_get) (c_get3 R x 0 (by decide)) ckX5_get lkX6_108 ⟨Nat.le_of_ble_eq_true rfl, Nat.le_of_ble_eq_true rfl⟩ rfl dX6_course_51 rfl rfl (Nat.le_of_ble_eq_true rfl) ?_
            refine mj_isub dX6_course_54 ?_
            refine mj_cvp (K := mX2_hasLightAfter) (c_light R x n (by omega) hn d (x 0 7 - x 4 0)) ckX2_hasLightAfter lkX6_143 ⟨Nat.le_of_ble_eq_true rfl, Nat.le_of_ble_eq_true rfl⟩ rfl dX6_course_55 rfl rfl (Nat.le_of_ble_eq_true rfl) ?_
            refine mj_goto (tgt := 81) dX6_course_58 rfl ?_
            have hcn : crs_no x nb n d 0 = (lp_any (ev_light x d (x 0 7 - x 4 0)) n = true) := by unfold crs_no; rw [if_pos rfl]
            refine mj_istn3 dX6_course_81 rfl ?_
            refine mj_ildn dX6_course_82 rfl ?_
            refine mj_if_eq (tgt := 89) dX6_course_83 rfl (fun h_83 => ?_) (fun h_83 => ?_)
            · rw [bi_z] at h_83
              refine mj_aldn dX6_course_89 rfl ?_
              refine mj_getr fkX6_29 dX6_course_90 rfl rfl ?_
              refine mj_ildn dX6_course_93 rfl ?_
              refine mj_aldn dX6_course_94 rfl ?_
              refine mj_geti fkX6_98 dX6_course_95 rfl rfl ?_
              refine mj_ildn dX6_course_98 rfl ?_
              refine mj_if_ne (tgt := 106) dX6_course_99 rfl (fun h_99 => False.elim (by exact h_99 rfl)) (fun h_99 => ?_)
              refine mj_iconst dX6_course_102 ni_1 ?_
              refine mj_goto (tgt := 107) dX6_course_103 rfl ?_
              refine mj_cvv (K := mX2_addCourse) (c_addK R x n (by omega) hn d (x 0 7) 1) ckX2_addCourse lkX6_150 ⟨Nat.le_of_ble_eq_true rfl, Nat.le_of_ble_eq_true rfl⟩ rfl dX6_course_107 rfl rfl (Nat.le_of_ble_eq_true rfl) (fun x_107 q_107 => ?_)
              subst q_107
              refine mj_aldn dX6_course_110 rfl ?_
              refine mj_cvi (K := mX6_noteNewEvent) (c_nne R (ev_addK x n d (x 0 7) 1) n nb s rfl (by omega) hb (by omega) hs hs6 hsf ⟨0, k, hk6, hk, by omega, fun h => by exfalso; have h : ev_addK x n d (x 0 7) 1 14 n = 0 := h; unfold ev_addK at h; simp [up_at] at h⟩) ckX6_noteNewEvent lkX6_137 ⟨Nat.le_of_ble_eq_true rfl, Nat.le_of_ble_eq_true rfl⟩ rfl dX6_course_111 rfl rfl (Nat.le_of_ble_eq_true rfl) (fun z_111 x_111 q_111 => ?_)
              refine mj_ret rfl dX6_course_114 ?_
              exact hQ _ _ (by rw [if_neg hv, if_neg (by omega), hcn]; exact ⟨fun h => (by rw [h_83] at h; cases h), fun _ => q_111⟩)
            · rw [bi_nz] at h_83
              refine mj_bipush dX6_course_86 nb_m2 ?_
              refine mj_ret rfl dX6_course_88 ?_
              exact hQ _ _ (by rw [if_neg hv, if_neg (by omega), hcn]; exact ⟨fun _ => ⟨rfl, rfl⟩, fun h => absurd h_83 h⟩)
        · have hge : n = 40 := by rw [hn] at h_27; have := mt (nI_ltI (a := n) (b := 40) (by omega) (by decide)).mpr h_27; omega
          refine mj_bipush dX6_course_30 nb_m3 ?_
          refine mj_ret rfl dX6_course_32 ?_
          exact hQ _ _ (by rw [if_neg (by grind), if_pos hge]; exact ⟨rfl, rfl⟩)
      · refine mj_iconst dX6_course_16 ni_m1 ?_
        refine mj_ret rfl dX6_course_17 ?_
        exact hQ _ _ (by rw [if_pos (by grind)]; exact ⟨rfl, rfl⟩)
set_option maxHeartbeats 1000000 in
theorem p_strike (R : List mj_S) (x : mj_X) (n nb s k : Nat) (hw : CW x n nb s k) (e : Int32) : mj_CI mX6_strike (shX ++ R) [.ref 0, .int e] x (fun z y => if ev_isC x n e = false then z = -1 ∧ y = x else if x 19 e.toNatClampNeg = 1 then z = -2 ∧ y = x else ∃ w, ch_no (mj_up x (ev_tc 1) e.toNatClampNeg (1)) w s 1 e (x (ev_tc 1) e.toNatClampNeg) ∧ y = rc_it w n ∧ z = dall y (bnN y) (x 12 e.toNatClampNeg) - dall x nb (x 12 e.toNatClampNeg) + 100000) := by
  have hw0 := hw
  obtain ⟨hn, hn40, hb, hb80, hs, hs6, hk, hk6, hk1, hsf, hcd⟩ := hw
  refine mj_startI (ls := [some (.ref 0), some (.int e)]) (by decide) rfl rfl (fun Q hQ => ?_)
  refine mj_aldn dX6_strike_0 rfl ?_
  refine mj_getr fkX6_29 dX6_strike_1 rfl rfl ?_
  refine mj_ildn dX6_strike_4 rfl ?_
  refine mj_cvp (K := mX2_isConviction) (c_isC R x n (by omega) hn e) ckX2_isConviction lkX6_153 ⟨Nat.le_of_ble_eq_true rfl, Nat.le_of_ble_eq_true rfl⟩ rfl dX6_strike_5 rfl rfl (Nat.le_of_ble_eq_true rfl) ?_
  refine mj_if_ne (tgt := 13) dX6_strike_8 rfl (fun h_8 => ?_) (fun h_8 => ?_)
  · rw [bi_nz] at h_8
    have h8 := h_8
    simp only [ev_isC, decide_eq_true_eq] at h8
    obtain ⟨j, hj, rfl⟩ := ix_of (n := n) (a := e) (by omega) h8.1 h8.2.1
    have ec := nI_clamp (n := j) (by omega)
    rw [ec] at hQ
    refine mj_aldn dX6_strike_13 rfl ?_
    refine mj_getr fkX6_29 dX6_strike_14 rfl rfl ?_
    refine mj_getr fkX6_156 dX6_strike_17 rfl rfl ?_
    refine mj_ildn dX6_strike_20 rfl ?_
    refine mj_iald dX6_strike_21 rfl j (by omega) rfl (by decide) ?_
    refine mj_iconst dX6_strike_22 ni_1 ?_
    refine mj_ic_ne (tgt := 29) dX6_strike_23 rfl (fun h_23 => ?_) (fun h_23 => ?_)
    · refine mj_aldn dX6_strike_29 rfl ?_
      refine mj_iconst dX6_strike_30 ni_1 ?_
      refine mj_ildn dX6_strike_31 rfl ?_
      refine mj_iconst dX6_strike_32 ni_1 ?_
      refine mj_cvi (K := mX6_retell) (c_retell R x n nb s k hw0 j hj 1 1 (by decide)) ckX6_retell lkX6_160 ⟨Nat.le_of_ble_eq_true rfl, Nat.le_of_ble_eq_true rfl⟩ rfl dX6_strike_33 rfl rfl (Nat.le_of_ble_eq_true rfl) (fun z_33 x_33 q_33 => ?_)
      refine mj_ret rfl dX6_strike_36 ?_
      exact hQ _ _ (by rw [if_neg (by rw [h_8]; decide), if_neg h_23]; exact q_33)
    · refine mj_bipush dX6_strike_26 nb_m2 ?_
      refine mj_ret rfl dX6_strike_28 ?_
      exact hQ _ _ (by rw [if_neg (by rw [h_8]; decide), if_pos h_23]; exact ⟨rfl, rfl⟩)
  · rw [bi_z] at h_8
    refine mj_iconst dX6_strike_11 ni_m1 ?_
    refine mj_ret rfl dX6_strike_12 ?_
    exact hQ _ _ (by rw [if_pos h_8]; exact ⟨rfl, rfl⟩)
set_option maxHeartbeats 1000000 in
theorem p_excuse (R : List mj_S) (x : mj_X) (n nb s k : Nat) (hw : CW x n nb s k) (e : Int32) : mj_CI mX6_excuse (shX ++ R) [.ref 0, .int e] x (fun z y => if ev_isC x n e = false then z = -1 ∧ y = x else if x 19 e.toNatClampNeg = 1 then z = -2 ∧ y = x else ∃ w, ch_no (mj_up x (ev_tc 4) e.toNatClampNeg (1 - x 18 e.toNatClampNeg)) w s 4 e (x (ev_tc 4) e.toNatClampNeg) ∧ y = rc_it w n ∧ z = dall y (bnN y) (x 12 e.toNatClampNeg) - dall x nb (x 12 e.toNatClampNeg) + 100000) := by
  have hw0 := hw
  obtain ⟨hn, hn40, hb, hb80, hs, hs6, hk, hk6, hk1, hsf, hcd⟩ := hw
  refine mj_startI (ls := [some (.ref 0), some (.int e)]) (by decide) rfl rfl (fun Q hQ => ?_)
  refine mj_aldn dX6_excuse_0 rfl ?_
  refine mj_getr fkX6_29 dX6_excuse_1 rfl rfl ?_
  refine mj_ildn dX6_excuse_4 rfl ?_
  refine mj_cvp (K := mX2_isConviction) (c_isC R x n (by omega) hn e) ckX2_isConviction lkX6_153 ⟨Nat.le_of_ble_eq_true rfl, Nat.le_of_ble_eq_true rfl⟩ rfl dX6_excuse_5 rfl rfl (Nat.le_of_ble_eq_true rfl) ?_
  refine mj_if_ne (tgt := 13) dX6_excuse_8 rfl (fun h_8 => ?_) (fun h_8 => ?_)
  · rw [bi_nz] at h_8
    have h8 := h_8
    simp only [ev_isC, decide_eq_true_eq] at h8
    obtain ⟨j, hj, rfl⟩ := ix_of (n := n) (a := e) (by omega) h8.1 h8.2.1
    have ec := nI_clamp (n := j) (by omega)
    rw [ec] at hQ
    refine mj_aldn dX6_excuse_13 rfl ?_
    refine mj_getr fkX6_29 dX6_excuse_14 rfl rfl ?_
    refine mj_getr fkX6_156 dX6_excuse_17 rfl rfl ?_
    refine mj_ildn dX6_excuse_20 rfl ?_
    refine mj_iald dX6_excuse_21 rfl j (by omega) rfl (by decide) ?_
    refine mj_iconst dX6_excuse_22 ni_1 ?_
    refine mj_ic_ne (tgt := 29) dX6_excuse_23 rfl (fun h_23 => ?_) (fun h_23 => ?_)
    · refine mj_aldn dX6_excuse_29 rfl ?_
      refine mj_iconst dX6_excuse_30 ni_4 ?_
      refine mj_ildn dX6_excuse_31 rfl ?_
      refine mj_iconst dX6_excuse_32 ni_1 ?_
      refine mj_aldn dX6_excuse_33 rfl ?_
      refine mj_getr fkX6_29 dX6_excuse_34 rfl rfl ?_
      refine mj_getr fkX6_173 dX6_excuse_37 rfl rfl ?_
      refine mj_ildn dX6_excuse_40 rfl ?_
      refine mj_iald dX6_excuse_41 rfl j (by omega) rfl (by decide) ?_
      refine mj_isub dX6_excuse_42 ?_
      refine mj_cvi (K := mX6_retell) (c_retell R x n nb s k hw0 j hj 4 (1 - x 18 j) (by decide)) ckX6_retell lkX6_160 ⟨Nat.le_of_ble_eq_true rfl, Nat.le_of_ble_eq_true rfl⟩ rfl dX6_excuse_43 rfl rfl (Nat.le_of_ble_eq_true rfl) (fun z_43 x_43 q_43 => ?_)
      refine mj_ret rfl dX6_excuse_46 ?_
      exact hQ _ _ (by rw [if_neg (by rw [h_8]; decide), if_neg h_23]; exact q_43)
    · refine mj_bipush dX6_excuse_26 nb_m2 ?_
      refine mj_ret rfl dX6_excuse_28 ?_
      exact hQ _ _ (by rw [if_neg (by rw [h_8]; decide), if_pos h_23]; exact ⟨rfl, rfl⟩)
  · rw [bi_z] at h_8
    refine mj_iconst dX6_excuse_11 ni_m1 ?_
    refine mj_ret rfl dX6_excuse_12 ?_
    exact hQ _ _ (by rw [if_pos h_8]; exact ⟨rfl, rfl⟩)
set_option maxHeartbeats 1000000 in
theorem p_lower (R : List mj_S) (x : mj_X) (n nb s k : Nat) (hw : CW x n nb s k) (e v : Int32) : mj_CI mX6_lower (shX ++ R) [.ref 0, .int e, .int v] x (fun z y => if ¬ (ev_isC x n e = true ∧ 0 ≤ v ∧ v ≤ 8) then z = -1 ∧ y = x else if x 19 e.toNatClampNeg = 1 ∨ x 17 e.toNatClampNeg ≤ v then z = -2 ∧ y = x else ∃ w, ch_no (mj_up x (ev_tc 2) e.toNatClampNeg (v)) w s 2 e (x (ev_tc 2) e.toNatClampNeg) ∧ y = rc_it w n ∧ z = dall y (bnN y) (x 12 e.toNatClampNeg) - dall x nb (x 12 e.toNatClampNeg) + 100000) := by
  have hw0 := hw
  obtain ⟨hn, hn40, hb, hb80, hs, hs6, hk, hk6, hk1, hsf, hcd⟩ := hw
  refine mj_startI (ls := [some (.ref 0), some (.int e), some (.int v)]) (by decide) rfl rfl (fun Q hQ => ?_)
  refine mj_aldn dX6_lower_0 rfl ?_
  refine mj_getr fkX6_29 dX6_lower_1 rfl rfl ?_
  refine mj_ildn dX6_lower_4 rfl ?_
  refine mj_cvp (K := mX2_isConviction) (c_isC R x n (by omega) hn e) ckX2_isConviction lkX6_153 ⟨Nat.le_of_ble_eq_true rfl, Nat.le_of_ble_eq_true rfl⟩ rfl dX6_lower_5 rfl rfl (Nat.le_of_ble_eq_true rfl) ?_
  refine mj_if_eq (tgt := 21) dX6_lower_8 rfl (fun h_8 => ?_) (fun h_8 => ?_)
  · rw [bi_z] at h_8
    refine mj_iconst dX6_lower_21 ni_m1 ?_
    refine mj_ret rfl dX6_lower_22 ?_
    exact hQ _ _ (by rw [if_pos (by grind)]; exact ⟨rfl, rfl⟩)
  · rw [bi_nz] at h_8
    have h8 := h_8
    simp only [ev_isC, decide_eq_true_eq] at h8
    obtain ⟨j, hj, rfl⟩ := ix_of (n := n) (a := e) (by omega) h8.1 h8.2.1
    have ec := nI_clamp (n := j) (by omega)
    rw [ec] at hQ
    refine mj_ildn dX6_lower_11 rfl ?_
    refine mj_if_lt (tgt := 21) dX6_lower_12 rfl (fun h_12 => ?_) (fun h_12 => ?_)
    · refine mj_iconst dX6_lower_21 ni_m1 ?_
      refine mj_ret rfl dX6_lower_22 ?_
      exact hQ _ _ (by rw [if_pos (by grind)]; exact ⟨rfl, rfl⟩)
    · refine mj_ildn dX6_lower_15 rfl ?_
      refine mj_bipush dX6_lower_16 nb_8 ?_
      refine mj_ic_le (tgt := 23) dX6_lower_18 rfl (fun h_18 => ?_) (fun h_18 => ?_)
      · refine mj_aldn dX6_lower_23 rfl ?_
        refine mj_getr fkX6_29 dX6_lower_24 rfl rfl ?_
        refine mj_getr fkX6_156 dX6_lower_27 rfl rfl ?_
        refine mj_ildn dX6_lower_30 rfl ?_
        refine mj_iald dX6_lower_31 rfl j (by omega) rfl (by decide) ?_
        refine mj_iconst dX6_lower_32 ni_1 ?_
        refine mj_ic_eq (tgt := 49) dX6_lower_33 rfl (fun h_33 => ?_) (fun h_33 => ?_)
        · refine mj_bipush dX6_lower_49 nb_m2 ?_
          refine mj_ret rfl dX6_lower_51 ?_
          exact hQ _ _ (by rw [if_neg (by grind), if_pos (by grind)]; exact ⟨rfl, rfl⟩)
        · refine mj_aldn dX6_lower_36 rfl ?_
          refine mj_getr fkX6_29 dX6_lower_37 rfl rfl ?_
          refine mj_getr fkX6_164 dX6_lower_40 rfl rfl ?_
          refine mj_ildn dX6_lower_43 rfl ?_
          refine mj_iald dX6_lower_44 rfl j (by omega) rfl (by decide) ?_
          refine mj_ildn dX6_lower_45 rfl ?_
          refine mj_ic_gt (tgt := 52) dX6_lower_46 rfl (fun h_46 => ?_) (fun h_46 => ?_)
          · refine mj_aldn dX6_lower_52 rfl ?_
            refine mj_iconst dX6_lower_53 ni_2 ?_
            refine mj_ildn dX6_lower_54 rfl ?_
            refine mj_ildn dX6_lower_55 rfl ?_
            refine mj_cvi (K := mX6_retell) (c_retell R x n nb s k hw0 j hj 2 v (by decide)) ckX6_retell lkX6_160 ⟨Nat.le_of_ble_eq_true rfl, Nat.le_of_ble_eq_true rfl⟩ rfl dX6_lower_56 rfl rfl (Nat.le_of_ble_eq_true rfl) (fun z_56 x_56 q_56 => ?_)
            refine mj_ret rfl dX6_lower_59 ?_
            exact hQ _ _ (by rw [if_neg (by grind), if_neg (by grind)]; exact q_56)
          · refine mj_bipush dX6_lower_49 nb_m2 ?_
            refine mj_ret rfl dX6_lower_51 ?_
            exact hQ _ _ (by rw [if_neg (by grind), if_pos (by grind)]; exact ⟨rfl, rfl⟩)
      · refine mj_iconst dX6_lower_21 ni_m1 ?_
        refine mj_ret rfl dX6_lower_22 ?_
        exact hQ _ _ (by rw [if_pos (by grind)]; exact ⟨rfl, rfl⟩)
set_option maxHeartbeats 1000000 in
theorem p_redate (R : List mj_S) (x : mj_X) (n nb s k : Nat) (hw : CW x n nb s k) (e v : Int32) : mj_CI mX6_redate (shX ++ R) [.ref 0, .int e, .int v] x (fun z y => if ¬ (ev_isC x n e = true ∧ 0 ≤ v ∧ v ≤ x 13 e.toNatClampNeg) then z = -1 ∧ y = x else if x 19 e.toNatClampNeg = 1 ∨ x 15 e.toNatClampNeg = v then z = -2 ∧ y = x else ∃ w, ch_no (mj_up x (ev_tc 3) e.toNatClampNeg (v)) w s 3 e (x (ev_tc 3) e.toNatClampNeg) ∧ y = rc_it w n ∧ z = dall y (bnN y) (x 12 e.toNatClampNeg) - dall x nb (x 12 e.toNatClampNeg) + 100000) := by
  have hw0 := hw
  obtain ⟨hn, hn40, hb, hb80, hs, hs6, hk, hk6, hk1, hsf, hcd⟩ := hw
  refine mj_startI (ls := [some (.ref 0), some (.int e), some (.int v)]) (by decide) rfl rfl (fun Q hQ => ?_)
  refine mj_aldn dX6_redate_0 rfl ?_
  refine mj_getr fkX6_29 dX6_redate_1 rfl rfl ?_
  refine mj_ildn dX6_redate_4 rfl ?_
  refine mj_cvp (K := mX2_isConviction) (c_isC R x n (by omega) hn e) ckX2_isConviction lkX6_153 ⟨Nat.le_of_ble_eq_true rfl, Nat.le_of_ble_eq_true rfl⟩ rfl dX6_redate_5 rfl rfl (Nat.le_of_ble_eq_true rfl) ?_
  refine mj_if_eq (tgt := 28) dX6_redate_8 rfl (fun h_8 => ?_) (fun h_8 => ?_)
  · rw [bi_z] at h_8
    refine mj_iconst dX6_redate_28 ni_m1 ?_
    refine mj_ret rfl dX6_redate_29 ?_
    exact hQ _ _ (by rw [if_pos (by grind)]; exact ⟨rfl, rfl⟩)
  · rw [bi_nz] at h_8
    have h8 := h_8
    simp only [ev_isC, decide_eq_true_eq] at h8
    obtain ⟨j, hj, rfl⟩ := ix_of (n := n) (a := e) (by omega) h8.1 h8.2.1
    have ec := nI_clamp (n := j) (by omega)
    rw [ec] at hQ
    refine mj_ildn dX6_redate_11 rfl ?_
    refine mj_if_lt (tgt := 28) dX6_redate_12 rfl (fun h_12 => ?_) (fun h_12 => ?_)
    · refine mj_iconst dX6_redate_28 ni_m1 ?_
      refine mj_ret rfl dX6_redate_29 ?_
      exact hQ _ _ (by rw [if_pos (by grind)]; exact ⟨rfl, rfl⟩)
    · refine mj_ildn dX6_redate_15 rfl ?_
      refine mj_aldn dX6_redate_16 rfl ?_
      refine mj_getr fkX6_29 dX6_redate_17 rfl rfl ?_
      refine mj_getr fkX6_167 dX6_redate_20 rfl rfl ?_
      refine mj_ildn dX6_redate_23 rfl ?_
      refine mj_iald dX6_redate_24 rfl j (by omega) rfl (by decide) ?_
      refine mj_ic_le (tgt := 30) dX6_redate_25 rfl (fun h_25 => ?_) (fun h_25 => ?_)
      · refine mj_aldn dX6_redate_30 rfl ?_
        refine mj_getr fkX6_29 dX6_redate_31 rfl rfl ?_
        refine mj_getr fkX6_156 dX6_redate_34 rfl rfl ?_
        refine mj_ildn dX6_redate_37 rfl ?_
        refine mj_iald dX6_redate_38 rfl j (by omega) rfl (by decide) ?_
        refine mj_iconst dX6_redate_39 ni_1 ?_
        refine mj_ic_eq (tgt := 56) dX6_redate_40 rfl (fun h_40 => ?_) (fun h_40 => ?_)
        · refine mj_bipush dX6_redate_56 nb_m2 ?_
          refine mj_ret rfl dX6_redate_58 ?_
          exact hQ _ _ (by rw [if_neg (by grind), if_pos (by grind)]; exact ⟨rfl, rfl⟩)
        · refine mj_aldn dX6_redate_43 rfl ?_
          refine mj_getr fkX6_29 dX6_redate_44 rfl rfl ?_
          refine mj_getr fkX6_170 dX6_redate_47 rfl rfl ?_
          refine mj_ildn dX6_redate_50 rfl ?_
          refine mj_iald dX6_redate_51 rfl j (by omega) rfl (by decide) ?_
          refine mj_ildn dX6_redate_52 rfl ?_
          refine mj_ic_ne (tgt := 59) dX6_redate_53 rfl (fun h_53 => ?_) (fun h_53 => ?_)
          · refine mj_aldn dX6_redate_59 rfl ?_
            refine mj_iconst dX6_redate_60 ni_3 ?_
            refine mj_ildn dX6_redate_61 rfl ?_
            refine mj_ildn dX6_redate_62 rfl ?_
            refine mj_cvi (K := mX6_retell) (c_retell R x n nb s k hw0 j hj 3 v (by decide)) ckX6_retell lkX6_160 ⟨Nat.le_of_ble_eq_true rfl, Nat.le_of_ble_eq_true rfl⟩ rfl dX6_redate_63 rfl rfl (Nat.le_of_ble_eq_true rfl) (fun z_63 x_63 q_63 => ?_)
            refine mj_ret rfl dX6_redate_66 ?_
            exact hQ _ _ (by rw [if_neg (by grind), if_neg (by grind)]; exact q_63)
          · refine mj_bipush dX6_redate_56 nb_m2 ?_
            refine mj_ret rfl dX6_redate_58 ?_
            exact hQ _ _ (by rw [if_neg (by grind), if_pos (by grind)]; exact ⟨rfl, rfl⟩)
      · refine mj_iconst dX6_redate_28 ni_m1 ?_
        refine mj_ret rfl dX6_redate_29 ?_
        exact hQ _ _ (by rw [if_pos (by grind)]; exact ⟨rfl, rfl⟩)
set_option maxHeartbeats 1000000 in
theorem p_would (R : List mj_S) (x : mj_X) (n nb s k : Nat) (hw : CW x n nb s k) (d o c : Int32) : mj_CI mX6_would (shX ++ R) [.ref 0, .int d, .int o, .int c] x (fun z y => if of_ok x k d o c = false then z = -1 ∧ y = x else ∃ v, v = rc_next (ev_addC x n d (x 0 7) o c (x 5 c.toNatClampNeg) 0) n ∧ z = dall v (bnN v) d - dall x nb d ∧ y = rc_it (mj_up v 11 12 (nI n)) n) := by
  have hw0 := hw
  obtain ⟨hn, hn40, hb, hb80, hs, hs6, hk, hk6, hk1, hsf, hcd⟩ := hw
  refine mj_startI (ls := [some (.ref 0), some (.int d), some (.int o), some (.int c), none, none]) (by decide) rfl rfl (fun Q hQ => ?_)
  refine mj_aldn dX6_would_0 rfl ?_
  refine mj_ildn dX6_would_1 rfl ?_
  refine mj_ildn dX6_would_2 rfl ?_
  refine mj_ildn dX6_would_3 rfl ?_
  refine mj_cvp (K := mX6_canBeOffence) (c_ofok R x n nb s k hw0 d o c) ckX6_canBeOffence lkX6_129 ⟨Nat.le_of_ble_eq_true rfl, Nat.le_of_ble_eq_true rfl⟩ rfl dX6_would_4 rfl rfl (Nat.le_of_ble_eq_true rfl) ?_
  refine mj_if_ne (tgt := 12) dX6_would_7 rfl (fun h_7 => ?_) (fun h_7 => ?_)
  · rw [bi_nz] at h_7
    have h7 := h_7
    simp only [of_ok, decide_eq_true_eq] at h7
    obtain ⟨-, -, -, hc0, hc1⟩ := h7
    obtain ⟨j, hj, rfl⟩ := ix_of (n := k) (a := c) (by omega) hc0 hc1
    have ec := nI_clamp (n := j) (by omega)
    rw [ec] at hQ
    refine mj_aldn dX6_would_12 rfl ?_
    refine mj_ildn dX6_would_13 rfl ?_
    refine mj_cvp (K := mX6_daysInAll) (c_dall R x nb (by omega) hb d) ckX6_daysInAll lkX6_221 ⟨Nat.le_of_ble_eq_true rfl, Nat.le_of_ble_eq_true rfl⟩ rfl dX6_would_14 rfl rfl (Nat.le_of_ble_eq_true rfl) ?_
    refine mj_ist4 dX6_would_17 rfl ?_
    refine mj_aldn dX6_would_19 rfl ?_
    refine mj_getr fkX6_29 dX6_would_20 rfl rfl ?_
    refine mj_ildn dX6_would_23 rfl ?_
    refine mj_aldn dX6_would_24 rfl ?_
    refine mj_geti fkX6_98 dX6_would_25 rfl rfl ?_
    refine mj_ildn dX6_would_28 rfl ?_
    refine mj_ildn dX6_would_29 rfl ?_
    refine mj_aldn dX6_would_30 rfl ?_
    refine mj_getr fkX6_19 dX6_would_31 rfl rfl ?_
    refine mj_ildn dX6_would_34 rfl ?_
    refine mj_cvp (K := mX5_pointsOf) (c_pts _ 3 (ru_sh3 R) x k hk6 hk j hj) ckX5_pointsOf lkX6_123 ⟨Nat.le_of_ble_eq_true rfl, Nat.le_of_ble_eq_true rfl⟩ rfl dX6_would_35 rfl rfl (Nat.le_of_ble_eq_true rfl) ?_
    refine mj_iconst dX6_would_38 ni_0 ?_
    refine mj_cvv (K := mX2_addConviction) (c_addC R x n (by omega) hn d (x 0 7) o (nI j) (x 5 j) 0) ckX2_addConviction lkX6_133 ⟨Nat.le_of_ble_eq_true rfl, Nat.le_of_ble_eq_true rfl⟩ rfl dX6_would_39 rfl rfl (Nat.le_of_ble_eq_true rfl) (fun x_39 q_39 => ?_)
    have hx39 : x_39 11 12 = nI (n + 1) := by rw [q_39]; rfl
    have fr0 : ∀ c, (c < 11 ∨ 19 < c) → x_39 c = x c := fun c hc => by rw [q_39]; unfold ev_addC; rw [up_ne (by omega), up_ne (by omega), up_ne (by omega), up_ne (by omega), up_ne (by omega), up_ne (by omega), up_ne (by omega), up_ne (by omega), up_ne (by omega)]
    refine mj_aldn dX6_would_42 rfl ?_
    refine mj_getr fkX6_45 dX6_would_43 rfl rfl ?_
    refine mj_cvv (K := mX3_reckonNext) (c_rnext R x_39 (n + 1) (by omega) hx39 n (by omega) (by rw [fr0 32 (by omega)]; exact hsf) nb (by omega) (by rw [fr0 24 (by omega)]; exact hb) ⟨j, k, hk6, by rw [fr0 3 (by omega)]; exact hk, hj, fun _ => by rw [q_39]; unfold ev_addC; simp [up_at]⟩) ckX3_reckonNext lkX6_224 ⟨Nat.le_of_ble_eq_true rfl, Nat.le_of_ble_eq_true rfl⟩ rfl dX6_would_46 rfl rfl (Nat.le_of_ble_eq_true rfl) (fun x_46 q_46 => ?_)
    obtain ⟨m2, hm1, -, hm2⟩ := nb_next (x := x_39) (e := n) (nb := nb) (by omega) (by rw [fr0 24 (by omega)]; exact hb)
    rw [← q_46] at hm2
    have fr1 : ∀ c, fr_k c → x_46 c = x_39 c := fun c hc => by rw [q_46]; exact fr_next hc
    refine mj_aldn dX6_would_49 rfl ?_
    refine mj_ildn dX6_would_50 rfl ?_
    refine mj_cvp (K := mX6_daysInAll) (c_dall R x_46 m2 (by omega) hm2 d) ckX6_daysInAll lkX6_221 ⟨Nat.le_of_ble_eq_true rfl, Nat.le_of_ble_eq_true rfl⟩ rfl dX6_would_51 rfl rfl (Nat.le_of_ble_eq_true rfl) ?_
    refine mj_ist5 dX6_would_54 rfl ?_
    refine mj_aldn dX6_would_56 rfl ?_
    refine mj_getr fkX6_29 dX6_would_57 rfl rfl ?_
    refine mj_cvv (K := mX2_dropLast) (c_evdrop R x_46 n (by omega) (by rw [fr1 11 (Or.inl (by decide))]; exact hx39)) ckX2_dropLast lkX6_183 ⟨Nat.le_of_ble_eq_true rfl, Nat.le_of_ble_eq_true rfl⟩ rfl dX6_would_60 rfl rfl (Nat.le_of_ble_eq_true rfl) (fun x_60 q_60 => ?_)
    have cdy : ∀ e, e < n → cd_ok x_60 e := by
      intro e he
      obtain ⟨a, b, h1, h2, h3, h4⟩ := hcd e he
      refine ⟨a, b, h1, ?_, h3, ?_⟩
      · rw [q_60, up_ne (by decide), fr1 3 (Or.inl (by decide)), fr0 3 (by omega)]; exact h2
      · rw [q_60, up_ne (by decide), up_ne (by decide), fr1 14 (Or.inl (by decide)), fr1 16 (Or.inl (by decide)), q_39]
        unfold ev_addC
        simp only [up_at, show ¬ e = n by omega, and_false, if_false]
        exact h4
    refine mj_aldn dX6_would_63 rfl ?_
    refine mj_getr fkX6_45 dX6_would_64 rfl rfl ?_
    refine mj_cvv (K := mX3_reckonAll) (c_rall R x_60 n (by omega) (by rw [q_60]; rfl) cdy) ckX3_reckonAll lkX6_101 ⟨Nat.le_of_ble_eq_true rfl, Nat.le_of_ble_eq_true rfl⟩ rfl dX6_would_67 rfl rfl (Nat.le_of_ble_eq_true rfl) (fun x_67 q_67 => ?_)
    refine mj_ild dX6_would_70 rfl ?_
    refine mj_ild dX6_would_72 rfl ?_
    refine mj_isub dX6_would_74 ?_
    refine mj_ret rfl dX6_would_75 ?_
    exact hQ _ _ (by rw [if_neg (by rw [h_7]; decide)]; exact ⟨x_46, by rw [q_46, q_39], by rw [bnN_eq (by omega) hm2], by rw [q_67, q_60]⟩)
  · rw [bi_z] at h_7
    refine mj_iconst dX6_would_10 ni_m1 ?_
    refine mj_ret rfl dX6_would_11 ?_
    exact hQ _ _ (by rw [if_pos h_7]; exact ⟨rfl, rfl⟩)
set_option maxHeartbeats 1000000 in
theorem p_count (R : List mj_S) (x : mj_X) (n nb s k : Nat) (hw : CW x n nb s k) (w : Int32) : mj_CP mX6_count (shX ++ R) [.ref 0, .int w] x (if w = 0 then nI k else if w = 1 then nI n else if w = 2 then x 0 7 else if w = 3 then nI s else if w = 4 then x 1 1 else if w = 5 then x 4 0 else if w = 6 then x 4 1 else if w = 7 then x 4 2 else if w = 8 then x 4 3 else if w = 9 then x 4 4 else if w = 10 then x 4 5 else if w = 11 then nI nb else -1) := by
  obtain ⟨hn, hn40, hb, hb80, hs, hs6, hk, hk6, hk1, hsf, hcd⟩ := hw
  refine mj_startP (ls := [some (.ref 0), some (.int w)]) (by decide) rfl rfl (fun Q hQ => ?_)
  refine mj_ildn dX6_count_0 rfl ?_
  by_cases s1_0 : w = 0
  · subst s1_0
    refine mj_tableIn (off := 63) (tgt := 64) dX6_count_1 (by decide) (by decide) (by decide) rfl ?_
    refine mj_aldn dX6_count_64 rfl ?_
    refine mj_getr fkX6_19 dX6_count_65 rfl rfl ?_
    refine mj_geti fkX6_88 dX6_count_68 rfl rfl ?_
    refine mj_ret rfl dX6_count_71 ?_
    exact mj_q hQ (by simp [hk])
  by_cases s1_1 : w = 1
  · subst s1_1
    refine mj_tableIn (off := 71) (tgt := 72) dX6_count_1 (by decide) (by decide) (by decide) rfl ?_
    refine mj_aldn dX6_count_72 rfl ?_
    refine mj_getr fkX6_29 dX6_count_73 rfl rfl ?_
    refine mj_geti fkX6_94 dX6_count_76 rfl rfl ?_
    refine mj_ret rfl dX6_count_79 ?_
    exact mj_q hQ (by simp [hn])
  by_cases s1_2 : w = 2
  · subst s1_2
    refine mj_tableIn (off := 79) (tgt := 80) dX6_count_1 (by decide) (by decide) (by decide) rfl ?_
    refine mj_aldn dX6_count_80 rfl ?_
    refine mj_geti fkX6_98 dX6_count_81 rfl rfl ?_
    refine mj_ret rfl dX6_count_84 ?_
    exact mj_q hQ (by simp [s1_0, s1_1])
  by_cases s1_3 : w = 3
  · subst s1_3
    refine mj_tableIn (off := 84) (tgt := 85) dX6_count_1 (by decide) (by decide) (by decide) rfl ?_
    refine mj_aldn dX6_count_85 rfl ?_
    refine mj_getr fkX6_52 dX6_count_86 rfl rfl ?_
    refine mj_geti fkX6_97 dX6_count_89 rfl rfl ?_
    refine mj_ret rfl dX6_count_92 ?_
    exact mj_q hQ (by simp [hs])
  by_cases s1_4 : w = 4
  · subst s1_4
    refine mj_tableIn (off := 92) (tgt := 93) dX6_count_1 (by decide) (by decide) (by decide) rfl ?_
    refine mj_aldn dX6_count_93 rfl ?_
    refine mj_getr fkX6_10 dX6_count_94 rfl rfl ?_
    refine mj_geti fkX6_79 dX6_count_97 rfl rfl ?_
    refine mj_ret rfl dX6_count_100 ?_
    exact mj_q hQ (by simp [s1_0, s1_1, s1_2, s1_3])
  by_cases s1_5 : w = 5
  · subst s1_5
    refine mj_tableIn (off := 100) (tgt := 101) dX6_count_1 (by decide) (by decide) (by decide) rfl ?_
    refine mj_aldn dX6_count_101 rfl ?_
    refine mj_getr fkX6_19 dX6_count_102 rfl rfl ?_
    refine mj_iconst dX6_count_105 ni_0 ?_
    refine mj_cvp (K := mX5_get) (c_get3 R x 0 (by decide)) ckX5_get lkX6_108 ⟨Nat.le_of_ble_eq_true rfl, Nat.le_of_ble_eq_true rfl⟩ rfl dX6_count_106 rfl rfl (Nat.le_of_ble_eq_true rfl) ?_
    refine mj_ret rfl dX6_count_109 ?_
    exact mj_q hQ (by simp [s1_0, s1_1, s1_2, s1_3, s1_4])
  by_cases s1_6 : w = 6
  · subst s1_6
    refine mj_tableIn (off := 109) (tgt := 110) dX6_count_1 (by decide) (by decide) (by decide) rfl ?_
    refine mj_aldn dX6_count_110 rfl ?_
    refine mj_getr fkX6_19 dX6_count_111 rfl rfl ?_
    refine mj_iconst dX6_count_114 ni_1 ?_
    refine mj_cvp (K := mX5_get) (c_get3 R x 1 (by decide)) ckX5_get lkX6_108 ⟨Nat.le_of_ble_eq_true rfl, Nat.le_of_ble_eq_true rfl⟩ rfl dX6_count_115 rfl rfl (Nat.le_of_ble_eq_true rfl) ?_
    refine mj_ret rfl dX6_count_118 ?_
    exact mj_q hQ (by simp [s1_0, s1_1, s1_2, s1_3, s1_4, s1_5])
  by_cases s1_7 : w = 7
  · subst s1_7
    refine mj_tableIn (off := 118) (tgt := 119) dX6_count_1 (by decide) (by decide) (by decide) rfl ?_
    refine mj_aldn dX6_count_119 rfl ?_
    refine mj_getr fkX6_19 dX6_count_120 rfl rfl ?_
    refine mj_iconst dX6_count_123 ni_2 ?_
    refine mj_cvp (K := mX5_get) (c_get3 R x 2 (by decide)) ckX5_get lkX6_108 ⟨Nat.le_of_ble_eq_true rfl, Nat.le_of_ble_eq_true rfl⟩ rfl dX6_count_124 rfl rfl (Nat.le_of_ble_eq_true rfl) ?_
    refine mj_ret rfl dX6_count_127 ?_
    exact mj_q hQ (by simp [s1_0, s1_1, s1_2, s1_3, s1_4, s1_5, s1_6])
  by_cases s1_8 : w = 8
  · subst s1_8
    refine mj_tableIn (off := 127) (tgt := 128) dX6_count_1 (by decide) (by decide) (by decide) rfl ?_
    refine mj_aldn dX6_count_128 rfl ?_
    refine mj_getr fkX6_19 dX6_count_129 rfl rfl ?_
    refine mj_iconst dX6_count_132 ni_3 ?_
    refine mj_cvp (K := mX5_get) (c_get3 R x 3 (by decide)) ckX5_get lkX6_108 ⟨Nat.le_of_ble_eq_true rfl, Nat.le_of_ble_eq_true rfl⟩ rfl dX6_count_133 rfl rfl (Nat.le_of_ble_eq_true rfl) ?_
    refine mj_ret rfl dX6_count_136 ?_
    exact mj_q hQ (by simp [s1_0, s1_1, s1_2, s1_3, s1_4, s1_5, s1_6, s1_7])
  by_cases s1_9 : w = 9
  · subst s1_9
    refine mj_tableIn (off := 136) (tgt := 137) dX6_count_1 (by decide) (by decide) (by decide) rfl ?_
    refine mj_aldn dX6_count_137 rfl ?_
    refine mj_getr fkX6_19 dX6_count_138 rfl rfl ?_
    refine mj_iconst dX6_count_141 ni_4 ?_
    refine mj_cvp (K := mX5_get) (c_get3 R x 4 (by decide)) ckX5_get lkX6_108 ⟨Nat.le_of_ble_eq_true rfl, Nat.le_of_ble_eq_true rfl⟩ rfl dX6_count_142 rfl rfl (Nat.le_of_ble_eq_true rfl) ?_
    refine mj_ret rfl dX6_count_145 ?_
    exact mj_q hQ (by simp [s1_0, s1_1, s1_2, s1_3, s1_4, s1_5, s1_6, s1_7, s1_8])
  by_cases s1_10 : w = 10
  · subst s1_10
    refine mj_tableIn (off := 145) (tgt := 146) dX6_count_1 (by decide) (by decide) (by decide) rfl ?_
    refine mj_aldn dX6_count_146 rfl ?_
    refine mj_getr fkX6_19 dX6_count_147 rfl rfl ?_
    refine mj_iconst dX6_count_150 ni_5 ?_
    refine mj_cvp (K := mX5_get) (c_get3 R x 5 (by decide)) ckX5_get lkX6_108 ⟨Nat.le_of_ble_eq_true rfl, Nat.le_of_ble_eq_true rfl⟩ rfl dX6_count_151 rfl rfl (Nat.le_of_ble_eq_true rfl) ?_
    refine mj_ret rfl dX6_count_154 ?_
    exact mj_q hQ (by simp [s1_0, s1_1, s1_2, s1_3, s1_4, s1_5, s1_6, s1_7, s1_8, s1_9])
  by_cases s1_11 : w = 11
  · subst s1_11
    refine mj_tableIn (off := 154) (tgt := 155) dX6_count_1 (by decide) (by decide) (by decide) rfl ?_
    refine mj_aldn dX6_count_155 rfl ?_
    refine mj_getr fkX6_36 dX6_count_156 rfl rfl ?_
    refine mj_geti fkX6_247 dX6_count_159 rfl rfl ?_
    refine mj_ret rfl dX6_count_162 ?_
    exact mj_q hQ (by simp [hb])
  refine mj_tableOut (tgt := 163) dX6_count_1 (by have u0 := ti_ne s1_0; rw [tl_0] at u0; have u1 := ti_ne s1_1; rw [tl_1] at u1; have u2 := ti_ne s1_2; rw [tl_2] at u2; have u3 := ti_ne s1_3; rw [tl_3] at u3; have u4 := ti_ne s1_4; rw [tl_4] at u4; have u5 := ti_ne s1_5; rw [tl_5] at u5; have u6 := ti_ne s1_6; rw [tl_6] at u6; have u7 := ti_ne s1_7; rw [tl_7] at u7; have u8 := ti_ne s1_8; rw [tl_8] at u8; have u9 := ti_ne s1_9; rw [tl_9] at u9; have u10 := ti_ne s1_10; rw [tl_10] at u10; have u11 := ti_ne s1_11; rw [tl_11] at u11; omega) rfl ?_
  refine mj_iconst dX6_count_163 ni_m1 ?_
  refine mj_ret rfl dX6_count_164 ?_
  exact mj_q hQ (by simp [s1_0, s1_1, s1_2, s1_3, s1_4, s1_5, s1_6, s1_7, s1_8, s1_9, s1_10, s1_11])
set_option maxHeartbeats 1000000 in
theorem p_seen (R : List mj_S) (x : mj_X) (n nb s k : Nat) (hw : CW x n nb s k) (a d w : Int32) : mj_CP mX6_seen (shX ++ R) [.ref 0, .int a, .int d, .int w] x (if 0 ≤ a ∧ a ≤ 3 ∧ dr d = true ∧ 0 ≤ w ∧ w ≤ 2 then (if w = 0 then (lp_f (seenF x a d) (0, 0, -4) n).1 else if w = 1 then (lp_f (seenF x a d) (0, 0, -4) n).2.1 else (lp_f (seenF x a d) (0, 0, -4) n).2.2) else -1) := by
  have hw0 := hw
  obtain ⟨hn, hn40, hb, hb80, hs, hs6, hk, hk6, hk1, hsf, hcd⟩ := hw
  refine mj_startP (ls := [some (.ref 0), some (.int a), some (.int d), some (.int w), none, none, none, none]) (by decide) rfl rfl (fun Q hQ => ?_)
  refine mj_ildn dX6_seen_0 rfl ?_
  refine mj_if_lt (tgt := 25) dX6_seen_1 rfl (fun h_1 => ?_) (fun h_1 => ?_)
  · refine mj_iconst dX6_seen_25 ni_m1 ?_
    refine mj_ret rfl dX6_seen_26 ?_
    exact mj_q hQ (by rw [if_neg (by grind)])
  · refine mj_ildn dX6_seen_4 rfl ?_
    refine mj_iconst dX6_seen_5 ni_3 ?_
    refine mj_ic_gt (tgt := 25) dX6_seen_6 rfl (fun h_6 => ?_) (fun h_6 => ?_)
    · refine mj_iconst dX6_seen_25 ni_m1 ?_
      refine mj_ret rfl dX6_seen_26 ?_
      exact mj_q hQ (by rw [if_neg (by grind)])
    · refine mj_ildn dX6_seen_9 rfl ?_
      refine mj_csp (K := mX6_isDriver) (c_isDr _ x d) ckX6_isDriver lkX6_140 ⟨Nat.le_of_ble_eq_true rfl, Nat.le_of_ble_eq_true rfl⟩ rfl dX6_seen_10 (Nat.le_of_ble_eq_true rfl) ?_
      refine mj_if_eq (tgt := 25) dX6_seen_13 rfl (fun h_13 => ?_) (fun h_13 => ?_)
      · rw [bi_z] at h_13
        refine mj_iconst dX6_seen_25 ni_m1 ?_
        refine mj_ret rfl dX6_seen_26 ?_
        exact mj_q hQ (by rw [if_neg (by grind)])
      · rw [bi_nz] at h_13
        refine mj_ildn dX6_seen_16 rfl ?_
        refine mj_if_lt (tgt := 25) dX6_seen_17 rfl (fun h_17 => ?_) (fun h_17 => ?_)
        · refine mj_iconst dX6_seen_25 ni_m1 ?_
          refine mj_ret rfl dX6_seen_26 ?_
          exact mj_q hQ (by rw [if_neg (by grind)])
        · refine mj_ildn dX6_seen_20 rfl ?_
          refine mj_iconst dX6_seen_21 ni_2 ?_
          refine mj_ic_le (tgt := 27) dX6_seen_22 rfl (fun h_22 => ?_) (fun h_22 => ?_)
          · refine mj_iconst dX6_seen_27 ni_0 ?_
            refine mj_ist4 dX6_seen_28 rfl ?_
            refine mj_iconst dX6_seen_30 ni_0 ?_
            refine mj_ist5 dX6_seen_31 rfl ?_
            refine mj_bipush dX6_seen_33 nb_m4 ?_
            refine mj_ist6 dX6_seen_35 rfl ?_
            refine mj_iconst dX6_seen_37 ni_0 ?_
            refine mj_ist7 dX6_seen_38 rfl ?_
            have hv : 0 ≤ a ∧ a ≤ 3 ∧ dr d = true ∧ 0 ≤ w ∧ w ≤ 2 := ⟨by grind, by grind, h_13, by grind, by grind⟩
            rw [if_pos hv] at hQ
            have loop : ∀ (k0 j : Nat), j ≤ n → n < j + k0 → mj_V mX6_seen (shX ++ R) Q x 40 [some (.ref 0), some (.int a), some (.int d), some (.int w), some (.int (lp_f (seenF x a d) (0, 0, -4) j).1), some (.int (lp_f (seenF x a d) (0, 0, -4) j).2.1), some (.int (lp_f (seenF x a d) (0, 0, -4) j).2.2), some (.int (nI j))] [] := by
              intro k0
              induction k0 with
              | zero => intro j h1 h2; omega
              | succ k0 ih =>
                intro j h1 h2
                refine mj_ild dX6_seen_40 rfl ?_
                refine mj_aldn dX6_seen_42 rfl ?_
                refine mj_getr fkX6_29 dX6_seen_43 rfl rfl ?_
                refine mj_geti fkX6_94 dX6_seen_46 rfl rfl ?_
                refine mj_ic_ge (tgt := 116) dX6_seen_49 rfl (fun h_49 => ?_) (fun h_49 => ?_)
                · have hj : j = n := by rw [hn, nI_leI (by omega) (by omega)] at h_49; omega
                  subst hj
                  refine mj_ildn dX6_seen_116 rfl ?_
                  refine mj_if_ne (tgt := 123) dX6_seen_117 rfl (fun h_117 => ?_) (fun h_117 => ?_)
                  · refine mj_ildn dX6_seen_123 rfl ?_
                    refine mj_iconst dX6_seen_124 ni_1 ?_
                    refine mj_ic_ne (tgt := 133) dX6_seen_125 rfl (fun h_125 => ?_) (fun h_125 => ?_)
                    · refine mj_ild dX6_seen_133 rfl ?_
                      refine mj_ret rfl dX6_seen_135 ?_
                      exact mj_q hQ (by first | rw [if_pos h_117] | rw [if_neg h_117, if_pos h_125] | rw [if_neg h_117, if_neg h_125])
                    · refine mj_ild dX6_seen_128 rfl ?_
                      refine mj_goto (tgt := 135) dX6_seen_130 rfl ?_
                      refine mj_ret rfl dX6_seen_135 ?_
                      exact mj_q hQ (by first | rw [if_pos h_117] | rw [if_neg h_117, if_pos h_125] | rw [if_neg h_117, if_neg h_125])
                  · refine mj_ild dX6_seen_120 rfl ?_
                    refine mj_ret rfl dX6_seen_122 ?_
                    exact mj_q hQ (by first | rw [if_pos h_117] | rw [if_neg h_117, if_pos h_125] | rw [if_neg h_117, if_neg h_125])
                · have hlt : j < n := by rw [hn, nI_leI (by omega) (by omega)] at h_49; omega
                  refine mj_aldn dX6_seen_52 rfl ?_
                  refine mj_getr fkX6_29 dX6_seen_53 rfl rfl ?_
                  refine mj_ild dX6_seen_56 rfl ?_
                  refine mj_cvp (K := mX2_isConviction) (c_isC R x n (by omega) hn (nI j)) ckX2_isConviction lkX6_153 ⟨Nat.le_of_ble_eq_true rfl, Nat.le_of_ble_eq_true rfl⟩ rfl dX6_seen_58 rfl rfl (Nat.le_of_ble_eq_true rfl) ?_
                  refine mj_if_eq (tgt := 110) dX6_seen_61 rfl (fun h_61 => ?_) (fun h_61 => ?_)
                  · rw [bi_z] at h_61; simp only [ev_isC, decide_eq_false_iff_not] at h_61
                    rw [nI_clamp (by omega)] at h_61
                    have h_61 : ¬ x 14 j = 0 := fun h => h_61 ⟨nI_pos' (by omega), nI_lt hlt (by omega), h⟩
                    refine mj_inc7 dX6_seen_110 ni_1 rfl ?_
                    refine mj_goto (tgt := 40) dX6_seen_113 rfl ?_
                    exact mj_ls (ih (j + 1) (by omega) (by omega)) (by simp [lp_f, nI_1, seenF, seenP, h_49, h_61])
                  · rw [bi_nz] at h_61; simp only [ev_isC, decide_eq_true_eq] at h_61
                    rw [nI_clamp (by omega)] at h_61
                    have h_61 : x 14 j = 0 := h_61.2.2
                    refine mj_aldn dX6_seen_64 rfl ?_
                    refine mj_getr fkX6_29 dX6_seen_65 rfl rfl ?_
                    refine mj_getr fkX6_241 dX6_seen_68 rfl rfl ?_
                    refine mj_ild dX6_seen_71 rfl ?_
                    refine mj_iald dX6_seen_73 rfl j (by omega) rfl (by decide) ?_
                    refine mj_ildn dX6_seen_74 rfl ?_
                    refine mj_ic_ne (tgt := 110) dX6_seen_75 rfl (fun h_75 => ?_) (fun h_75 => ?_)
                    · refine mj_inc7 dX6_seen_110 ni_1 rfl ?_
                      refine mj_goto (tgt := 40) dX6_seen_113 rfl ?_
                      exact mj_ls (ih (j + 1) (by omega) (by omega)) (by simp [lp_f, nI_1, seenF, seenP, h_49, h_61, h_75])
                    · refine mj_aldn dX6_seen_78 rfl ?_
                      refine mj_ildn dX6_seen_79 rfl ?_
                      refine mj_ild dX6_seen_80 rfl ?_
                      refine mj_cvp (K := mX6_sees) (c_sees R x n nb s k hw0 a j hlt) ckX6_sees lkX6_244 ⟨Nat.le_of_ble_eq_true rfl, Nat.le_of_ble_eq_true rfl⟩ rfl dX6_seen_82 rfl rfl (Nat.le_of_ble_eq_true rfl) ?_
                      refine mj_if_eq (tgt := 110) dX6_seen_85 rfl (fun h_85 => ?_) (fun h_85 => ?_)
                      · rw [bi_z] at h_85
                        refine mj_inc7 dX6_seen_110 ni_1 rfl ?_
                        refine mj_goto (tgt := 40) dX6_seen_113 rfl ?_
                        exact mj_ls (ih (j + 1) (by omega) (by omega)) (by simp [lp_f, nI_1, seenF, seenP, h_49, h_61, h_75, h_85])
                      · rw [bi_nz] at h_85
                        refine mj_inc4 dX6_seen_88 ni_1 rfl ?_
                        refine mj_ild dX6_seen_91 rfl ?_
                        refine mj_aldn dX6_seen_93 rfl ?_
                        refine mj_getr fkX6_29 dX6_seen_94 rfl rfl ?_
                        refine mj_getr fkX6_164 dX6_seen_97 rfl rfl ?_
                        refine mj_ild dX6_seen_100 rfl ?_
                        refine mj_iald dX6_seen_102 rfl j (by omega) rfl (by decide) ?_
                        refine mj_iadd dX6_seen_103 ?_
                        refine mj_ist5 dX6_seen_104 rfl ?_
                        refine mj_ild dX6_seen_106 rfl ?_
                        refine mj_ist6 dX6_seen_108 rfl ?_
                        refine mj_inc7 dX6_seen_110 ni_1 rfl ?_
                        refine mj_goto (tgt := 40) dX6_seen_113 rfl ?_
                        exact mj_ls (ih (j + 1) (by omega) (by omega)) (by simp [lp_f, nI_1, seenF, seenP, h_49, h_61, h_75, h_85])
            exact loop (n + 1) 0 (by omega) (by omega)
          · refine mj_iconst dX6_seen_25 ni_m1 ?_
            refine mj_ret rfl dX6_seen_26 ?_
            exact mj_q hQ (by rw [if_neg (by grind)])
