set_option maxHeartbeats 1000000 in
theorem q_write (x : mj_X) (len : Nat) (hlen : len ≤ 200) (hl : x 37 0 = nI len) (a : Int32) : mj_CI mX7_write (shX ++ shM) [.ref 37, .int a] x (fun z y => if ¬ (32 ≤ a ∧ a ≤ 126) then z = -1 ∧ y = x else if len = 200 then z = -3 ∧ y = x else z = nI (len + 1) ∧ y = mj_up (mj_up x 38 len a) 37 0 (nI (len + 1))) := by
  refine mj_startI (ls := [some (.ref 37), some (.int a)]) (by decide) rfl rfl (fun Q hQ => ?_)
  have e1 : x 37 0 + 1 = nI (len + 1) := by rw [hl, nI_1]
  refine mj_ildn dX7_write_0 rfl ?_
  refine mj_i2l dX7_write_1 ?_
  refine mj_ldc2 kkX7_75 dX7_write_2 ?_
  refine mj_ldc2 kkX7_77 dX7_write_5 ?_
  refine mj_csp (K := mX7_in) (c_in _ x a 32 126 32 126 (by decide) (by decide)) ckX7_in lkX7_79 ⟨Nat.le_of_ble_eq_true rfl, Nat.le_of_ble_eq_true rfl⟩ rfl dX7_write_8 (Nat.le_of_ble_eq_true rfl) ?_
  refine mj_if_ne (tgt := 16) dX7_write_11 rfl (fun h_11 => ?_) (fun h_11 => ?_)
  · rw [bi_nz] at h_11; simp only [inn, decide_eq_true_eq] at h_11
    refine mj_aldn dX7_write_16 rfl ?_
    refine mj_geti fkX7_83 dX7_write_17 rfl rfl ?_
    refine mj_sipush dX7_write_20 ns_200 ?_
    refine mj_ic_ne (tgt := 29) dX7_write_23 rfl (fun h_23 => ?_) (fun h_23 => ?_)
    · have h200 : ¬ len = 200 := fun h => h_23 (by rw [hl, h]; rfl)
      refine mj_aldn dX7_write_29 rfl ?_
      refine mj_getr fkX7_7 dX7_write_30 rfl rfl ?_
      refine mj_aldn dX7_write_33 rfl ?_
      refine mj_geti fkX7_83 dX7_write_34 rfl rfl ?_
      refine mj_ildn dX7_write_37 rfl ?_
      refine mj_iast dX7_write_38 rfl len (by omega) hl (by decide) ?_
      refine mj_aldn dX7_write_39 rfl ?_
      refine mj_dupr dX7_write_40 ?_
      refine mj_geti fkX7_83 dX7_write_41 rfl rfl ?_
      refine mj_iconst dX7_write_44 ni_1 ?_
      refine mj_iadd dX7_write_45 ?_
      refine mj_puti fkX7_83 pkX7_0 dX7_write_46 rfl rfl ?_
      refine mj_aldn dX7_write_49 rfl ?_
      refine mj_geti fkX7_83 dX7_write_50 rfl rfl ?_
      refine mj_ret rfl dX7_write_53 ?_
      exact hQ _ _ (by rw [if_neg (fun h => h h_11), if_neg h200]; exact ⟨by rw [up_eq, upd_eq]; exact e1, by rw [← e1]; rfl⟩)
    · have h200 : len = 200 := by rw [hl] at h_23; exact (nI_eq (a := len) (b := 200) (by omega) (by decide)).mp h_23
      refine mj_bipush dX7_write_26 nb_m3 ?_
      refine mj_ret rfl dX7_write_28 ?_
      exact hQ _ _ (by rw [if_neg (fun h => h h_11), if_pos h200]; exact ⟨rfl, rfl⟩)
  · rw [bi_z] at h_11; simp only [inn, decide_eq_false_iff_not] at h_11
    refine mj_iconst dX7_write_14 ni_m1 ?_
    refine mj_ret rfl dX7_write_15 ?_
    exact hQ _ _ (by rw [if_pos h_11]; exact ⟨rfl, rfl⟩)
set_option maxHeartbeats 1000000 in
theorem q_wipe (x : mj_X) : mj_CI mX7_wipe (shX ++ shM) [.ref 37] x (fun z y => z = x 37 0 ∧ y = mj_up x 37 0 0) := by
  refine mj_startI (ls := [some (.ref 37), none]) (by decide) rfl rfl (fun Q hQ => ?_)
  refine mj_aldn dX7_wipe_0 rfl ?_
  refine mj_geti fkX7_83 dX7_wipe_1 rfl rfl ?_
  refine mj_istn1 dX7_wipe_4 rfl ?_
  refine mj_aldn dX7_wipe_5 rfl ?_
  refine mj_iconst dX7_wipe_6 ni_0 ?_
  refine mj_puti fkX7_83 pkX7_0 dX7_wipe_7 rfl rfl ?_
  refine mj_ildn dX7_wipe_10 rfl ?_
  refine mj_ret rfl dX7_wipe_11 ?_
  exact hQ _ _ ⟨rfl, rfl⟩
set_option maxHeartbeats 1000000 in
theorem q_fault (x : mj_X) (len : Nat) (hlen : len ≤ 200) (hl : x 37 0 = nI len) : mj_CI mX7_fault (shX ++ shM) [.ref 37] x (fun z y => mt_A x y z (tx_all (tx_pk (x 38) len) len 200 tx_in)) := by
  refine mj_startI (ls := [some (.ref 37)]) (by decide) rfl rfl (fun Q hQ => ?_)
  refine mj_aldn dX7_fault_0 rfl ?_
  refine mj_cvi (K := mX7_readAll) (c_readAll x len hlen hl) ckX7_readAll lkX7_121 ⟨Nat.le_of_ble_eq_true rfl, Nat.le_of_ble_eq_true rfl⟩ rfl dX7_fault_1 rfl rfl (Nat.le_of_ble_eq_true rfl) (fun z_1 x_1 q_1 => ?_)
  refine mj_ret rfl dX7_fault_4 ?_
  exact hQ _ _ q_1
set_option maxHeartbeats 1000000 in
theorem q_reason (x : mj_X) (len : Nat) (hlen : len ≤ 200) (hl : x 37 0 = nI len) : mj_CI mX7_reason (shX ++ shM) [.ref 37] x (fun z y => z = y 37 13 ∧ ∃ z0, mt_A x y z0 (tx_all (tx_pk (x 38) len) len 200 tx_in)) := by
  refine mj_startI (ls := [some (.ref 37)]) (by decide) rfl rfl (fun Q hQ => ?_)
  refine mj_aldn dX7_reason_0 rfl ?_
  refine mj_cvi (K := mX7_readAll) (c_readAll x len hlen hl) ckX7_readAll lkX7_121 ⟨Nat.le_of_ble_eq_true rfl, Nat.le_of_ble_eq_true rfl⟩ rfl dX7_reason_1 rfl rfl (Nat.le_of_ble_eq_true rfl) (fun z_1 x_1 q_1 => ?_)
  refine mj_popi dX7_reason_4 ?_
  refine mj_aldn dX7_reason_5 rfl ?_
  refine mj_geti fkX7_115 dX7_reason_6 rfl rfl ?_
  refine mj_ret rfl dX7_reason_9 ?_
  exact hQ _ _ ⟨rfl, z_1, q_1⟩
def mlay (x y : mj_X) (z : Int32) (r : (Nat × Int32) ⊕ tx_P) : Prop := match r with
  | .inl _ => z = -2 ∧ ∃ z0, mt_A x y z0 r
  | .inr s => if s.2.2.2.2 = 0 then z = -2 ∧ ∃ z0, mt_A x y z0 r else z = nI s.2.2.2.2 ∧ ∃ v z0, mt_A x v z0 r ∧ mbe v y s.2.2.2.2
theorem tx_all_pl {pk : Nat → Int32} {len : Nat} : ∀ (f : Nat) (s : tx_P) (e : Nat × Int32), tx_all pk len f s = .inl e → e.1 < len
  | 0, s, e, h => by cases h
  | f + 1, s, e, h => by
    rw [tx_all] at h
    split at h
    · split at h
      · cases h; assumption
      · exact tx_all_pl f _ e h
    · cases h
set_option maxHeartbeats 1000000 in
theorem q_lay (x : mj_X) (len : Nat) (hlen : len ≤ 200) (hl : x 37 0 = nI len) : mj_CI mX7_lay (shX ++ shM) [.ref 37] x (fun z y => mlay x y z (tx_all (tx_pk (x 38) len) len 200 tx_in)) := by
  refine mj_startI (ls := [some (.ref 37)]) (by decide) rfl rfl (fun Q hQ => ?_)
  refine mj_aldn dX7_lay_0 rfl ?_
  refine mj_cvi (K := mX7_readAll) (c_readAll x len hlen hl) ckX7_readAll lkX7_121 ⟨Nat.le_of_ble_eq_true rfl, Nat.le_of_ble_eq_true rfl⟩ rfl dX7_lay_1 rfl rfl (Nat.le_of_ble_eq_true rfl) (fun z_1 x_1 q_1 => ?_)
  cases hr : (tx_all (tx_pk (x 38) len) len 200 tx_in) with
  | inl e =>
    have hpl := tx_all_pl _ _ _ hr
    rw [hr] at q_1 hQ
    obtain ⟨rfl, g2, g3⟩ := q_1
    refine mj_bipush dX7_lay_4 nb_m4 ?_
    refine mj_ic_ne (tgt := 16) dX7_lay_6 rfl (fun h_6 => ?_) (fun h_6 => False.elim (by have h := nI_toInt (n := e.1) (by omega); rw [h_6, tl_m4] at h; omega))
    refine mj_bipush dX7_lay_16 nb_m2 ?_
    refine mj_ret rfl dX7_lay_18 ?_
    exact hQ _ _ ⟨rfl, nI e.1, rfl, g2, g3⟩
  | inr s9 =>
    rw [hr] at q_1 hQ
    have hA := q_1
    obtain ⟨rfl, g2, g3, g4, g5, g6, g7⟩ := q_1
    refine mj_bipush dX7_lay_4 nb_m4 ?_
    refine mj_ic_ne (tgt := 16) dX7_lay_6 rfl (fun h_6 => False.elim (by exact h_6 rfl)) (fun h_6 => ?_)
    refine mj_aldn dX7_lay_9 rfl ?_
    refine mj_geti fkX7_71 dX7_lay_10 rfl rfl ?_
    refine mj_if_ne (tgt := 19) dX7_lay_13 rfl (fun h_13 => ?_) (fun h_13 => ?_)
    · have h0 : ¬ s9.2.2.2.2 = 0 := by intro h; rw [g5, h] at h_13; exact h_13 rfl
      refine mj_aldn dX7_lay_19 rfl ?_
      refine mj_cvv (K := mX7_begin) (c_begin x_1 s9.2.2.2.2 g6 g5) ckX7_begin lkX7_68 ⟨Nat.le_of_ble_eq_true rfl, Nat.le_of_ble_eq_true rfl⟩ rfl dX7_lay_20 rfl rfl (Nat.le_of_ble_eq_true rfl) (fun x_20 q_20 => ?_)
      refine mj_aldn dX7_lay_23 rfl ?_
      refine mj_geti fkX7_124 dX7_lay_24 rfl rfl ?_
      refine mj_ret rfl dX7_lay_27 ?_
      exact hQ _ _ (by unfold mlay; dsimp only; rw [if_neg h0]; exact ⟨q_20.2.2.2.2.1, x_1, _, hA, q_20⟩)
    · have h0 : s9.2.2.2.2 = 0 := by
        rw [g5] at h_13
        by_cases h : s9.2.2.2.2 = 0
        · exact h
        · exact absurd h_13 (nI_ne0 (by omega) (by omega))
      refine mj_bipush dX7_lay_16 nb_m2 ?_
      refine mj_ret rfl dX7_lay_18 ?_
      exact hQ _ _ (by unfold mlay; dsimp only; rw [if_pos h0]; exact ⟨rfl, _, hA⟩)
def m_rok (a v : Int32) : Bool := decide (0 ≤ a ∧ a ≤ 5 ∧ (if a < 3 then 1 else 0) ≤ v ∧ v ≤ (if a = 1 ∨ a = 2 then 99 else 999))
theorem m_rok_eq (a v : Int32) : m_rok a v = ru_ok a v := by
  unfold m_rok ru_ok
  rw [decide_eq_decide]
  by_cases h : 0 ≤ a ∧ a ≤ 5
  · obtain ⟨j, hj, rfl⟩ := ix_of (n := 6) (a := a) (by decide) h.1 (by have q : (nI 6 : Int32) = 6 := rfl; rw [q]; grind)
    rw [nI_clamp (by omega)]
    have : j = 0 ∨ j = 1 ∨ j = 2 ∨ j = 3 ∨ j = 4 ∨ j = 5 := by omega
    rcases this with rfl | rfl | rfl | rfl | rfl | rfl <;> simp [mj_st0, mj_st1, nI] <;> decide
  · constructor
    · intro q; exact absurd ⟨q.1, q.2.1⟩ h
    · intro q; exact absurd ⟨q.1, by grind⟩ h
set_option maxHeartbeats 1000000 in
theorem q_rule (x : mj_X) (u : Nat) (hu : u ≤ 6) (hus : x 37 4 = nI u) (a v : Int32) : mj_CI mX7_rule (shX ++ shM) [.ref 37, .int a, .int v] x (fun z y => if m_rok a v = false then z = -1 ∧ y = x else if x 39 (328 + a.toNatClampNeg) = v then z = -2 ∧ y = x else z = x 39 (328 + a.toNatClampNeg) ∧ ∃ w, mno x w u ∧ y = mj_up w 39 (328 + a.toNatClampNeg) v) := by
  refine mj_startI (ls := [some (.ref 37), some (.int a), some (.int v), none, none]) (by decide) rfl rfl (fun Q hQ => ?_)
  have bad : m_rok a v = false → mj_V mX7_rule (shX ++ shM) Q x 54 [some (.ref 37), some (.int a), some (.int v), none, none] [.int 0] := by
    intro hb
    refine mj_istn3 dX7_rule_54 rfl ?_
    refine mj_ildn dX7_rule_55 rfl ?_
    refine mj_if_ne (tgt := 61) dX7_rule_56 rfl (fun h_56 => False.elim (by exact h_56 rfl)) (fun h_56 => ?_)
    refine mj_iconst dX7_rule_59 ni_m1 ?_
    refine mj_ret rfl dX7_rule_60 ?_
    exact hQ _ _ (by rw [if_pos hb]; exact ⟨rfl, rfl⟩)
  have good : m_rok a v = true → mj_V mX7_rule (shX ++ shM) Q x 54 [some (.ref 37), some (.int a), some (.int v), none, none] [.int 1] := by
    intro hb
    have hb2 := hb
    simp only [m_rok, decide_eq_true_eq] at hb2
    obtain ⟨j, hj, rfl⟩ := ix_of (n := 6) (a := a) (by decide) hb2.1 (by have q : (nI 6 : Int32) = 6 := rfl; rw [q]; grind)
    have ec := nI_clamp (n := j) (by omega)
    rw [ec] at hQ
    have eix : (328 : Int32) + nI j = nI (328 + j) := nI_add 328 j
    refine mj_istn3 dX7_rule_54 rfl ?_
    refine mj_ildn dX7_rule_55 rfl ?_
    refine mj_if_ne (tgt := 61) dX7_rule_56 rfl (fun h_56 => ?_) (fun h_56 => False.elim (by exact absurd h_56 (by decide)))
    refine mj_aldn dX7_rule_61 rfl ?_
    refine mj_ildn dX7_rule_62 rfl ?_
    refine mj_cvp (K := mX7_ruleOf) (c_ruleOf x j hj) ckX7_ruleOf lkX7_145 ⟨Nat.le_of_ble_eq_true rfl, Nat.le_of_ble_eq_true rfl⟩ rfl dX7_rule_63 rfl rfl (Nat.le_of_ble_eq_true rfl) ?_
    refine mj_ist4 dX7_rule_66 rfl ?_
    refine mj_ild dX7_rule_68 rfl ?_
    refine mj_ildn dX7_rule_70 rfl ?_
    refine mj_ic_ne (tgt := 77) dX7_rule_71 rfl (fun h_71 => ?_) (fun h_71 => ?_)
    · refine mj_aldn dX7_rule_77 rfl ?_
      refine mj_cvv (K := mX7_note) (c_mnote x u hu hus) ckX7_note lkX7_148 ⟨Nat.le_of_ble_eq_true rfl, Nat.le_of_ble_eq_true rfl⟩ rfl dX7_rule_78 rfl rfl (Nat.le_of_ble_eq_true rfl) (fun x_78 q_78 => ?_)
      refine mj_aldn dX7_rule_81 rfl ?_
      refine mj_getr fkX7_13 dX7_rule_82 rfl rfl ?_
      refine mj_sipush dX7_rule_85 ns_328 ?_
      refine mj_ildn dX7_rule_88 rfl ?_
      refine mj_iadd dX7_rule_89 ?_
      refine mj_ildn dX7_rule_90 rfl ?_
      refine mj_iast dX7_rule_91 rfl (328 + j) (by omega) eix (by decide) ?_
      refine mj_ild dX7_rule_92 rfl ?_
      refine mj_ret rfl dX7_rule_94 ?_
      exact hQ _ _ (by rw [if_neg (by rw [hb]; decide), if_neg h_71]; exact ⟨rfl, x_78, q_78, rfl⟩)
    · refine mj_bipush dX7_rule_74 nb_m2 ?_
      refine mj_ret rfl dX7_rule_76 ?_
      exact hQ _ _ (by rw [if_neg (by rw [hb]; decide), if_pos h_71]; exact ⟨rfl, rfl⟩)
  refine mj_ildn dX7_rule_0 rfl ?_
  refine mj_i2l dX7_rule_1 ?_
  refine mj_lconst dX7_rule_2 nl_0 ?_
  refine mj_ldc2 kkX7_139 dX7_rule_3 ?_
  refine mj_csp (K := mX7_in) (c_in _ x a 0 5 0 5 (by decide) (by decide)) ckX7_in lkX7_79 ⟨Nat.le_of_ble_eq_true rfl, Nat.le_of_ble_eq_true rfl⟩ rfl dX7_rule_6 (Nat.le_of_ble_eq_true rfl) ?_
  refine mj_if_eq (tgt := 53) dX7_rule_9 rfl (fun h_9 => ?_) (fun h_9 => ?_)
  · rw [bi_z] at h_9; simp only [inn, decide_eq_false_iff_not] at h_9
    refine mj_iconst dX7_rule_53 ni_0 ?_
    refine bad (by unfold m_rok; simp only [decide_eq_false_iff_not]; grind)
  · rw [bi_nz] at h_9; simp only [inn, decide_eq_true_eq] at h_9
    refine mj_ildn dX7_rule_12 rfl ?_
    refine mj_i2l dX7_rule_13 ?_
    refine mj_ildn dX7_rule_14 rfl ?_
    refine mj_iconst dX7_rule_15 ni_3 ?_
    refine mj_ic_ge (tgt := 23) dX7_rule_16 rfl (fun h_16 => ?_) (fun h_16 => ?_)
    · refine mj_lconst dX7_rule_23 nl_0 ?_
      refine mj_ildn dX7_rule_24 rfl ?_
      refine mj_iconst dX7_rule_25 ni_1 ?_
      refine mj_ic_eq (tgt := 34) dX7_rule_26 rfl (fun h_26 => ?_) (fun h_26 => ?_)
      · refine mj_ldc2 kkX7_141 dX7_rule_34 ?_
        refine mj_goto (tgt := 43) dX7_rule_37 rfl ?_
        refine mj_csp (K := mX7_in) (c_in _ x v 0 99 0 99 (by decide) (by decide)) ckX7_in lkX7_79 ⟨Nat.le_of_ble_eq_true rfl, Nat.le_of_ble_eq_true rfl⟩ rfl dX7_rule_43 (Nat.le_of_ble_eq_true rfl) ?_
        refine mj_if_eq (tgt := 53) dX7_rule_46 rfl (fun h_46 => ?_) (fun h_46 => ?_)
        · rw [bi_z] at h_46; simp only [inn, decide_eq_false_iff_not] at h_46
          refine mj_iconst dX7_rule_53 ni_0 ?_
          refine bad (by unfold m_rok; simp only [decide_eq_false_iff_not]; grind)
        · rw [bi_nz] at h_46; simp only [inn, decide_eq_true_eq] at h_46
          refine mj_iconst dX7_rule_49 ni_1 ?_
          refine mj_goto (tgt := 54) dX7_rule_50 rfl ?_
          refine good (by unfold m_rok; simp only [decide_eq_true_eq]; grind)
      · refine mj_ildn dX7_rule_29 rfl ?_
        refine mj_iconst dX7_rule_30 ni_2 ?_
        refine mj_ic_ne (tgt := 40) dX7_rule_31 rfl (fun h_31 => ?_) (fun h_31 => ?_)
        · refine mj_ldc2 kkX7_143 dX7_rule_40 ?_
          refine mj_csp (K := mX7_in) (c_in _ x v 0 999 0 999 (by decide) (by decide)) ckX7_in lkX7_79 ⟨Nat.le_of_ble_eq_true rfl, Nat.le_of_ble_eq_true rfl⟩ rfl dX7_rule_43 (Nat.le_of_ble_eq_true rfl) ?_
          refine mj_if_eq (tgt := 53) dX7_rule_46 rfl (fun h_46 => ?_) (fun h_46 => ?_)
          · rw [bi_z] at h_46; simp only [inn, decide_eq_false_iff_not] at h_46
            refine mj_iconst dX7_rule_53 ni_0 ?_
            refine bad (by unfold m_rok; simp only [decide_eq_false_iff_not]; grind)
          · rw [bi_nz] at h_46; simp only [inn, decide_eq_true_eq] at h_46
            refine mj_iconst dX7_rule_49 ni_1 ?_
            refine mj_goto (tgt := 54) dX7_rule_50 rfl ?_
            refine good (by unfold m_rok; simp only [decide_eq_true_eq]; grind)
        · refine mj_ldc2 kkX7_141 dX7_rule_34 ?_
          refine mj_goto (tgt := 43) dX7_rule_37 rfl ?_
          refine mj_csp (K := mX7_in) (c_in _ x v 0 99 0 99 (by decide) (by decide)) ckX7_in lkX7_79 ⟨Nat.le_of_ble_eq_true rfl, Nat.le_of_ble_eq_true rfl⟩ rfl dX7_rule_43 (Nat.le_of_ble_eq_true rfl) ?_
          refine mj_if_eq (tgt := 53) dX7_rule_46 rfl (fun h_46 => ?_) (fun h_46 => ?_)
          · rw [bi_z] at h_46; simp only [inn, decide_eq_false_iff_not] at h_46
            refine mj_iconst dX7_rule_53 ni_0 ?_
            refine bad (by unfold m_rok; simp only [decide_eq_false_iff_not]; grind)
          · rw [bi_nz] at h_46; simp only [inn, decide_eq_true_eq] at h_46
            refine mj_iconst dX7_rule_49 ni_1 ?_
            refine mj_goto (tgt := 54) dX7_rule_50 rfl ?_
            refine good (by unfold m_rok; simp only [decide_eq_true_eq]; grind)
    · refine mj_lconst dX7_rule_19 nl_1 ?_
      refine mj_goto (tgt := 24) dX7_rule_20 rfl ?_
      refine mj_ildn dX7_rule_24 rfl ?_
      refine mj_iconst dX7_rule_25 ni_1 ?_
      refine mj_ic_eq (tgt := 34) dX7_rule_26 rfl (fun h_26 => ?_) (fun h_26 => ?_)
      · refine mj_ldc2 kkX7_141 dX7_rule_34 ?_
        refine mj_goto (tgt := 43) dX7_rule_37 rfl ?_
        refine mj_csp (K := mX7_in) (c_in _ x v 1 99 1 99 (by decide) (by decide)) ckX7_in lkX7_79 ⟨Nat.le_of_ble_eq_true rfl, Nat.le_of_ble_eq_true rfl⟩ rfl dX7_rule_43 (Nat.le_of_ble_eq_true rfl) ?_
        refine mj_if_eq (tgt := 53) dX7_rule_46 rfl (fun h_46 => ?_) (fun h_46 => ?_)
        · rw [bi_z] at h_46; simp only [inn, decide_eq_false_iff_not] at h_46
          refine mj_iconst dX7_rule_53 ni_0 ?_
          refine bad (by unfold m_rok; simp only [decide_eq_false_iff_not]; grind)
        · rw [bi_nz] at h_46; simp only [inn, decide_eq_true_eq] at h_46
          refine mj_iconst dX7_rule_49 ni_1 ?_
          refine mj_goto (tgt := 54) dX7_rule_50 rfl ?_
          refine good (by unfold m_rok; simp only [decide_eq_true_eq]; grind)
      · refine mj_ildn dX7_rule_29 rfl ?_
        refine mj_iconst dX7_rule_30 ni_2 ?_
        refine mj_ic_ne (tgt := 40) dX7_rule_31 rfl (fun h_31 => ?_) (fun h_31 => ?_)
        · refine mj_ldc2 kkX7_143 dX7_rule_40 ?_
          refine mj_csp (K := mX7_in) (c_in _ x v 1 999 1 999 (by decide) (by decide)) ckX7_in lkX7_79 ⟨Nat.le_of_ble_eq_true rfl, Nat.le_of_ble_eq_true rfl⟩ rfl dX7_rule_43 (Nat.le_of_ble_eq_true rfl) ?_
          refine mj_if_eq (tgt := 53) dX7_rule_46 rfl (fun h_46 => ?_) (fun h_46 => ?_)
          · rw [bi_z] at h_46; simp only [inn, decide_eq_false_iff_not] at h_46
            refine mj_iconst dX7_rule_53 ni_0 ?_
            refine bad (by unfold m_rok; simp only [decide_eq_false_iff_not]; grind)
          · rw [bi_nz] at h_46; simp only [inn, decide_eq_true_eq] at h_46
            refine mj_iconst dX7_rule_49 ni_1 ?_
            refine mj_goto (tgt := 54) dX7_rule_50 rfl ?_
            refine good (by unfold m_rok; simp only [decide_eq_true_eq]; grind)
        · refine mj_ldc2 kkX7_141 dX7_rule_34 ?_
          refine mj_goto (tgt := 43) dX7_rule_37 rfl ?_
          refine mj_csp (K := mX7_in) (c_in _ x v 1 99 1 99 (by decide) (by decide)) ckX7_in lkX7_79 ⟨Nat.le_of_ble_eq_true rfl, Nat.le_of_ble_eq_true rfl⟩ rfl dX7_rule_43 (Nat.le_of_ble_eq_true rfl) ?_
          refine mj_if_eq (tgt := 53) dX7_rule_46 rfl (fun h_46 => ?_) (fun h_46 => ?_)
          · rw [bi_z] at h_46; simp only [inn, decide_eq_false_iff_not] at h_46
            refine mj_iconst dX7_rule_53 ni_0 ?_
            refine bad (by unfold m_rok; simp only [decide_eq_false_iff_not]; grind)
          · rw [bi_nz] at h_46; simp only [inn, decide_eq_true_eq] at h_46
            refine mj_iconst dX7_rule_49 ni_1 ?_
            refine mj_goto (tgt := 54) dX7_rule_50 rfl ?_
            refine good (by unfold m_rok; simp only [decide_eq_true_eq]; grind)
set_option maxHeartbeats 1000000 in
theorem q_code (x : mj_X) (k0 : Nat) (hk : k0 ≤ 6) (hs : x 37 6 = nI k0) (a w : Int32) : mj_CP mX7_code (shX ++ shM) [.ref 37, .int a, .int w] x (if 0 ≤ a ∧ a < nI k0 ∧ 0 ≤ w ∧ w ≤ 1 then (if w = 0 then x 41 a.toNatClampNeg else x 42 a.toNatClampNeg) else -1) := by
  refine mj_startP (ls := [some (.ref 37), some (.int a), some (.int w)]) (by decide) rfl rfl (fun Q hQ => ?_)
  refine mj_aldn dX7_code_0 rfl ?_
  refine mj_ildn dX7_code_1 rfl ?_
  refine mj_cvp (K := mX7_isCode) (c_misc x k0 hk hs a) ckX7_isCode lkX7_151 ⟨Nat.le_of_ble_eq_true rfl, Nat.le_of_ble_eq_true rfl⟩ rfl dX7_code_2 rfl rfl (Nat.le_of_ble_eq_true rfl) ?_
  refine mj_if_eq (tgt := 40) dX7_code_5 rfl (fun h_5 => ?_) (fun h_5 => ?_)
  · rw [bi_z] at h_5; simp only [ru_hc, decide_eq_false_iff_not] at h_5
    refine mj_iconst dX7_code_40 ni_m1 ?_
    refine mj_ret rfl dX7_code_41 ?_
    exact mj_q hQ (by first | (rw [if_pos ⟨h_5.1, h_5.2, h_15.1, h_15.2⟩, ec]; first | rw [if_pos h_19] | rw [if_neg h_19]) | rw [if_neg (by grind)])
  · rw [bi_nz] at h_5; simp only [ru_hc, decide_eq_true_eq] at h_5
    obtain ⟨j, hj, rfl⟩ := ix_of (n := k0) (a := a) (by omega) h_5.1 h_5.2
    have ec := nI_clamp (n := j) (by omega)
    refine mj_ildn dX7_code_8 rfl ?_
    refine mj_i2l dX7_code_9 ?_
    refine mj_lconst dX7_code_10 nl_0 ?_
    refine mj_lconst dX7_code_11 nl_1 ?_
    refine mj_csp (K := mX7_in) (c_in _ x w 0 1 0 1 (by decide) (by decide)) ckX7_in lkX7_79 ⟨Nat.le_of_ble_eq_true rfl, Nat.le_of_ble_eq_true rfl⟩ rfl dX7_code_12 (Nat.le_of_ble_eq_true rfl) ?_
    refine mj_if_eq (tgt := 40) dX7_code_15 rfl (fun h_15 => ?_) (fun h_15 => ?_)
    · rw [bi_z] at h_15; simp only [inn, decide_eq_false_iff_not] at h_15
      refine mj_iconst dX7_code_40 ni_m1 ?_
      refine mj_ret rfl dX7_code_41 ?_
      exact mj_q hQ (by first | (rw [if_pos ⟨h_5.1, h_5.2, h_15.1, h_15.2⟩, ec]; first | rw [if_pos h_19] | rw [if_neg h_19]) | rw [if_neg (by grind)])
    · rw [bi_nz] at h_15; simp only [inn, decide_eq_true_eq] at h_15
      refine mj_ildn dX7_code_18 rfl ?_
      refine mj_if_ne (tgt := 31) dX7_code_19 rfl (fun h_19 => ?_) (fun h_19 => ?_)
      · refine mj_aldn dX7_code_31 rfl ?_
        refine mj_getr fkX7_22 dX7_code_32 rfl rfl ?_
        refine mj_ildn dX7_code_35 rfl ?_
        refine mj_iald dX7_code_36 rfl j (by omega) rfl (by decide) ?_
        refine mj_goto (tgt := 41) dX7_code_37 rfl ?_
        refine mj_ret rfl dX7_code_41 ?_
        exact mj_q hQ (by first | (rw [if_pos ⟨h_5.1, h_5.2, h_15.1, h_15.2⟩, ec]; first | rw [if_pos h_19] | rw [if_neg h_19]) | rw [if_neg (by grind)])
      · refine mj_aldn dX7_code_22 rfl ?_
        refine mj_getr fkX7_19 dX7_code_23 rfl rfl ?_
        refine mj_ildn dX7_code_26 rfl ?_
        refine mj_iald dX7_code_27 rfl j (by omega) rfl (by decide) ?_
        refine mj_goto (tgt := 41) dX7_code_28 rfl ?_
        refine mj_ret rfl dX7_code_41 ?_
        exact mj_q hQ (by first | (rw [if_pos ⟨h_5.1, h_5.2, h_15.1, h_15.2⟩, ec]; first | rw [if_pos h_19] | rw [if_neg h_19]) | rw [if_neg (by grind)])
set_option maxHeartbeats 1000000 in
theorem q_pass (x : mj_X) (a : Int32) : mj_CI mX7_pass (shX ++ shM) [.ref 37, .int a] x (fun z y => if ¬ (0 ≤ a ∧ a ≤ 9999) then z = -1 ∧ y = x else if 9999 < x 37 5 + a then z = -3 ∧ y = x else z = x 37 5 + a ∧ y = mj_up x 37 5 (x 37 5 + a)) := by
  refine mj_startI (ls := [some (.ref 37), some (.int a)]) (by decide) rfl rfl (fun Q hQ => ?_)
  refine mj_ildn dX7_pass_0 rfl ?_
  refine mj_i2l dX7_pass_1 ?_
  refine mj_lconst dX7_pass_2 nl_0 ?_
  refine mj_ldc2 kkX7_155 dX7_pass_3 ?_
  refine mj_csp (K := mX7_in) (c_in _ x a 0 9999 0 9999 (by decide) (by decide)) ckX7_in lkX7_79 ⟨Nat.le_of_ble_eq_true rfl, Nat.le_of_ble_eq_true rfl⟩ rfl dX7_pass_6 (Nat.le_of_ble_eq_true rfl) ?_
  refine mj_if_ne (tgt := 14) dX7_pass_9 rfl (fun h_9 => ?_) (fun h_9 => ?_)
  · rw [bi_nz] at h_9; simp only [inn, decide_eq_true_eq] at h_9
    refine mj_aldn dX7_pass_14 rfl ?_
    refine mj_geti fkX7_130 dX7_pass_15 rfl rfl ?_
    refine mj_ildn dX7_pass_18 rfl ?_
    refine mj_iadd dX7_pass_19 ?_
    refine mj_sipush dX7_pass_20 ns_9999 ?_
    refine mj_ic_le (tgt := 29) dX7_pass_23 rfl (fun h_23 => ?_) (fun h_23 => ?_)
    · refine mj_aldn dX7_pass_29 rfl ?_
      refine mj_dupr dX7_pass_30 ?_
      refine mj_geti fkX7_130 dX7_pass_31 rfl rfl ?_
      refine mj_ildn dX7_pass_34 rfl ?_
      refine mj_iadd dX7_pass_35 ?_
      refine mj_puti fkX7_130 pkX7_5 dX7_pass_36 rfl rfl ?_
      refine mj_aldn dX7_pass_39 rfl ?_
      refine mj_geti fkX7_130 dX7_pass_40 rfl rfl ?_
      refine mj_ret rfl dX7_pass_43 ?_
      exact hQ _ _ (by rw [if_neg (fun h => h h_9), if_neg (by grind)]; exact ⟨by rw [up_eq, upd_eq], rfl⟩)
    · refine mj_bipush dX7_pass_26 nb_m3 ?_
      refine mj_ret rfl dX7_pass_28 ?_
      exact hQ _ _ (by rw [if_neg (fun h => h h_9), if_pos (by grind)]; exact ⟨rfl, rfl⟩)
  · rw [bi_z] at h_9; simp only [inn, decide_eq_false_iff_not] at h_9
    refine mj_iconst dX7_pass_12 ni_m1 ?_
    refine mj_ret rfl dX7_pass_13 ?_
    exact hQ _ _ (by rw [if_pos h_9]; exact ⟨rfl, rfl⟩)
def m_ofok (x : mj_X) (k : Nat) (d o c : Int32) : Bool := decide (dr d = true ∧ 0 ≤ o ∧ o ≤ x 37 5 ∧ 0 ≤ c ∧ c < nI k)
/-- an event has come behind a snapshot -/
def mcame (x y : mj_X) (u n : Nat) (d w o c r : Int32) : Prop := ∃ v, mno x v u ∧ y = mcm v n d w o c r (if w = 0 then v 41 c.toNatClampNeg else 0)
theorem mcm_many {x : mj_X} {n : Nat} {d w o c r p : Int32} : mcm x n d w o c r p 39 334 = nI (n + 1) := by unfold mcm; rw [up_ne (by decide), up_eq, upd_eq]
set_option maxHeartbeats 1000000 in
theorem q_convict (x : mj_X) (n : Nat) (hn : n ≤ 40) (hs : x 39 334 = nI n) (u : Nat) (hu : u ≤ 6) (hus : x 37 4 = nI u) (k0 : Nat) (hk : k0 ≤ 6) (hks : x 37 6 = nI k0) (d o c r : Int32) : mj_CI mX7_convict (shX ++ shM) [.ref 37, .int d, .int o, .int c, .int r] x (fun z y => if ¬ (m_ofok x k0 d o c = true ∧ 0 ≤ r ∧ r ≤ 1) then z = -1 ∧ y = x else if n = 40 then z = -3 ∧ y = x else z = nI n ∧ mcame x y u n d 0 o c r) := by
  refine mj_startI (ls := [some (.ref 37), some (.int d), some (.int o), some (.int c), some (.int r)]) (by decide) rfl rfl (fun Q hQ => ?_)
  refine mj_ildn dX7_convict_0 rfl ?_
  refine mj_csp (K := mX7_isDriver) (c_mdr _ x d) ckX7_isDriver lkX7_157 ⟨Nat.le_of_ble_eq_true rfl, Nat.le_of_ble_eq_true rfl⟩ rfl dX7_convict_1 (Nat.le_of_ble_eq_true rfl) ?_
  refine mj_if_eq (tgt := 40) dX7_convict_4 rfl (fun h_4 => ?_) (fun h_4 => ?_)
  · rw [bi_z] at h_4
    refine mj_iconst dX7_convict_40 ni_m1 ?_
    refine mj_ret rfl dX7_convict_41 ?_
    exact hQ _ _ (by rw [if_pos (by unfold m_ofok; simp only [decide_eq_true_eq]; grind)]; exact ⟨rfl, rfl⟩)
  · rw [bi_nz] at h_4
    refine mj_ildn dX7_convict_7 rfl ?_
    refine mj_i2l dX7_convict_8 ?_
    refine mj_lconst dX7_convict_9 nl_0 ?_
    refine mj_aldn dX7_convict_10 rfl ?_
    refine mj_geti fkX7_130 dX7_convict_11 rfl rfl ?_
    refine mj_i2l dX7_convict_14 ?_
    refine mj_csp (K := mX7_in) (c_in _ x o 0 (x 37 5) 0 _ (by decide) rfl) ckX7_in lkX7_79 ⟨Nat.le_of_ble_eq_true rfl, Nat.le_of_ble_eq_true rfl⟩ rfl dX7_convict_15 (Nat.le_of_ble_eq_true rfl) ?_
    refine mj_if_eq (tgt := 40) dX7_convict_18 rfl (fun h_18 => ?_) (fun h_18 => ?_)
    · rw [bi_z] at h_18; simp only [inn, decide_eq_false_iff_not] at h_18
      refine mj_iconst dX7_convict_40 ni_m1 ?_
      refine mj_ret rfl dX7_convict_41 ?_
      exact hQ _ _ (by rw [if_pos (by unfold m_ofok; simp only [decide_eq_true_eq]; grind)]; exact ⟨rfl, rfl⟩)
    · rw [bi_nz] at h_18; simp only [inn, decide_eq_true_eq] at h_18
      refine mj_aldn dX7_convict_21 rfl ?_
      refine mj_ildn dX7_convict_22 rfl ?_
      refine mj_cvp (K := mX7_isCode) (c_misc x k0 hk hks c) ckX7_isCode lkX7_151 ⟨Nat.le_of_ble_eq_true rfl, Nat.le_of_ble_eq_true rfl⟩ rfl dX7_convict_23 rfl rfl (Nat.le_of_ble_eq_true rfl) ?_
      refine mj_if_eq (tgt := 40) dX7_convict_26 rfl (fun h_26 => ?_) (fun h_26 => ?_)
      · rw [bi_z] at h_26; simp only [ru_hc, decide_eq_false_iff_not] at h_26
        refine mj_iconst dX7_convict_40 ni_m1 ?_
        refine mj_ret rfl dX7_convict_41 ?_
        exact hQ _ _ (by rw [if_pos (by unfold m_ofok; simp only [decide_eq_true_eq]; grind)]; exact ⟨rfl, rfl⟩)
      · rw [bi_nz] at h_26; simp only [ru_hc, decide_eq_true_eq] at h_26
        refine mj_ild dX7_convict_29 rfl ?_
        refine mj_i2l dX7_convict_31 ?_
        refine mj_lconst dX7_convict_32 nl_0 ?_
        refine mj_lconst dX7_convict_33 nl_1 ?_
        refine mj_csp (K := mX7_in) (c_in _ x r 0 1 0 1 (by decide) (by decide)) ckX7_in lkX7_79 ⟨Nat.le_of_ble_eq_true rfl, Nat.le_of_ble_eq_true rfl⟩ rfl dX7_convict_34 (Nat.le_of_ble_eq_true rfl) ?_
        refine mj_if_ne (tgt := 42) dX7_convict_37 rfl (fun h_37 => ?_) (fun h_37 => ?_)
        · rw [bi_nz] at h_37; simp only [inn, decide_eq_true_eq] at h_37
          obtain ⟨j, hj, rfl⟩ := ix_of (n := k0) (a := c) (by omega) h_26.1 h_26.2
          have ec := nI_clamp (n := j) (by omega)
          have hok : ¬ ¬ (m_ofok x k0 d o (nI j) = true ∧ 0 ≤ r ∧ r ≤ 1) := fun h => h ⟨by unfold m_ofok; simp only [decide_eq_true_eq]; exact ⟨h_4, h_18.1, h_18.2, h_26.1, h_26.2⟩, h_37.1, h_37.2⟩
          refine mj_aldn dX7_convict_42 rfl ?_
          refine mj_getr fkX7_13 dX7_convict_43 rfl rfl ?_
          refine mj_sipush dX7_convict_46 ns_334 ?_
          refine mj_iald dX7_convict_49 rfl 334 (by decide) rfl (by decide) ?_
          refine mj_bipush dX7_convict_50 nb_40 ?_
          refine mj_ic_ne (tgt := 58) dX7_convict_52 rfl (fun h_52 => ?_) (fun h_52 => ?_)
          · have h40 : ¬ n = 40 := fun h => h_52 (by rw [hs, h]; rfl)
            refine mj_aldn dX7_convict_58 rfl ?_
            refine mj_cvv (K := mX7_note) (c_mnote x u hu hus) ckX7_note lkX7_148 ⟨Nat.le_of_ble_eq_true rfl, Nat.le_of_ble_eq_true rfl⟩ rfl dX7_convict_59 rfl rfl (Nat.le_of_ble_eq_true rfl) (fun x_59 q_59 => ?_)
            refine mj_aldn dX7_convict_62 rfl ?_
            refine mj_ildn dX7_convict_63 rfl ?_
            refine mj_iconst dX7_convict_64 ni_0 ?_
            refine mj_ildn dX7_convict_65 rfl ?_
            refine mj_ildn dX7_convict_66 rfl ?_
            refine mj_ild dX7_convict_67 rfl ?_
            refine mj_cvv (K := mX7_comes) (c_mcomes x_59 n (by omega) (by rw [q_59.2.2.2.2.2 39 (by decide) (by decide)]; exact hs) d 0 o j (by omega) r) ckX7_comes lkX7_160 ⟨Nat.le_of_ble_eq_true rfl, Nat.le_of_ble_eq_true rfl⟩ rfl dX7_convict_69 rfl rfl (Nat.le_of_ble_eq_true rfl) (fun x_69 q_69 => ?_)
            refine mj_aldn dX7_convict_72 rfl ?_
            refine mj_getr fkX7_13 dX7_convict_73 rfl rfl ?_
            refine mj_sipush dX7_convict_76 ns_334 ?_
            refine mj_iald dX7_convict_79 rfl 334 (by decide) rfl (by decide) ?_
            refine mj_iconst dX7_convict_80 ni_1 ?_
            refine mj_isub dX7_convict_81 ?_
            refine mj_ret rfl dX7_convict_82 ?_
            have e9 : x_69 39 334 - 1 = nI n := by rw [q_69, mcm_many]; exact nI_pred n
            rw [e9]; exact hQ _ _ (by rw [if_neg hok, if_neg h40]; exact ⟨rfl, x_59, q_59, by rw [q_69, ec]⟩)
          · have h40 : n = 40 := by rw [hs] at h_52; exact (nI_eq (a := n) (b := 40) (by omega) (by decide)).mp h_52
            refine mj_bipush dX7_convict_55 nb_m3 ?_
            refine mj_ret rfl dX7_convict_57 ?_
            exact hQ _ _ (by rw [if_neg hok, if_pos h40]; exact ⟨rfl, rfl⟩)
        · rw [bi_z] at h_37; simp only [inn, decide_eq_false_iff_not] at h_37
          refine mj_iconst dX7_convict_40 ni_m1 ?_
          refine mj_ret rfl dX7_convict_41 ?_
          exact hQ _ _ (by rw [if_pos (by unfold m_ofok; simp only [decide_eq_true_eq]; grind)]; exact ⟨rfl, rfl⟩)
