/-! RECKONER: cell 32 (soFar at 3); rules 3 (rows 4, 5, 6), events 11, bans 24 -/
def bnN (x : mj_X) : Nat := (x 24 7).toNatClampNeg
theorem bnN_eq {x : mj_X} {n : Nat} (hn : n ≤ 82) (h : x 24 7 = nI n) : bnN x = n := by unfold bnN; rw [h]; exact nI_clamp (by omega)
def hv_st (x : mj_X) (j : Nat) : Int32 := if x 14 j = 0 then x 15 j - x 4 0 + 1 else x 13 j + 1
def hv_w (x : mj_X) (d s : Int32) (sf : Nat) : Int32 := lp_f (ev_wF x d s (x 4 0)) 0 sf
def hv_F (x : mj_X) (d day : Int32) (sf j : Nat) (a : Int32) : Int32 := if x 12 j = d ∧ day - x 4 0 + 1 < hv_st x j ∧ hv_st x j ≤ day then (if a < hv_w x d (hv_st x j) sf then hv_w x d (hv_st x j) sf else a) else a
def hv (x : mj_X) (d day : Int32) (sf : Nat) : Int32 := lp_f (hv_F x d day sf) (hv_w x d (day - x 4 0 + 1) sf) sf
def rc_tm (x : mj_X) (d t : Int32) : Int32 := if lp_f (bn_greatF x d (t - x 4 3)) 0 (bnN x) = 0 then 1 else if lp_f (bn_greatF x d (t - x 4 3)) 0 (bnN x) = 1 then 2 else 4
def rc_fd (x : mj_X) (d t : Int32) : Int32 := if t < lp_f (bn_lateF x d) (-1) (bnN x) + 1 then lp_f (bn_lateF x d) (-1) (bnN x) + 1 else t
def rc_great (x : mj_X) (d : Int32) (e sf : Nat) (t : Int32) : mj_X := ev_spend (bn_add x (bnN x) d (rc_fd x d t) (rc_tm x d t * x 4 2) (nI e) t 1) d sf
def rc_dbl (x : mj_X) (e : Nat) : Bool := lp_any (bn_has x (x 12 e) (x 15 e)) (bnN x)
def rc_c1 (x : mj_X) (e : Nat) : mj_X := mj_up (mj_up x 20 e (bi (rc_dbl x e))) 23 e (if rc_dbl x e = true then 2 * x 17 e else x 17 e)
def rc_own (x : mj_X) (e : Nat) : Int32 := x 6 (x 16 e).toNatClampNeg
def rc_c2 (x : mj_X) (e : Nat) : mj_X := if 0 < rc_own x e then bn_add (rc_c1 x e) (bnN x) (x 12 e) (x 13 e) (rc_own x e) (nI e) (x 13 e) 0 else rc_c1 x e
def rc_conv (x : mj_X) (e : Nat) : mj_X := if x 18 e = 0 ∧ x 4 1 ≤ hv (rc_c2 x e) (x 12 e) (x 15 e) (e + 1) then rc_great (rc_c2 x e) (x 12 e) e (e + 1) (x 13 e) else rc_c2 x e
def rc_sh (x : mj_X) (e : Nat) : Int32 := (lp_f (bn_shF x (x 12 e) (x 13 e)) (-1, x 13 e) (bnN x)).1
def rc_long (x : mj_X) (e : Nat) : mj_X := if rc_sh x e < 0 then mj_up x 22 e 1 else bn_short x (rc_sh x e).toNatClampNeg (x 13 e)
def rc_next (x : mj_X) (e : Nat) : mj_X := if x 14 e = 2 then rc_long (ev_clear (mj_up x 32 3 (nI (e + 1))) e) e else if x 14 e = 0 ∧ x 19 e = 0 then rc_conv (ev_clear (mj_up x 32 3 (nI (e + 1))) e) e else ev_clear (mj_up x 32 3 (nI (e + 1))) e
def rc_it (x : mj_X) : Nat → mj_X
  | 0 => mj_up (mj_up x 24 7 0) 32 3 0
  | e + 1 => rc_next (rc_it x e) e
theorem sh_val (x : mj_X) (d t : Int32) : ∀ n : Nat, (lp_f (bn_shF x d t) (-1, t) n).1 = -1 ∨ ∃ j, j < n ∧ (lp_f (bn_shF x d t) (-1, t) n).1 = nI j
  | 0 => Or.inl rfl
  | n + 1 => by
    rw [lp_f]
    unfold bn_shF
    split
    · exact Or.inr ⟨n, by omega, rfl⟩
    · rcases sh_val x d t n with h | ⟨j, h1, h2⟩
      · exact Or.inl h
      · exact Or.inr ⟨j, by omega, h2⟩
theorem c_get3 (R : List mj_S) (x : mj_X) (j : Nat) (hj : j < 6) : mj_CP mX5_get (shX ++ R) [.ref 3, .int (nI j)] x (x 4 j) := c_get _ 3 (ru_sh3 R) x j hj
set_option maxHeartbeats 1000000 in
theorem c_hv (R : List mj_S) (x : mj_X) (sf : Nat) (hn : sf ≤ 41) (hsf : x 32 3 = nI sf) (d day : Int32) : mj_CP mX3_heaviest (shX ++ R) [.ref 32, .int d, .int day] x (hv x d day sf) := by
  refine mj_startP (ls := [some (.ref 32), some (.int d), some (.int day), none, none, none, none, none]) (by decide) rfl rfl (fun Q hQ => ?_)
  have loop : ∀ (k j : Nat) (w7 : Option Value), j ≤ sf → sf < j + k → mj_V mX3_heaviest (shX ++ R) Q x 36 [some (.ref 32), some (.int d), some (.int day), some (.int (x 4 0)), some (.int (day - x 4 0 + 1)), some (.int (lp_f (hv_F x d day sf) (hv_w x d (day - x 4 0 + 1) sf) j)), some (.int (nI j)), w7] [] := by
    intro k
    induction k with
    | zero => intro j w7 h1 h2; omega
    | succ k ih =>
      intro j w7 h1 h2
      refine mj_ild dX3_heaviest_36 rfl ?_
      refine mj_aldn dX3_heaviest_38 rfl ?_
      refine mj_geti fkX3_29 dX3_heaviest_39 rfl rfl ?_
      refine mj_ic_ge (tgt := 151) dX3_heaviest_42 rfl (fun h_42 => ?_) (fun h_42 => ?_)
      · have hj : j = sf := by rw [hsf, nI_leI (by omega) (by omega)] at h_42; omega
        subst hj
        refine mj_ild dX3_heaviest_151 rfl ?_
        refine mj_ret rfl dX3_heaviest_153 ?_
        exact mj_q hQ rfl
      · have hlt : j < sf := by rw [hsf, nI_leI (by omega) (by omega)] at h_42; omega
        refine mj_ild dX3_heaviest_45 rfl ?_
        refine mj_bipush dX3_heaviest_47 nb_41 ?_
        refine mj_ic_ge (tgt := 151) dX3_heaviest_49 rfl (fun h_49 => False.elim (by exact nl_lt (show j < 41 by omega) (by decide) h_49)) (fun h_49 => ?_)
        refine mj_aldn dX3_heaviest_52 rfl ?_
        refine mj_getr fkX3_15 dX3_heaviest_53 rfl rfl ?_
        refine mj_getr fkX3_46 dX3_heaviest_56 rfl rfl ?_
        refine mj_ild dX3_heaviest_59 rfl ?_
        refine mj_iald dX3_heaviest_61 rfl j (by omega) rfl (by decide) ?_
        refine mj_if_ne (tgt := 82) dX3_heaviest_62 rfl (fun h_62 => ?_) (fun h_62 => ?_)
        · have e9 : hv_st x j = x 13 j + 1 := by unfold hv_st; rw [if_neg h_62]
          refine mj_aldn dX3_heaviest_82 rfl ?_
          refine mj_getr fkX3_15 dX3_heaviest_83 rfl rfl ?_
          refine mj_getr fkX3_59 dX3_heaviest_86 rfl rfl ?_
          refine mj_ild dX3_heaviest_89 rfl ?_
          refine mj_iald dX3_heaviest_91 rfl j (by omega) rfl (by decide) ?_
          refine mj_iconst dX3_heaviest_92 ni_1 ?_
          refine mj_iadd dX3_heaviest_93 ?_
          rw [← e9]
          refine mj_ist7 dX3_heaviest_94 rfl ?_
          refine mj_aldn dX3_heaviest_96 rfl ?_
          refine mj_getr fkX3_15 dX3_heaviest_97 rfl rfl ?_
          refine mj_getr fkX3_62 dX3_heaviest_100 rfl rfl ?_
          refine mj_ild dX3_heaviest_103 rfl ?_
          refine mj_iald dX3_heaviest_105 rfl j (by omega) rfl (by decide) ?_
          refine mj_ildn dX3_heaviest_106 rfl ?_
          refine mj_ic_ne (tgt := 145) dX3_heaviest_107 rfl (fun h_107 => ?_) (fun h_107 => ?_)
          · refine mj_inc6 dX3_heaviest_145 ni_1 rfl ?_
            refine mj_goto (tgt := 36) dX3_heaviest_148 rfl ?_
            exact mj_ls (ih (j + 1) (some (.int (hv_st x j))) (by omega) (by omega)) (by clear ih; rw [lp_f, hv_F, if_neg (show ¬ (x 12 j = d ∧ day - x 4 0 + 1 < hv_st x j ∧ hv_st x j ≤ day) by grind), nI_1])
          · refine mj_ild dX3_heaviest_110 rfl ?_
            refine mj_ild dX3_heaviest_112 rfl ?_
            refine mj_ic_le (tgt := 145) dX3_heaviest_114 rfl (fun h_114 => ?_) (fun h_114 => ?_)
            · refine mj_inc6 dX3_heaviest_145 ni_1 rfl ?_
              refine mj_goto (tgt := 36) dX3_heaviest_148 rfl ?_
              exact mj_ls (ih (j + 1) (some (.int (hv_st x j))) (by omega) (by omega)) (by clear ih; rw [lp_f, hv_F, if_neg (show ¬ (x 12 j = d ∧ day - x 4 0 + 1 < hv_st x j ∧ hv_st x j ≤ day) by grind), nI_1])
            · refine mj_ild dX3_heaviest_117 rfl ?_
              refine mj_ildn dX3_heaviest_119 rfl ?_
              refine mj_ic_gt (tgt := 145) dX3_heaviest_120 rfl (fun h_120 => ?_) (fun h_120 => ?_)
              · refine mj_inc6 dX3_heaviest_145 ni_1 rfl ?_
                refine mj_goto (tgt := 36) dX3_heaviest_148 rfl ?_
                exact mj_ls (ih (j + 1) (some (.int (hv_st x j))) (by omega) (by omega)) (by clear ih; rw [lp_f, hv_F, if_neg (show ¬ (x 12 j = d ∧ day - x 4 0 + 1 < hv_st x j ∧ hv_st x j ≤ day) by grind), nI_1])
              · refine mj_ild dX3_heaviest_123 rfl ?_
                refine mj_aldn dX3_heaviest_125 rfl ?_
                refine mj_getr fkX3_15 dX3_heaviest_126 rfl rfl ?_
                refine mj_ildn dX3_heaviest_129 rfl ?_
                refine mj_aldn dX3_heaviest_130 rfl ?_
                refine mj_geti fkX3_29 dX3_heaviest_131 rfl rfl ?_
                refine mj_ild dX3_heaviest_134 rfl ?_
                refine mj_ildn dX3_heaviest_136 rfl ?_
                rw [hsf]
                refine mj_cvp (K := mX2_weigh) (c_weigh R x sf hn d (hv_st x j) (x 4 0)) ckX2_weigh lkX3_132 ⟨Nat.le_of_ble_eq_true rfl, Nat.le_of_ble_eq_true rfl⟩ rfl dX3_heaviest_137 rfl rfl (Nat.le_of_ble_eq_true rfl) ?_
                refine mj_mx lkX3_124 (Nat.le_of_ble_eq_true rfl) (Nat.le_of_ble_eq_true rfl) (Nat.le_of_ble_eq_true rfl) dX3_heaviest_140 ?_
                refine mj_ist5 dX3_heaviest_143 rfl ?_
                refine mj_inc6 dX3_heaviest_145 ni_1 rfl ?_
                refine mj_goto (tgt := 36) dX3_heaviest_148 rfl ?_
                exact mj_ls (ih (j + 1) (some (.int (hv_st x j))) (by omega) (by omega)) (by clear ih; rw [lp_f, hv_F, if_pos (show x 12 j = d ∧ day - x 4 0 + 1 < hv_st x j ∧ hv_st x j ≤ day from ⟨h_107, by grind, by grind⟩), nI_1]; rfl)
        · have e9 : hv_st x j = x 15 j - x 4 0 + 1 := by unfold hv_st; rw [if_pos h_62]
          refine mj_aldn dX3_heaviest_65 rfl ?_
          refine mj_getr fkX3_15 dX3_heaviest_66 rfl rfl ?_
          refine mj_getr fkX3_76 dX3_heaviest_69 rfl rfl ?_
          refine mj_ild dX3_heaviest_72 rfl ?_
          refine mj_iald dX3_heaviest_74 rfl j (by omega) rfl (by decide) ?_
          refine mj_ildn dX3_heaviest_75 rfl ?_
          refine mj_isub dX3_heaviest_76 ?_
          refine mj_iconst dX3_heaviest_77 ni_1 ?_
          refine mj_iadd dX3_heaviest_78 ?_
          refine mj_goto (tgt := 94) dX3_heaviest_79 rfl ?_
          rw [← e9]
          refine mj_ist7 dX3_heaviest_94 rfl ?_
          refine mj_aldn dX3_heaviest_96 rfl ?_
          refine mj_getr fkX3_15 dX3_heaviest_97 rfl rfl ?_
          refine mj_getr fkX3_62 dX3_heaviest_100 rfl rfl ?_
          refine mj_ild dX3_heaviest_103 rfl ?_
          refine mj_iald dX3_heaviest_105 rfl j (by omega) rfl (by decide) ?_
          refine mj_ildn dX3_heaviest_106 rfl ?_
          refine mj_ic_ne (tgt := 145) dX3_heaviest_107 rfl (fun h_107 => ?_) (fun h_107 => ?_)
          · refine mj_inc6 dX3_heaviest_145 ni_1 rfl ?_
            refine mj_goto (tgt := 36) dX3_heaviest_148 rfl ?_
            exact mj_ls (ih (j + 1) (some (.int (hv_st x j))) (by omega) (by omega)) (by clear ih; rw [lp_f, hv_F, if_neg (show ¬ (x 12 j = d ∧ day - x 4 0 + 1 < hv_st x j ∧ hv_st x j ≤ day) by grind), nI_1])
          · refine mj_ild dX3_heaviest_110 rfl ?_
            refine mj_ild dX3_heaviest_112 rfl ?_
            refine mj_ic_le (tgt := 145) dX3_heaviest_114 rfl (fun h_114 => ?_) (fun h_114 => ?_)
            · refine mj_inc6 dX3_heaviest_145 ni_1 rfl ?_
              refine mj_goto (tgt := 36) dX3_heaviest_148 rfl ?_
              exact mj_ls (ih (j + 1) (some (.int (hv_st x j))) (by omega) (by omega)) (by clear ih; rw [lp_f, hv_F, if_neg (show ¬ (x 12 j = d ∧ day - x 4 0 + 1 < hv_st x j ∧ hv_st x j ≤ day) by grind), nI_1])
            · refine mj_ild dX3_heaviest_117 rfl ?_
              refine mj_ildn dX3_heaviest_119 rfl ?_
              refine mj_ic_gt (tgt := 145) dX3_heaviest_120 rfl (fun h_120 => ?_) (fun h_120 => ?_)
              · refine mj_inc6 dX3_heaviest_145 ni_1 rfl ?_
                refine mj_goto (tgt := 36) dX3_heaviest_148 rfl ?_
                exact mj_ls (ih (j + 1) (some (.int (hv_st x j))) (by omega) (by omega)) (by clear ih; rw [lp_f, hv_F, if_neg (show ¬ (x 12 j = d ∧ day - x 4 0 + 1 < hv_st x j ∧ hv_st x j ≤ day) by grind), nI_1])
              · refine mj_ild dX3_heaviest_123 rfl ?_
                refine mj_aldn dX3_heaviest_125 rfl ?_
                refine mj_getr fkX3_15 dX3_heaviest_126 rfl rfl ?_
                refine mj_ildn dX3_heaviest_129 rfl ?_
                refine mj_aldn dX3_heaviest_130 rfl ?_
                refine mj_geti fkX3_29 dX3_heaviest_131 rfl rfl ?_
                refine mj_ild dX3_heaviest_134 rfl ?_
                refine mj_ildn dX3_heaviest_136 rfl ?_
                rw [hsf]
                refine mj_cvp (K := mX2_weigh) (c_weigh R x sf hn d (hv_st x j) (x 4 0)) ckX2_weigh lkX3_132 ⟨Nat.le_of_ble_eq_true rfl, Nat.le_of_ble_eq_true rfl⟩ rfl dX3_heaviest_137 rfl rfl (Nat.le_of_ble_eq_true rfl) ?_
                refine mj_mx lkX3_124 (Nat.le_of_ble_eq_true rfl) (Nat.le_of_ble_eq_true rfl) (Nat.le_of_ble_eq_true rfl) dX3_heaviest_140 ?_
                refine mj_ist5 dX3_heaviest_143 rfl ?_
                refine mj_inc6 dX3_heaviest_145 ni_1 rfl ?_
                refine mj_goto (tgt := 36) dX3_heaviest_148 rfl ?_
                exact mj_ls (ih (j + 1) (some (.int (hv_st x j))) (by omega) (by omega)) (by clear ih; rw [lp_f, hv_F, if_pos (show x 12 j = d ∧ day - x 4 0 + 1 < hv_st x j ∧ hv_st x j ≤ day from ⟨h_107, by grind, by grind⟩), nI_1]; rfl)
  refine mj_aldn dX3_heaviest_0 rfl ?_
  refine mj_getr fkX3_9 dX3_heaviest_1 rfl rfl ?_
  refine mj_iconst dX3_heaviest_4 ni_0 ?_
  refine mj_cvp (K := mX5_get) (c_get3 R x 0 (by decide)) ckX5_get lkX3_111 ⟨Nat.le_of_ble_eq_true rfl, Nat.le_of_ble_eq_true rfl⟩ rfl dX3_heaviest_5 rfl rfl (Nat.le_of_ble_eq_true rfl) ?_
  refine mj_istn3 dX3_heaviest_8 rfl ?_
  refine mj_ildn dX3_heaviest_9 rfl ?_
  refine mj_ildn dX3_heaviest_10 rfl ?_
  refine mj_isub dX3_heaviest_11 ?_
  refine mj_iconst dX3_heaviest_12 ni_1 ?_
  refine mj_iadd dX3_heaviest_13 ?_
  refine mj_ist4 dX3_heaviest_14 rfl ?_
  refine mj_aldn dX3_heaviest_16 rfl ?_
  refine mj_getr fkX3_15 dX3_heaviest_17 rfl rfl ?_
  refine mj_ildn dX3_heaviest_20 rfl ?_
  refine mj_aldn dX3_heaviest_21 rfl ?_
  refine mj_geti fkX3_29 dX3_heaviest_22 rfl rfl ?_
  refine mj_ild dX3_heaviest_25 rfl ?_
  refine mj_ildn dX3_heaviest_27 rfl ?_
  rw [hsf]
  refine mj_cvp (K := mX2_weigh) (c_weigh R x sf hn d (day - x 4 0 + 1) (x 4 0)) ckX2_weigh lkX3_132 ⟨Nat.le_of_ble_eq_true rfl, Nat.le_of_ble_eq_true rfl⟩ rfl dX3_heaviest_28 rfl rfl (Nat.le_of_ble_eq_true rfl) ?_
  refine mj_ist5 dX3_heaviest_31 rfl ?_
  refine mj_iconst dX3_heaviest_33 ni_0 ?_
  refine mj_ist6 dX3_heaviest_34 rfl ?_
  exact loop (sf + 1) 0 _ (by omega) (by omega)
set_option maxHeartbeats 1000000 in
theorem c_great1 (R : List mj_S) (x : mj_X) (nb : Nat) (hb : nb < 82) (hnb : x 24 7 = nI nb) (sf : Nat) (hn : sf ≤ 41) (hsf : x 32 3 = nI sf) (d : Int32) (e : Nat) (t : Int32) : mj_CV mX3_giveGreatBan (shX ++ R) [.ref 32, .int d, .int (nI e), .int t] x (fun y => y = rc_great x d e sf t) := by
  refine mj_startV (ls := [some (.ref 32), some (.int d), some (.int (nI e)), some (.int t), none, none, none]) (by decide) rfl rfl (fun Q hQ => ?_)
  have rest : mj_V mX3_giveGreatBan (shX ++ R) Q x 40 [some (.ref 32), some (.int d), some (.int (nI e)), some (.int t), some (.int (lp_f (bn_greatF x d (t - x 4 3)) 0 nb)), none, none] [.int (rc_tm x d t)] := by
    refine mj_ist5 dX3_giveGreatBan_40 rfl ?_
    refine mj_ildn dX3_giveGreatBan_42 rfl ?_
    refine mj_aldn dX3_giveGreatBan_43 rfl ?_
    refine mj_getr fkX3_19 dX3_giveGreatBan_44 rfl rfl ?_
    refine mj_ildn dX3_giveGreatBan_47 rfl ?_
    refine mj_cvp (K := mX0_latestDay) (c_late R x nb (by omega) hnb d) ckX0_latestDay lkX3_121 ⟨Nat.le_of_ble_eq_true rfl, Nat.le_of_ble_eq_true rfl⟩ rfl dX3_giveGreatBan_48 rfl rfl (Nat.le_of_ble_eq_true rfl) ?_
    refine mj_iconst dX3_giveGreatBan_51 ni_1 ?_
    refine mj_iadd dX3_giveGreatBan_52 ?_
    refine mj_mx lkX3_124 (Nat.le_of_ble_eq_true rfl) (Nat.le_of_ble_eq_true rfl) (Nat.le_of_ble_eq_true rfl) dX3_giveGreatBan_53 ?_
    refine mj_ss (st' := [.int (rc_fd x d t)]) ?_ (by unfold rc_fd; rw [bnN_eq (by omega) hnb])
    refine mj_ist6 dX3_giveGreatBan_56 rfl ?_
    refine mj_aldn dX3_giveGreatBan_58 rfl ?_
    refine mj_getr fkX3_19 dX3_giveGreatBan_59 rfl rfl ?_
    refine mj_ildn dX3_giveGreatBan_62 rfl ?_
    refine mj_ild dX3_giveGreatBan_63 rfl ?_
    refine mj_ild dX3_giveGreatBan_65 rfl ?_
    refine mj_aldn dX3_giveGreatBan_67 rfl ?_
    refine mj_getr fkX3_9 dX3_giveGreatBan_68 rfl rfl ?_
    refine mj_iconst dX3_giveGreatBan_71 ni_2 ?_
    refine mj_cvp (K := mX5_get) (c_get3 R x 2 (by decide)) ckX5_get lkX3_111 ⟨Nat.le_of_ble_eq_true rfl, Nat.le_of_ble_eq_true rfl⟩ rfl dX3_giveGreatBan_72 rfl rfl (Nat.le_of_ble_eq_true rfl) ?_
    refine mj_imul dX3_giveGreatBan_75 ?_
    refine mj_ildn dX3_giveGreatBan_76 rfl ?_
    refine mj_ildn dX3_giveGreatBan_77 rfl ?_
    refine mj_iconst dX3_giveGreatBan_78 ni_1 ?_
    refine mj_cvv (K := mX0_add) (c_badd R x nb hb hnb d (rc_fd x d t) (rc_tm x d t * x 4 2) (nI e) t 1) ckX0_add lkX3_101 ⟨Nat.le_of_ble_eq_true rfl, Nat.le_of_ble_eq_true rfl⟩ rfl dX3_giveGreatBan_79 rfl rfl (Nat.le_of_ble_eq_true rfl) (fun x_79 q_79 => ?_)
    subst q_79
    have hsf2 : bn_add x nb d (rc_fd x d t) (rc_tm x d t * x 4 2) (nI e) t 1 32 3 = nI sf := hsf
    refine mj_aldn dX3_giveGreatBan_82 rfl ?_
    refine mj_getr fkX3_15 dX3_giveGreatBan_83 rfl rfl ?_
    refine mj_ildn dX3_giveGreatBan_86 rfl ?_
    refine mj_aldn dX3_giveGreatBan_87 rfl ?_
    refine mj_geti fkX3_29 dX3_giveGreatBan_88 rfl rfl ?_
    rw [hsf2]
    refine mj_cvv (K := mX2_spend) (c_spend R _ sf hn d) ckX2_spend lkX3_129 ⟨Nat.le_of_ble_eq_true rfl, Nat.le_of_ble_eq_true rfl⟩ rfl dX3_giveGreatBan_91 rfl rfl (Nat.le_of_ble_eq_true rfl) (fun x_91 q_91 => ?_)
    refine mj_retv rfl dX3_giveGreatBan_94 ?_
    exact hQ _ (by rw [q_91]; unfold rc_great; rw [bnN_eq (by omega) hnb])
  refine mj_aldn dX3_giveGreatBan_0 rfl ?_
  refine mj_getr fkX3_19 dX3_giveGreatBan_1 rfl rfl ?_
  refine mj_ildn dX3_giveGreatBan_4 rfl ?_
  refine mj_ildn dX3_giveGreatBan_5 rfl ?_
  refine mj_aldn dX3_giveGreatBan_6 rfl ?_
  refine mj_getr fkX3_9 dX3_giveGreatBan_7 rfl rfl ?_
  refine mj_iconst dX3_giveGreatBan_10 ni_3 ?_
  refine mj_cvp (K := mX5_get) (c_get3 R x 3 (by decide)) ckX5_get lkX3_111 ⟨Nat.le_of_ble_eq_true rfl, Nat.le_of_ble_eq_true rfl⟩ rfl dX3_giveGreatBan_11 rfl rfl (Nat.le_of_ble_eq_true rfl) ?_
  refine mj_isub dX3_giveGreatBan_14 ?_
  refine mj_cvp (K := mX0_greatSince) (c_great R x nb (by omega) hnb d (t - x 4 3)) ckX0_greatSince lkX3_118 ⟨Nat.le_of_ble_eq_true rfl, Nat.le_of_ble_eq_true rfl⟩ rfl dX3_giveGreatBan_15 rfl rfl (Nat.le_of_ble_eq_true rfl) ?_
  refine mj_ist4 dX3_giveGreatBan_18 rfl ?_
  refine mj_ild dX3_giveGreatBan_20 rfl ?_
  refine mj_if_ne (tgt := 29) dX3_giveGreatBan_22 rfl (fun h_22 => ?_) (fun h_22 => ?_)
  · refine mj_ild dX3_giveGreatBan_29 rfl ?_
    refine mj_iconst dX3_giveGreatBan_31 ni_1 ?_
    refine mj_ic_ne (tgt := 39) dX3_giveGreatBan_32 rfl (fun h_32 => ?_) (fun h_32 => ?_)
    · refine mj_iconst dX3_giveGreatBan_39 ni_4 ?_
      refine mj_ss (st' := [.int (rc_tm x d t)]) ?_ (by unfold rc_tm; rw [bnN_eq (by omega) hnb]; first | rw [if_pos h_22] | rw [if_neg h_22, if_pos h_32] | rw [if_neg h_22, if_neg h_32])
      exact rest
    · refine mj_iconst dX3_giveGreatBan_35 ni_2 ?_
      refine mj_goto (tgt := 40) dX3_giveGreatBan_36 rfl ?_
      refine mj_ss (st' := [.int (rc_tm x d t)]) ?_ (by unfold rc_tm; rw [bnN_eq (by omega) hnb]; first | rw [if_pos h_22] | rw [if_neg h_22, if_pos h_32] | rw [if_neg h_22, if_neg h_32])
      exact rest
  · refine mj_iconst dX3_giveGreatBan_25 ni_1 ?_
    refine mj_goto (tgt := 40) dX3_giveGreatBan_26 rfl ?_
    refine mj_ss (st' := [.int (rc_tm x d t)]) ?_ (by unfold rc_tm; rw [bnN_eq (by omega) hnb]; first | rw [if_pos h_22] | rw [if_neg h_22, if_pos h_32] | rw [if_neg h_22, if_neg h_32])
    exact rest
set_option maxHeartbeats 1000000 in
theorem c_conv (R : List mj_S) (x : mj_X) (n : Nat) (hn : n ≤ 41) (hsz : x 11 12 = nI n) (e : Nat) (hj : e < n) (hsf : x 32 3 = nI (e + 1)) (nb : Nat) (hb : nb < 81) (hnb : x 24 7 = nI nb) (kc k0 : Nat) (hk : k0 ≤ 6) (hk0 : x 3 3 = nI k0) (hkc : kc < k0) (hcd : x 16 e = nI kc) : mj_CV mX3_reckonConviction (shX ++ R) [.ref 32, .int (nI e)] x (fun y => y = rc_conv x e) := by
  refine mj_startV (ls := [some (.ref 32), some (.int (nI e)), none, none, none, none, none]) (by decide) rfl rfl (fun Q hQ => ?_)
  have ebn := bnN_eq (x := x) (by omega) hnb
  have eow : rc_own x e = x 6 kc := by unfold rc_own; rw [hcd, nI_clamp (by omega)]
  have tail : ∀ (y : mj_X) (b w6 : Int32) (m : Nat), y = rc_c2 x e → y 24 7 = nI m → m < 82 → y 32 3 = nI (e + 1) → y 18 e = x 18 e → y 4 = x 4 → mj_V mX3_reckonConviction (shX ++ R) Q y 148 [some (.ref 32), some (.int (nI e)), some (.int (x 12 e)), some (.int (x 13 e)), some (.int (x 15 e)), some (.int b), some (.int w6)] [] := by
    intro y b w6 m hy h1 h2 h3 h4 h5
    refine mj_aldn dX3_reckonConviction_148 rfl ?_
    refine mj_getr fkX3_15 dX3_reckonConviction_149 rfl rfl ?_
    refine mj_getr fkX3_105 dX3_reckonConviction_152 rfl rfl ?_
    refine mj_ildn dX3_reckonConviction_155 rfl ?_
    refine mj_iald dX3_reckonConviction_156 rfl e (by omega) rfl (by decide) ?_
    refine mj_if_ne (tgt := 185) dX3_reckonConviction_157 rfl (fun h_157 => ?_) (fun h_157 => ?_)
    · rw [h4] at h_157
      refine mj_retv rfl dX3_reckonConviction_185 ?_
      first
      | (rw [q_182]; exact hQ _ (by unfold rc_conv; rw [if_pos ⟨h_157, by grind⟩, hy]))
      | (refine hQ _ ?_; unfold rc_conv; rw [if_neg (by grind), hy])
    · rw [h4] at h_157
      refine mj_aldn dX3_reckonConviction_160 rfl ?_
      refine mj_ildn dX3_reckonConviction_161 rfl ?_
      refine mj_ild dX3_reckonConviction_162 rfl ?_
      refine mj_cvp (K := mX3_heaviest) (c_hv R y (e + 1) (by omega) h3 (x 12 e) (x 15 e)) ckX3_heaviest lkX3_108 ⟨Nat.le_of_ble_eq_true rfl, Nat.le_of_ble_eq_true rfl⟩ rfl dX3_reckonConviction_164 rfl rfl (Nat.le_of_ble_eq_true rfl) ?_
      refine mj_aldn dX3_reckonConviction_167 rfl ?_
      refine mj_getr fkX3_9 dX3_reckonConviction_168 rfl rfl ?_
      refine mj_iconst dX3_reckonConviction_171 ni_1 ?_
      refine mj_cvp (K := mX5_get) (c_get3 R y 1 (by decide)) ckX5_get lkX3_111 ⟨Nat.le_of_ble_eq_true rfl, Nat.le_of_ble_eq_true rfl⟩ rfl dX3_reckonConviction_172 rfl rfl (Nat.le_of_ble_eq_true rfl) ?_
      refine mj_ic_lt (tgt := 185) dX3_reckonConviction_175 rfl (fun h_175 => ?_) (fun h_175 => ?_)
      · rw [h5, hy] at h_175
        refine mj_retv rfl dX3_reckonConviction_185 ?_
        first
        | (rw [q_182]; exact hQ _ (by unfold rc_conv; rw [if_pos ⟨h_157, by grind⟩, hy]))
        | (refine hQ _ ?_; unfold rc_conv; rw [if_neg (by grind), hy])
      · rw [h5, hy] at h_175
        refine mj_aldn dX3_reckonConviction_178 rfl ?_
        refine mj_ildn dX3_reckonConviction_179 rfl ?_
        refine mj_ildn dX3_reckonConviction_180 rfl ?_
        refine mj_ildn dX3_reckonConviction_181 rfl ?_
        refine mj_cvv (K := mX3_giveGreatBan) (c_great1 R y m h2 h1 (e + 1) (by omega) h3 (x 12 e) e (x 13 e)) ckX3_giveGreatBan lkX3_114 ⟨Nat.le_of_ble_eq_true rfl, Nat.le_of_ble_eq_true rfl⟩ rfl dX3_reckonConviction_182 rfl rfl (Nat.le_of_ble_eq_true rfl) (fun x_182 q_182 => ?_)
        refine mj_retv rfl dX3_reckonConviction_185 ?_
        first
        | (rw [q_182]; exact hQ _ (by unfold rc_conv; rw [if_pos ⟨h_157, by grind⟩, hy]))
        | (refine hQ _ ?_; unfold rc_conv; rw [if_neg (by grind), hy])
  have rest : mj_V mX3_reckonConviction (shX ++ R) Q (rc_c1 x e) 111 [some (.ref 32), some (.int (nI e)), some (.int (x 12 e)), some (.int (x 13 e)), some (.int (x 15 e)), some (.int (bi (rc_dbl x e))), none] [] := by
    refine mj_aldn dX3_reckonConviction_111 rfl ?_
    refine mj_getr fkX3_9 dX3_reckonConviction_112 rfl rfl ?_
    refine mj_aldn dX3_reckonConviction_115 rfl ?_
    refine mj_getr fkX3_15 dX3_reckonConviction_116 rfl rfl ?_
    refine mj_getr fkX3_92 dX3_reckonConviction_119 rfl rfl ?_
    refine mj_ildn dX3_reckonConviction_122 rfl ?_
    refine mj_iald dX3_reckonConviction_123 rfl e (by omega) rfl (by decide) ?_
    refine mj_ss (st' := [.int (nI kc), .ref 3]) ?_ (by rw [← hcd]; rfl)
    refine mj_cvp (K := mX5_ownBanOf) (c_own _ 3 (ru_sh3 R) (rc_c1 x e) k0 hk hk0 kc hkc) ckX5_ownBanOf lkX3_95 ⟨Nat.le_of_ble_eq_true rfl, Nat.le_of_ble_eq_true rfl⟩ rfl dX3_reckonConviction_124 rfl rfl (Nat.le_of_ble_eq_true rfl) ?_
    refine mj_ist6 dX3_reckonConviction_127 rfl ?_
    refine mj_ild dX3_reckonConviction_129 rfl ?_
    refine mj_if_le (tgt := 148) dX3_reckonConviction_131 rfl (fun h_131 => ?_) (fun h_131 => ?_)
    · have h_131 : ¬ 0 < rc_own x e := by rw [eow]; have : x 6 kc ≤ 0 := h_131; grind
      refine tail (rc_c1 x e) _ _ nb (by unfold rc_c2; rw [if_neg h_131]) hnb (by omega) hsf rfl rfl
    · have h_131 : 0 < rc_own x e := by rw [eow]; have : ¬ x 6 kc ≤ 0 := h_131; grind
      refine mj_aldn dX3_reckonConviction_134 rfl ?_
      refine mj_getr fkX3_19 dX3_reckonConviction_135 rfl rfl ?_
      refine mj_ildn dX3_reckonConviction_138 rfl ?_
      refine mj_ildn dX3_reckonConviction_139 rfl ?_
      refine mj_ild dX3_reckonConviction_140 rfl ?_
      refine mj_ildn dX3_reckonConviction_142 rfl ?_
      refine mj_ildn dX3_reckonConviction_143 rfl ?_
      refine mj_iconst dX3_reckonConviction_144 ni_0 ?_
      refine mj_cvv (K := mX0_add) (c_badd R (rc_c1 x e) nb (by omega) hnb (x 12 e) (x 13 e) (x 6 kc) (nI e) (x 13 e) 0) ckX0_add lkX3_101 ⟨Nat.le_of_ble_eq_true rfl, Nat.le_of_ble_eq_true rfl⟩ rfl dX3_reckonConviction_145 rfl rfl (Nat.le_of_ble_eq_true rfl) (fun x_145 q_145 => ?_)
      refine tail x_145 _ _ (nb + 1) (by rw [q_145]; unfold rc_c2; rw [if_pos h_131, eow, ebn]) (by rw [q_145]; rfl) (by omega) (by rw [q_145]; exact hsf) (by rw [q_145]; rfl) (by rw [q_145]; rfl)
  refine mj_aldn dX3_reckonConviction_0 rfl ?_
  refine mj_getr fkX3_15 dX3_reckonConviction_1 rfl rfl ?_
  refine mj_ildn dX3_reckonConviction_4 rfl ?_
  refine mj_cvp (K := mX2_isThere) (c_isThere R x n hn hsz (nI e)) ckX2_isThere lkX3_38 ⟨Nat.le_of_ble_eq_true rfl, Nat.le_of_ble_eq_true rfl⟩ rfl dX3_reckonConviction_5 rfl rfl (Nat.le_of_ble_eq_true rfl) ?_
  refine mj_if_ne (tgt := 12) dX3_reckonConviction_8 rfl (fun h_8 => ?_) (fun h_8 => False.elim (by rw [bi_z] at h_8; simp only [ev_is, decide_eq_false_iff_not] at h_8; exact h_8 ⟨nI_pos' (by omega), nI_lt hj (by omega)⟩))
  refine mj_aldn dX3_reckonConviction_12 rfl ?_
  refine mj_getr fkX3_15 dX3_reckonConviction_13 rfl rfl ?_
  refine mj_getr fkX3_62 dX3_reckonConviction_16 rfl rfl ?_
  refine mj_ildn dX3_reckonConviction_19 rfl ?_
  refine mj_iald dX3_reckonConviction_20 rfl e (by omega) rfl (by decide) ?_
  refine mj_istn2 dX3_reckonConviction_21 rfl ?_
  refine mj_aldn dX3_reckonConviction_22 rfl ?_
  refine mj_getr fkX3_15 dX3_reckonConviction_23 rfl rfl ?_
  refine mj_getr fkX3_59 dX3_reckonConviction_26 rfl rfl ?_
  refine mj_ildn dX3_reckonConviction_29 rfl ?_
  refine mj_iald dX3_reckonConviction_30 rfl e (by omega) rfl (by decide) ?_
  refine mj_istn3 dX3_reckonConviction_31 rfl ?_
  refine mj_aldn dX3_reckonConviction_32 rfl ?_
  refine mj_getr fkX3_15 dX3_reckonConviction_33 rfl rfl ?_
  refine mj_getr fkX3_76 dX3_reckonConviction_36 rfl rfl ?_
  refine mj_ildn dX3_reckonConviction_39 rfl ?_
  refine mj_iald dX3_reckonConviction_40 rfl e (by omega) rfl (by decide) ?_
  refine mj_ist4 dX3_reckonConviction_41 rfl ?_
  refine mj_aldn dX3_reckonConviction_43 rfl ?_
  refine mj_getr fkX3_19 dX3_reckonConviction_44 rfl rfl ?_
  refine mj_ildn dX3_reckonConviction_47 rfl ?_
  refine mj_ild dX3_reckonConviction_48 rfl ?_
  refine mj_cvp (K := mX0_hold) (c_hold R x nb (by omega) hnb (x 12 e) (x 15 e)) ckX0_hold lkX3_79 ⟨Nat.le_of_ble_eq_true rfl, Nat.le_of_ble_eq_true rfl⟩ rfl dX3_reckonConviction_50 rfl rfl (Nat.le_of_ble_eq_true rfl) ?_
  rw [show lp_any (bn_has x (x 12 e) (x 15 e)) nb = rc_dbl x e from by unfold rc_dbl; rw [ebn]]
  cases hdb : rc_dbl x e with
  | false =>
    rw [hdb] at rest
    refine mj_ist5 dX3_reckonConviction_53 rfl ?_
    refine mj_aldn dX3_reckonConviction_55 rfl ?_
    refine mj_getr fkX3_15 dX3_reckonConviction_56 rfl rfl ?_
    refine mj_getr fkX3_83 dX3_reckonConviction_59 rfl rfl ?_
    refine mj_ildn dX3_reckonConviction_62 rfl ?_
    refine mj_ild dX3_reckonConviction_63 rfl ?_
    refine mj_if_eq (tgt := 72) dX3_reckonConviction_65 rfl (fun h_65 => ?_) (fun h_65 => False.elim (by exact h_65 rfl))
    refine mj_iconst dX3_reckonConviction_72 ni_0 ?_
    refine mj_iast dX3_reckonConviction_73 rfl e (by omega) rfl (by decide) ?_
    refine mj_aldn dX3_reckonConviction_74 rfl ?_
    refine mj_getr fkX3_15 dX3_reckonConviction_75 rfl rfl ?_
    refine mj_getr fkX3_86 dX3_reckonConviction_78 rfl rfl ?_
    refine mj_ildn dX3_reckonConviction_81 rfl ?_
    refine mj_ild dX3_reckonConviction_82 rfl ?_
    refine mj_if_eq (tgt := 101) dX3_reckonConviction_84 rfl (fun h_84 => ?_) (fun h_84 => False.elim (by exact h_84 rfl))
    refine mj_aldn dX3_reckonConviction_101 rfl ?_
    refine mj_getr fkX3_15 dX3_reckonConviction_102 rfl rfl ?_
    refine mj_getr fkX3_89 dX3_reckonConviction_105 rfl rfl ?_
    refine mj_ildn dX3_reckonConviction_108 rfl ?_
    refine mj_iald dX3_reckonConviction_109 rfl e (by omega) rfl (by decide) ?_
    refine mj_iast dX3_reckonConviction_110 rfl e (by omega) rfl (by decide) ?_
    exact mj_xl rest (by unfold rc_c1; rw [hdb]; rfl) rfl
  | true =>
    rw [hdb] at rest
    refine mj_ist5 dX3_reckonConviction_53 rfl ?_
    refine mj_aldn dX3_reckonConviction_55 rfl ?_
    refine mj_getr fkX3_15 dX3_reckonConviction_56 rfl rfl ?_
    refine mj_getr fkX3_83 dX3_reckonConviction_59 rfl rfl ?_
    refine mj_ildn dX3_reckonConviction_62 rfl ?_
    refine mj_ild dX3_reckonConviction_63 rfl ?_
    refine mj_if_eq (tgt := 72) dX3_reckonConviction_65 rfl (fun h_65 => False.elim (by exact (by decide : ¬ bi true = 0) h_65)) (fun h_65 => ?_)
    refine mj_iconst dX3_reckonConviction_68 ni_1 ?_
    refine mj_goto (tgt := 73) dX3_reckonConviction_69 rfl ?_
    refine mj_iast dX3_reckonConviction_73 rfl e (by omega) rfl (by decide) ?_
    refine mj_aldn dX3_reckonConviction_74 rfl ?_
    refine mj_getr fkX3_15 dX3_reckonConviction_75 rfl rfl ?_
    refine mj_getr fkX3_86 dX3_reckonConviction_78 rfl rfl ?_
    refine mj_ildn dX3_reckonConviction_81 rfl ?_
    refine mj_ild dX3_reckonConviction_82 rfl ?_
    refine mj_if_eq (tgt := 101) dX3_reckonConviction_84 rfl (fun h_84 => False.elim (by exact (by decide : ¬ bi true = 0) h_84)) (fun h_84 => ?_)
    refine mj_iconst dX3_reckonConviction_87 ni_2 ?_
    refine mj_aldn dX3_reckonConviction_88 rfl ?_
    refine mj_getr fkX3_15 dX3_reckonConviction_89 rfl rfl ?_
    refine mj_getr fkX3_89 dX3_reckonConviction_92 rfl rfl ?_
    refine mj_ildn dX3_reckonConviction_95 rfl ?_
    refine mj_iald dX3_reckonConviction_96 rfl e (by omega) rfl (by decide) ?_
    refine mj_imul dX3_reckonConviction_97 ?_
    refine mj_goto (tgt := 110) dX3_reckonConviction_98 rfl ?_
    refine mj_iast dX3_reckonConviction_110 rfl e (by omega) rfl (by decide) ?_
    exact mj_xl rest (by unfold rc_c1; rw [hdb]; rfl) rfl
set_option maxHeartbeats 1000000 in
theorem c_long (R : List mj_S) (x : mj_X) (n : Nat) (hn : n ≤ 41) (hsz : x 11 12 = nI n) (e : Nat) (hj : e < n) (nb : Nat) (hb : nb ≤ 82) (hnb : x 24 7 = nI nb) : mj_CV mX3_reckonLong (shX ++ R) [.ref 32, .int (nI e)] x (fun y => y = rc_long x e) := by
  refine mj_startV (ls := [some (.ref 32), some (.int (nI e)), none, none]) (by decide) rfl rfl (fun Q hQ => ?_)
  have esh : (lp_f (bn_shF x (x 12 e) (x 13 e)) (-1, x 13 e) nb).1 = rc_sh x e := by unfold rc_sh; rw [bnN_eq hb hnb]
  refine mj_aldn dX3_reckonLong_0 rfl ?_
  refine mj_getr fkX3_15 dX3_reckonLong_1 rfl rfl ?_
  refine mj_ildn dX3_reckonLong_4 rfl ?_
  refine mj_cvp (K := mX2_isThere) (c_isThere R x n hn hsz (nI e)) ckX2_isThere lkX3_38 ⟨Nat.le_of_ble_eq_true rfl, Nat.le_of_ble_eq_true rfl⟩ rfl dX3_reckonLong_5 rfl rfl (Nat.le_of_ble_eq_true rfl) ?_
  refine mj_if_ne (tgt := 12) dX3_reckonLong_8 rfl (fun h_8 => ?_) (fun h_8 => False.elim (by rw [bi_z] at h_8; simp only [ev_is, decide_eq_false_iff_not] at h_8; exact h_8 ⟨nI_pos' (by omega), nI_lt hj (by omega)⟩))
  refine mj_aldn dX3_reckonLong_12 rfl ?_
  refine mj_getr fkX3_15 dX3_reckonLong_13 rfl rfl ?_
  refine mj_getr fkX3_59 dX3_reckonLong_16 rfl rfl ?_
  refine mj_ildn dX3_reckonLong_19 rfl ?_
  refine mj_iald dX3_reckonLong_20 rfl e (by omega) rfl (by decide) ?_
  refine mj_istn2 dX3_reckonLong_21 rfl ?_
  refine mj_aldn dX3_reckonLong_22 rfl ?_
  refine mj_getr fkX3_19 dX3_reckonLong_23 rfl rfl ?_
  refine mj_aldn dX3_reckonLong_26 rfl ?_
  refine mj_getr fkX3_15 dX3_reckonLong_27 rfl rfl ?_
  refine mj_getr fkX3_62 dX3_reckonLong_30 rfl rfl ?_
  refine mj_ildn dX3_reckonLong_33 rfl ?_
  refine mj_iald dX3_reckonLong_34 rfl e (by omega) rfl (by decide) ?_
  refine mj_ildn dX3_reckonLong_35 rfl ?_
  refine mj_cvp (K := mX0_toShorten) (c_toSh R x nb hb hnb (x 12 e) (x 13 e)) ckX0_toShorten lkX3_65 ⟨Nat.le_of_ble_eq_true rfl, Nat.le_of_ble_eq_true rfl⟩ rfl dX3_reckonLong_36 rfl rfl (Nat.le_of_ble_eq_true rfl) ?_
  rw [esh]
  refine mj_istn3 dX3_reckonLong_39 rfl ?_
  refine mj_ildn dX3_reckonLong_40 rfl ?_
  refine mj_if_ge (tgt := 57) dX3_reckonLong_41 rfl (fun h_41 => ?_) (fun h_41 => ?_)
  · obtain ⟨j, hj1, hj2⟩ : ∃ j, j < nb ∧ rc_sh x e = nI j := by
      rcases sh_val x (x 12 e) (x 13 e) nb with h | ⟨j, h1, h2⟩
      · rw [esh] at h; rw [h] at h_41; exact absurd h_41 (by decide)
      · exact ⟨j, h1, by rw [← esh]; exact h2⟩
    rw [hj2]
    refine mj_aldn dX3_reckonLong_57 rfl ?_
    refine mj_getr fkX3_19 dX3_reckonLong_58 rfl rfl ?_
    refine mj_ildn dX3_reckonLong_61 rfl ?_
    refine mj_ildn dX3_reckonLong_62 rfl ?_
    refine mj_cvv (K := mX0_shorten) (c_short R x j (by omega) (x 13 e)) ckX0_shorten lkX3_72 ⟨Nat.le_of_ble_eq_true rfl, Nat.le_of_ble_eq_true rfl⟩ rfl dX3_reckonLong_63 rfl rfl (Nat.le_of_ble_eq_true rfl) (fun x_63 q_63 => ?_)
    refine mj_retv rfl dX3_reckonLong_66 ?_
    first
    | (rw [q_63]; exact hQ _ (by unfold rc_long; rw [if_neg (by grind), hj2, nI_clamp (by omega)]))
    | (refine hQ _ ?_; unfold rc_long; rw [if_pos (by grind)])
  · refine mj_aldn dX3_reckonLong_44 rfl ?_
    refine mj_getr fkX3_15 dX3_reckonLong_45 rfl rfl ?_
    refine mj_getr fkX3_69 dX3_reckonLong_48 rfl rfl ?_
    refine mj_ildn dX3_reckonLong_51 rfl ?_
    refine mj_iconst dX3_reckonLong_52 ni_1 ?_
    refine mj_iast dX3_reckonLong_53 rfl e (by omega) rfl (by decide) ?_
    refine mj_goto (tgt := 66) dX3_reckonLong_54 rfl ?_
    refine mj_retv rfl dX3_reckonLong_66 ?_
    first
    | (rw [q_63]; exact hQ _ (by unfold rc_long; rw [if_neg (by grind), hj2, nI_clamp (by omega)]))
    | (refine hQ _ ?_; unfold rc_long; rw [if_pos (by grind)])
def cd_ok (x : mj_X) (e : Nat) : Prop := ∃ kc k0 : Nat, k0 ≤ 6 ∧ x 3 3 = nI k0 ∧ kc < k0 ∧ (x 14 e = 0 → x 16 e = nI kc)
set_option maxHeartbeats 1000000 in
theorem c_rnext (R : List mj_S) (x : mj_X) (n : Nat) (hn : n ≤ 41) (hsz : x 11 12 = nI n) (e : Nat) (hj : e < n) (hsf : x 32 3 = nI e) (nb : Nat) (hb : nb < 81) (hnb : x 24 7 = nI nb) (hcd : cd_ok x e) : mj_CV mX3_reckonNext (shX ++ R) [.ref 32] x (fun y => y = rc_next x e) := by
  refine mj_startV (ls := [some (.ref 32), none]) (by decide) rfl rfl (fun Q hQ => ?_)
  have e1 : x 32 3 + 1 = nI (e + 1) := by rw [hsf, nI_1]
  obtain ⟨kc, k0, hk, hk0, hkc, hcd⟩ := hcd
  refine mj_aldn dX3_reckonNext_0 rfl ?_
  refine mj_geti fkX3_29 dX3_reckonNext_1 rfl rfl ?_
  rw [hsf]
  refine mj_istn1 dX3_reckonNext_4 rfl ?_
  refine mj_aldn dX3_reckonNext_5 rfl ?_
  refine mj_getr fkX3_15 dX3_reckonNext_6 rfl rfl ?_
  refine mj_ildn dX3_reckonNext_9 rfl ?_
  refine mj_cvp (K := mX2_isThere) (c_isThere R x n hn hsz (nI e)) ckX2_isThere lkX3_38 ⟨Nat.le_of_ble_eq_true rfl, Nat.le_of_ble_eq_true rfl⟩ rfl dX3_reckonNext_10 rfl rfl (Nat.le_of_ble_eq_true rfl) ?_
  refine mj_if_ne (tgt := 17) dX3_reckonNext_13 rfl (fun h_13 => ?_) (fun h_13 => False.elim (by rw [bi_z] at h_13; simp only [ev_is, decide_eq_false_iff_not] at h_13; exact h_13 ⟨nI_pos' (by omega), nI_lt hj (by omega)⟩))
  refine mj_aldn dX3_reckonNext_17 rfl ?_
  refine mj_dupr dX3_reckonNext_18 ?_
  refine mj_geti fkX3_29 dX3_reckonNext_19 rfl rfl ?_
  refine mj_iconst dX3_reckonNext_22 ni_1 ?_
  refine mj_iadd dX3_reckonNext_23 ?_
  refine mj_puti fkX3_29 pkX3_3 dX3_reckonNext_24 rfl rfl ?_
  rw [e1]
  refine mj_aldn dX3_reckonNext_27 rfl ?_
  refine mj_getr fkX3_15 dX3_reckonNext_28 rfl rfl ?_
  refine mj_ildn dX3_reckonNext_31 rfl ?_
  refine mj_cvv (K := mX2_clearMarks) (c_clearM R (mj_up x 32 3 (nI (e + 1))) n hn hsz e hj) ckX2_clearMarks lkX3_42 ⟨Nat.le_of_ble_eq_true rfl, Nat.le_of_ble_eq_true rfl⟩ rfl dX3_reckonNext_32 rfl rfl (Nat.le_of_ble_eq_true rfl) (fun x_32 q_32 => ?_)
  subst q_32
  refine mj_aldn dX3_reckonNext_35 rfl ?_
  refine mj_getr fkX3_15 dX3_reckonNext_36 rfl rfl ?_
  refine mj_getr fkX3_46 dX3_reckonNext_39 rfl rfl ?_
  refine mj_ildn dX3_reckonNext_42 rfl ?_
  refine mj_iald dX3_reckonNext_43 rfl e (by omega) rfl (by decide) ?_
  refine mj_iconst dX3_reckonNext_44 ni_2 ?_
  refine mj_ic_ne (tgt := 56) dX3_reckonNext_45 rfl (fun h_45 => ?_) (fun h_45 => ?_)
  · have h_45 : ¬ x 14 e = 2 := h_45
    refine mj_aldn dX3_reckonNext_56 rfl ?_
    refine mj_getr fkX3_15 dX3_reckonNext_57 rfl rfl ?_
    refine mj_getr fkX3_46 dX3_reckonNext_60 rfl rfl ?_
    refine mj_ildn dX3_reckonNext_63 rfl ?_
    refine mj_iald dX3_reckonNext_64 rfl e (by omega) rfl (by decide) ?_
    refine mj_if_ne (tgt := 85) dX3_reckonNext_65 rfl (fun h_65 => ?_) (fun h_65 => ?_)
    · have h_65 : ¬ x 14 e = 0 := h_65
      refine mj_retv rfl dX3_reckonNext_85 ?_
      first
      | (rw [q_50]; exact hQ _ (by unfold rc_next; rw [if_pos h_45]))
      | (rw [q_82]; exact hQ _ (by unfold rc_next; rw [if_neg h_45, if_pos ⟨h_65, h_77⟩]))
      | (refine hQ _ ?_; unfold rc_next; rw [if_neg h_45, if_neg (by grind)])
    · have h_65 : x 14 e = 0 := h_65
      refine mj_aldn dX3_reckonNext_68 rfl ?_
      refine mj_getr fkX3_15 dX3_reckonNext_69 rfl rfl ?_
      refine mj_getr fkX3_53 dX3_reckonNext_72 rfl rfl ?_
      refine mj_ildn dX3_reckonNext_75 rfl ?_
      refine mj_iald dX3_reckonNext_76 rfl e (by omega) rfl (by decide) ?_
      refine mj_if_ne (tgt := 85) dX3_reckonNext_77 rfl (fun h_77 => ?_) (fun h_77 => ?_)
      · have h_77 : ¬ x 19 e = 0 := h_77
        refine mj_retv rfl dX3_reckonNext_85 ?_
        first
        | (rw [q_50]; exact hQ _ (by unfold rc_next; rw [if_pos h_45]))
        | (rw [q_82]; exact hQ _ (by unfold rc_next; rw [if_neg h_45, if_pos ⟨h_65, h_77⟩]))
        | (refine hQ _ ?_; unfold rc_next; rw [if_neg h_45, if_neg (by grind)])
      · have h_77 : x 19 e = 0 := h_77
        refine mj_aldn dX3_reckonNext_80 rfl ?_
        refine mj_ildn dX3_reckonNext_81 rfl ?_
        refine mj_cvv (K := mX3_reckonConviction) (c_conv R (ev_clear (mj_up x 32 3 (nI (e + 1))) e) n hn hsz e hj rfl nb hb hnb kc k0 hk hk0 hkc (hcd h_65)) ckX3_reckonConviction lkX3_56 ⟨Nat.le_of_ble_eq_true rfl, Nat.le_of_ble_eq_true rfl⟩ rfl dX3_reckonNext_82 rfl rfl (Nat.le_of_ble_eq_true rfl) (fun x_82 q_82 => ?_)
        refine mj_retv rfl dX3_reckonNext_85 ?_
        first
        | (rw [q_50]; exact hQ _ (by unfold rc_next; rw [if_pos h_45]))
        | (rw [q_82]; exact hQ _ (by unfold rc_next; rw [if_neg h_45, if_pos ⟨h_65, h_77⟩]))
        | (refine hQ _ ?_; unfold rc_next; rw [if_neg h_45, if_neg (by grind)])
  · have h_45 : x 14 e = 2 := h_45
    refine mj_aldn dX3_reckonNext_48 rfl ?_
    refine mj_ildn dX3_reckonNext_49 rfl ?_
    refine mj_cvv (K := mX3_reckonLong) (c_long R (ev_clear (mj_up x 32 3 (nI (e + 1))) e) n hn hsz e hj nb (by omega) hnb) ckX3_reckonLong lkX3_50 ⟨Nat.le_of_ble_eq_true rfl, Nat.le_of_ble_eq_true rfl⟩ rfl dX3_reckonNext_50 rfl rfl (Nat.le_of_ble_eq_true rfl) (fun x_50 q_50 => ?_)
    refine mj_goto (tgt := 85) dX3_reckonNext_53 rfl ?_
    refine mj_retv rfl dX3_reckonNext_85 ?_
    first
    | (rw [q_50]; exact hQ _ (by unfold rc_next; rw [if_pos h_45]))
    | (rw [q_82]; exact hQ _ (by unfold rc_next; rw [if_neg h_45, if_pos ⟨h_65, h_77⟩]))
    | (refine hQ _ ?_; unfold rc_next; rw [if_neg h_45, if_neg (by grind)])
