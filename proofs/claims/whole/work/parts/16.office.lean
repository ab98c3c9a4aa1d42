/-! THE OFFICE: cell 0 (today at 7); what it answers, in terms of its cells -/
def CW (x : mj_X) (n nb s k : Nat) : Prop := x 11 12 = nI n ∧ n ≤ 40 ∧ x 24 7 = nI nb ∧ nb ≤ 80 ∧ x 33 3 = nI s ∧ s ≤ 6 ∧ x 3 3 = nI k ∧ k ≤ 6 ∧ 1 ≤ k ∧ x 32 3 = nI n ∧ ∀ e, e < n → cd_ok x e
def dr (d : Int32) : Bool := decide (0 ≤ d ∧ d < 4)
def of_ok (x : mj_X) (k : Nat) (d o c : Int32) : Bool := decide (dr d = true ∧ 0 ≤ o ∧ o ≤ x 0 7 ∧ 0 ≤ c ∧ c < nI k)
def dall (x : mj_X) (nb : Nat) (d : Int32) : Int32 := bn_days x nb d 99999 84 0 0
def sees (x : mj_X) (a : Int32) (j : Nat) : Bool := if a = 0 then true else if x 19 j = 1 then false else if a = 2 then decide (x 0 7 - x 13 j < x 4 4) else if a = 3 then decide (x 21 j = 0 ∧ x 0 7 - x 15 j < x 4 5) else true
def seenP (x : mj_X) (a d : Int32) (j : Nat) : Bool := decide (x 14 j = 0 ∧ x 12 j = d ∧ sees x a j = true)
def seenF (x : mj_X) (a d : Int32) (j : Nat) (r : Int32 × Int32 × Int32) : Int32 × Int32 × Int32 := if seenP x a d j = true then (r.1 + 1, r.2.1 + x 17 j, nI j) else r
set_option maxHeartbeats 1000000 in
theorem c_isDr (sh : List mj_S) (x : mj_X) (d : Int32) : mj_CP mX6_isDriver sh [.int d] x (bi (dr d)) := by
  refine mj_startP (ls := [some (.int d)]) (by decide) rfl rfl (fun Q hQ => ?_)
  refine mj_ildn dX6_isDriver_0 rfl ?_
  refine mj_if_lt (tgt := 13) dX6_isDriver_1 rfl (fun h_1 => ?_) (fun h_1 => ?_)
  · refine mj_iconst dX6_isDriver_13 ni_0 ?_
    refine mj_retz rfl (by decide) dX6_isDriver_14 ?_
    exact mj_q hQ (by unfold dr bi; simp; grind)
  · refine mj_ildn dX6_isDriver_4 rfl ?_
    refine mj_iconst dX6_isDriver_5 ni_4 ?_
    refine mj_ic_ge (tgt := 13) dX6_isDriver_6 rfl (fun h_6 => ?_) (fun h_6 => ?_)
    · refine mj_iconst dX6_isDriver_13 ni_0 ?_
      refine mj_retz rfl (by decide) dX6_isDriver_14 ?_
      exact mj_q hQ (by unfold dr bi; simp; grind)
    · refine mj_iconst dX6_isDriver_9 ni_1 ?_
      refine mj_goto (tgt := 14) dX6_isDriver_10 rfl ?_
      refine mj_retz rfl (by decide) dX6_isDriver_14 ?_
      exact mj_q hQ (by unfold dr bi; simp; grind)
set_option maxHeartbeats 1000000 in
theorem c_ofok (R : List mj_S) (x : mj_X) (n nb s k : Nat) (hw : CW x n nb s k) (d o c : Int32) : mj_CP mX6_canBeOffence (shX ++ R) [.ref 0, .int d, .int o, .int c] x (bi (of_ok x k d o c)) := by
  obtain ⟨hn, hn40, hb, hb80, hs, hs6, hk, hk6, hk1, hsf, hcd⟩ := hw
  refine mj_startP (ls := [some (.ref 0), some (.int d), some (.int o), some (.int c)]) (by decide) rfl rfl (fun Q hQ => ?_)
  refine mj_ildn dX6_canBeOffence_0 rfl ?_
  refine mj_csp (K := mX6_isDriver) (c_isDr _ x d) ckX6_isDriver lkX6_140 ⟨Nat.le_of_ble_eq_true rfl, Nat.le_of_ble_eq_true rfl⟩ rfl dX6_canBeOffence_1 (Nat.le_of_ble_eq_true rfl) ?_
  refine mj_if_eq (tgt := 34) dX6_canBeOffence_4 rfl (fun h_4 => ?_) (fun h_4 => ?_)
  · rw [bi_z] at h_4
    refine mj_iconst dX6_canBeOffence_34 ni_0 ?_
    refine mj_retz rfl (by decide) dX6_canBeOffence_35 ?_
    exact mj_q hQ (by unfold of_ok bi; simp; grind)
  · rw [bi_nz] at h_4
    refine mj_ildn dX6_canBeOffence_7 rfl ?_
    refine mj_if_lt (tgt := 34) dX6_canBeOffence_8 rfl (fun h_8 => ?_) (fun h_8 => ?_)
    · refine mj_iconst dX6_canBeOffence_34 ni_0 ?_
      refine mj_retz rfl (by decide) dX6_canBeOffence_35 ?_
      exact mj_q hQ (by unfold of_ok bi; simp; grind)
    · refine mj_ildn dX6_canBeOffence_11 rfl ?_
      refine mj_aldn dX6_canBeOffence_12 rfl ?_
      refine mj_geti fkX6_98 dX6_canBeOffence_13 rfl rfl ?_
      refine mj_ic_gt (tgt := 34) dX6_canBeOffence_16 rfl (fun h_16 => ?_) (fun h_16 => ?_)
      · refine mj_iconst dX6_canBeOffence_34 ni_0 ?_
        refine mj_retz rfl (by decide) dX6_canBeOffence_35 ?_
        exact mj_q hQ (by unfold of_ok bi; simp; grind)
      · refine mj_aldn dX6_canBeOffence_19 rfl ?_
        refine mj_getr fkX6_19 dX6_canBeOffence_20 rfl rfl ?_
        refine mj_ildn dX6_canBeOffence_23 rfl ?_
        refine mj_cvp (K := mX5_hasCode) (c_hasCode _ 3 (ru_sh3 R) x k hk6 hk c) ckX5_hasCode lkX6_120 ⟨Nat.le_of_ble_eq_true rfl, Nat.le_of_ble_eq_true rfl⟩ rfl dX6_canBeOffence_24 rfl rfl (Nat.le_of_ble_eq_true rfl) ?_
        refine mj_if_eq (tgt := 34) dX6_canBeOffence_27 rfl (fun h_27 => ?_) (fun h_27 => ?_)
        · rw [bi_z] at h_27; simp only [ru_hc, decide_eq_false_iff_not] at h_27
          refine mj_iconst dX6_canBeOffence_34 ni_0 ?_
          refine mj_retz rfl (by decide) dX6_canBeOffence_35 ?_
          exact mj_q hQ (by unfold of_ok bi; simp; grind)
        · rw [bi_nz] at h_27; simp only [ru_hc, decide_eq_true_eq] at h_27
          refine mj_iconst dX6_canBeOffence_30 ni_1 ?_
          refine mj_goto (tgt := 35) dX6_canBeOffence_31 rfl ?_
          refine mj_retz rfl (by decide) dX6_canBeOffence_35 ?_
          exact mj_q hQ (by unfold of_ok bi; simp; grind)
set_option maxHeartbeats 1000000 in
theorem c_dall (R : List mj_S) (x : mj_X) (nb : Nat) (hb80 : nb ≤ 82) (hb : x 24 7 = nI nb) (d : Int32) : mj_CP mX6_daysInAll (shX ++ R) [.ref 0, .int d] x (dall x nb d) := by
  refine mj_startP (ls := [some (.ref 0), some (.int d)]) (by decide) rfl rfl (fun Q hQ => ?_)
  refine mj_aldn dX6_daysInAll_0 rfl ?_
  refine mj_getr fkX6_36 dX6_daysInAll_1 rfl rfl ?_
  refine mj_ildn dX6_daysInAll_4 rfl ?_
  refine mj_iconst dX6_daysInAll_5 ni_0 ?_
  refine mj_ldc kkX6_227 dX6_daysInAll_6 ?_
  refine mj_cvp (K := mX0_daysBetween) (c_days R x nb hb80 hb d 0 99999) ckX0_daysBetween lkX6_228 ⟨Nat.le_of_ble_eq_true rfl, Nat.le_of_ble_eq_true rfl⟩ rfl dX6_daysInAll_8 rfl rfl (Nat.le_of_ble_eq_true rfl) ?_
  refine mj_ret rfl dX6_daysInAll_11 ?_
  exact hQ
set_option maxHeartbeats 1000000 in
theorem c_nne (R : List mj_S) (x : mj_X) (n nb s : Nat) (hn : x 11 12 = nI (n + 1)) (hn40 : n ≤ 40) (hb : x 24 7 = nI nb) (hb80 : nb ≤ 80) (hs : x 33 3 = nI s) (hs6 : s ≤ 6) (hsf : x 32 3 = nI n) (hcd : cd_ok x n) : mj_CI mX6_noteNewEvent (shX ++ R) [.ref 0] x (fun z y => z = nI n ∧ ∃ w, ch_no x w s 0 (nI n) 0 ∧ y = rc_next w n) := by
  refine mj_startI (ls := [some (.ref 0), none]) (by decide) rfl rfl (fun Q hQ => ?_)
  have e1 : x 11 12 - 1 = nI n := by rw [hn]; exact nI_pred n
  refine mj_aldn dX6_noteNewEvent_0 rfl ?_
  refine mj_getr fkX6_29 dX6_noteNewEvent_1 rfl rfl ?_
  refine mj_geti fkX6_94 dX6_noteNewEvent_4 rfl rfl ?_
  refine mj_iconst dX6_noteNewEvent_7 ni_1 ?_
  refine mj_isub dX6_noteNewEvent_8 ?_
  rw [e1]
  refine mj_istn1 dX6_noteNewEvent_9 rfl ?_
  refine mj_aldn dX6_noteNewEvent_10 rfl ?_
  refine mj_getr fkX6_52 dX6_noteNewEvent_11 rfl rfl ?_
  refine mj_iconst dX6_noteNewEvent_14 ni_0 ?_
  refine mj_ildn dX6_noteNewEvent_15 rfl ?_
  refine mj_iconst dX6_noteNewEvent_16 ni_0 ?_
  refine mj_cvv (K := mX1_note) (c_note R x s hs6 hs 0 (nI n) 0) ckX1_note lkX6_116 ⟨Nat.le_of_ble_eq_true rfl, Nat.le_of_ble_eq_true rfl⟩ rfl dX6_noteNewEvent_17 rfl rfl (Nat.le_of_ble_eq_true rfl) (fun x_17 q_17 => ?_)
  have fr : ∀ c, c < 33 → x_17 c = x c := fun c hc => q_17.2.2.2 c (by omega) (by omega) (by omega) (by omega)
  refine mj_aldn dX6_noteNewEvent_20 rfl ?_
  refine mj_getr fkX6_45 dX6_noteNewEvent_21 rfl rfl ?_
  refine mj_cvv (K := mX3_reckonNext) (c_rnext R x_17 (n + 1) (by omega) (by rw [fr 11 (by decide)]; exact hn) n (by omega) (by rw [fr 32 (by decide)]; exact hsf) nb (by omega) (by rw [fr 24 (by decide)]; exact hb) (cd_fr (fr 3 (by decide)) (fr 14 (by decide)) (fr 16 (by decide)) hcd)) ckX3_reckonNext lkX6_224 ⟨Nat.le_of_ble_eq_true rfl, Nat.le_of_ble_eq_true rfl⟩ rfl dX6_noteNewEvent_24 rfl rfl (Nat.le_of_ble_eq_true rfl) (fun x_24 q_24 => ?_)
  refine mj_ildn dX6_noteNewEvent_27 rfl ?_
  refine mj_ret rfl dX6_noteNewEvent_28 ?_
  exact hQ _ _ ⟨rfl, x_17, q_17, q_24⟩
set_option maxHeartbeats 1000000 in
theorem c_retell (R : List mj_S) (x : mj_X) (n nb s k : Nat) (hw : CW x n nb s k) (j : Nat) (hj : j < n) (ch v : Int32) (hch : ch = 1 ∨ ch = 2 ∨ ch = 3 ∨ ch = 4) : mj_CI mX6_retell (shX ++ R) [.ref 0, .int ch, .int (nI j), .int v] x (fun z y => ∃ w, ch_no (mj_up x (ev_tc ch) j v) w s ch (nI j) (x (ev_tc ch) j) ∧ y = rc_it w n ∧ z = dall y (bnN y) (x 12 j) - dall x nb (x 12 j) + 100000) := by
  obtain ⟨hn, hn40, hb, hb80, hs, hs6, hk, hk6, hk1, hsf, hcd⟩ := hw
  refine mj_startI (ls := [some (.ref 0), some (.int ch), some (.int (nI j)), some (.int v), none, none]) (by decide) rfl rfl (fun Q hQ => ?_)
  have tc : ev_tc ch = 19 ∨ ev_tc ch = 17 ∨ ev_tc ch = 15 ∨ ev_tc ch = 18 := by rcases hch with rfl | rfl | rfl | rfl <;> decide
  refine mj_aldn dX6_retell_0 rfl ?_
  refine mj_getr fkX6_29 dX6_retell_1 rfl rfl ?_
  refine mj_getr fkX6_241 dX6_retell_4 rfl rfl ?_
  refine mj_ildn dX6_retell_7 rfl ?_
  refine mj_iald dX6_retell_8 rfl j (by omega) rfl (by decide) ?_
  refine mj_ist4 dX6_retell_9 rfl ?_
  refine mj_aldn dX6_retell_11 rfl ?_
  refine mj_ild dX6_retell_12 rfl ?_
  refine mj_cvp (K := mX6_daysInAll) (c_dall R x nb (by omega) hb (x 12 j)) ckX6_daysInAll lkX6_221 ⟨Nat.le_of_ble_eq_true rfl, Nat.le_of_ble_eq_true rfl⟩ rfl dX6_retell_14 rfl rfl (Nat.le_of_ble_eq_true rfl) ?_
  refine mj_ist5 dX6_retell_17 rfl ?_
  refine mj_aldn dX6_retell_19 rfl ?_
  refine mj_getr fkX6_52 dX6_retell_20 rfl rfl ?_
  refine mj_ildn dX6_retell_23 rfl ?_
  refine mj_ildn dX6_retell_24 rfl ?_
  refine mj_aldn dX6_retell_25 rfl ?_
  refine mj_getr fkX6_29 dX6_retell_26 rfl rfl ?_
  refine mj_ildn dX6_retell_29 rfl ?_
  refine mj_ildn dX6_retell_30 rfl ?_
  refine mj_ildn dX6_retell_31 rfl ?_
  refine mj_cvi (K := mX2_tell) (c_evtell R x n (by omega) hn j hj ch v hch) ckX2_tell lkX6_191 ⟨Nat.le_of_ble_eq_true rfl, Nat.le_of_ble_eq_true rfl⟩ rfl dX6_retell_32 rfl rfl (Nat.le_of_ble_eq_true rfl) (fun z_32 x_32 q_32 => ?_)
  obtain ⟨rfl, rfl⟩ := q_32
  have fr0 : ∀ c, c ≠ 15 → c ≠ 17 → c ≠ 18 → c ≠ 19 → mj_up x (ev_tc ch) j v c = x c := fun c a1 a2 a3 a4 => up_ne (by omega)
  refine mj_cvv (K := mX1_note) (c_note R (mj_up x (ev_tc ch) j v) s hs6 (by rw [fr0 33 (by decide) (by decide) (by decide) (by decide)]; exact hs) ch (nI j) (x (ev_tc ch) j)) ckX1_note lkX6_116 ⟨Nat.le_of_ble_eq_true rfl, Nat.le_of_ble_eq_true rfl⟩ rfl dX6_retell_35 rfl rfl (Nat.le_of_ble_eq_true rfl) (fun x_35 q_35 => ?_)
  have fr : ∀ c, c < 33 → c ≠ 15 → c ≠ 17 → c ≠ 18 → c ≠ 19 → x_35 c = x c := fun c hc a1 a2 a3 a4 => by rw [q_35.2.2.2 c (by omega) (by omega) (by omega) (by omega)]; exact fr0 c a1 a2 a3 a4
  refine mj_aldn dX6_retell_38 rfl ?_
  refine mj_getr fkX6_45 dX6_retell_39 rfl rfl ?_
  refine mj_cvv (K := mX3_reckonAll) (c_rall R x_35 n (by omega) (by rw [fr 11 (by decide) (by decide) (by decide) (by decide) (by decide)]; exact hn) (fun e he => cd_fr (fr 3 (by decide) (by decide) (by decide) (by decide) (by decide)) (fr 14 (by decide) (by decide) (by decide) (by decide) (by decide)) (fr 16 (by decide) (by decide) (by decide) (by decide) (by decide)) (hcd e he))) ckX3_reckonAll lkX6_101 ⟨Nat.le_of_ble_eq_true rfl, Nat.le_of_ble_eq_true rfl⟩ rfl dX6_retell_42 rfl rfl (Nat.le_of_ble_eq_true rfl) (fun x_42 q_42 => ?_)
  obtain ⟨-, nb2, hb2, hb3⟩ := it_ok x_35 n (by omega)
  rw [← q_42] at hb3
  refine mj_aldn dX6_retell_45 rfl ?_
  refine mj_ild dX6_retell_46 rfl ?_
  refine mj_cvp (K := mX6_daysInAll) (c_dall R x_42 nb2 (by omega) hb3 (x 12 j)) ckX6_daysInAll lkX6_221 ⟨Nat.le_of_ble_eq_true rfl, Nat.le_of_ble_eq_true rfl⟩ rfl dX6_retell_48 rfl rfl (Nat.le_of_ble_eq_true rfl) ?_
  refine mj_ild dX6_retell_51 rfl ?_
  refine mj_isub dX6_retell_53 ?_
  refine mj_ldc kkX6_248 dX6_retell_54 ?_
  refine mj_iadd dX6_retell_56 ?_
  refine mj_ret rfl dX6_retell_57 ?_
  exact hQ _ _ ⟨x_35, q_35, q_42, by rw [bnN_eq (by omega) hb3]⟩
set_option maxHeartbeats 1000000 in
theorem c_sees (R : List mj_S) (x : mj_X) (n nb s k : Nat) (hw : CW x n nb s k) (a : Int32) (j : Nat) (hj : j < n) : mj_CP mX6_sees (shX ++ R) [.ref 0, .int a, .int (nI j)] x (bi (sees x a j)) := by
  obtain ⟨hn, hn40, hb, hb80, hs, hs6, hk, hk6, hk1, hsf, hcd⟩ := hw
  refine mj_startP (ls := [some (.ref 0), some (.int a), some (.int (nI j))]) (by decide) rfl rfl (fun Q hQ => ?_)
  refine mj_ildn dX6_sees_0 rfl ?_
  refine mj_if_ne (tgt := 6) dX6_sees_1 rfl (fun h_1 => ?_) (fun h_1 => ?_)
  · refine mj_aldn dX6_sees_6 rfl ?_
    refine mj_getr fkX6_29 dX6_sees_7 rfl rfl ?_
    refine mj_getr fkX6_156 dX6_sees_10 rfl rfl ?_
    refine mj_ildn dX6_sees_13 rfl ?_
    refine mj_iald dX6_sees_14 rfl j (by omega) rfl (by decide) ?_
    refine mj_iconst dX6_sees_15 ni_1 ?_
    refine mj_ic_ne (tgt := 21) dX6_sees_16 rfl (fun h_16 => ?_) (fun h_16 => ?_)
    · refine mj_ildn dX6_sees_21 rfl ?_
      refine mj_iconst dX6_sees_22 ni_2 ?_
      refine mj_ic_ne (tgt := 57) dX6_sees_23 rfl (fun h_23 => ?_) (fun h_23 => ?_)
      · refine mj_ildn dX6_sees_57 rfl ?_
        refine mj_iconst dX6_sees_58 ni_3 ?_
        refine mj_ic_ne (tgt := 99) dX6_sees_59 rfl (fun h_59 => ?_) (fun h_59 => ?_)
        · refine mj_iconst dX6_sees_99 ni_1 ?_
          refine mj_goto (tgt := 104) dX6_sees_100 rfl ?_
          refine mj_retz rfl (by decide) dX6_sees_104 ?_
          exact mj_q hQ (by unfold sees bi; simp [h_1, h_16, h_23, h_59]; try grind)
        · refine mj_aldn dX6_sees_62 rfl ?_
          refine mj_getr fkX6_29 dX6_sees_63 rfl rfl ?_
          refine mj_getr fkX6_252 dX6_sees_66 rfl rfl ?_
          refine mj_ildn dX6_sees_69 rfl ?_
          refine mj_iald dX6_sees_70 rfl j (by omega) rfl (by decide) ?_
          refine mj_if_ne (tgt := 103) dX6_sees_71 rfl (fun h_71 => ?_) (fun h_71 => ?_)
          · refine mj_iconst dX6_sees_103 ni_0 ?_
            refine mj_retz rfl (by decide) dX6_sees_104 ?_
            exact mj_q hQ (by unfold sees bi; simp [h_1, h_16, h_23, h_59, h_71]; try grind)
          · refine mj_aldn dX6_sees_74 rfl ?_
            refine mj_geti fkX6_98 dX6_sees_75 rfl rfl ?_
            refine mj_aldn dX6_sees_78 rfl ?_
            refine mj_getr fkX6_29 dX6_sees_79 rfl rfl ?_
            refine mj_getr fkX6_170 dX6_sees_82 rfl rfl ?_
            refine mj_ildn dX6_sees_85 rfl ?_
            refine mj_iald dX6_sees_86 rfl j (by omega) rfl (by decide) ?_
            refine mj_isub dX6_sees_87 ?_
            refine mj_aldn dX6_sees_88 rfl ?_
            refine mj_getr fkX6_19 dX6_sees_89 rfl rfl ?_
            refine mj_iconst dX6_sees_92 ni_5 ?_
            refine mj_cvp (K := mX5_get) (c_get3 R x 5 (by decide)) ckX5_get lkX6_108 ⟨Nat.le_of_ble_eq_true rfl, Nat.le_of_ble_eq_true rfl⟩ rfl dX6_sees_93 rfl rfl (Nat.le_of_ble_eq_true rfl) ?_
            refine mj_ic_ge (tgt := 103) dX6_sees_96 rfl (fun h_96 => ?_) (fun h_96 => ?_)
            · refine mj_iconst dX6_sees_103 ni_0 ?_
              refine mj_retz rfl (by decide) dX6_sees_104 ?_
              exact mj_q hQ (by unfold sees bi; simp [h_1, h_16, h_23, h_59, h_71, h_96]; try grind)
            · refine mj_iconst dX6_sees_99 ni_1 ?_
              refine mj_goto (tgt := 104) dX6_sees_100 rfl ?_
              refine mj_retz rfl (by decide) dX6_sees_104 ?_
              exact mj_q hQ (by unfold sees bi; simp [h_1, h_16, h_23, h_59, h_71, h_96]; try grind)
      · refine mj_aldn dX6_sees_26 rfl ?_
        refine mj_geti fkX6_98 dX6_sees_27 rfl rfl ?_
        refine mj_aldn dX6_sees_30 rfl ?_
        refine mj_getr fkX6_29 dX6_sees_31 rfl rfl ?_
        refine mj_getr fkX6_167 dX6_sees_34 rfl rfl ?_
        refine mj_ildn dX6_sees_37 rfl ?_
        refine mj_iald dX6_sees_38 rfl j (by omega) rfl (by decide) ?_
        refine mj_isub dX6_sees_39 ?_
        refine mj_aldn dX6_sees_40 rfl ?_
        refine mj_getr fkX6_19 dX6_sees_41 rfl rfl ?_
        refine mj_iconst dX6_sees_44 ni_4 ?_
        refine mj_cvp (K := mX5_get) (c_get3 R x 4 (by decide)) ckX5_get lkX6_108 ⟨Nat.le_of_ble_eq_true rfl, Nat.le_of_ble_eq_true rfl⟩ rfl dX6_sees_45 rfl rfl (Nat.le_of_ble_eq_true rfl) ?_
        refine mj_ic_ge (tgt := 55) dX6_sees_48 rfl (fun h_48 => ?_) (fun h_48 => ?_)
        · refine mj_iconst dX6_sees_55 ni_0 ?_
          refine mj_retz rfl (by decide) dX6_sees_56 ?_
          exact mj_q hQ (by unfold sees bi; simp [h_1, h_16, h_23, h_48]; try grind)
        · refine mj_iconst dX6_sees_51 ni_1 ?_
          refine mj_goto (tgt := 56) dX6_sees_52 rfl ?_
          refine mj_retz rfl (by decide) dX6_sees_56 ?_
          exact mj_q hQ (by unfold sees bi; simp [h_1, h_16, h_23, h_48]; try grind)
    · refine mj_iconst dX6_sees_19 ni_0 ?_
      refine mj_retz rfl (by decide) dX6_sees_20 ?_
      exact mj_q hQ (by unfold sees bi; simp [h_1, h_16]; try grind)
  · refine mj_iconst dX6_sees_4 ni_1 ?_
    refine mj_retz rfl (by decide) dX6_sees_5 ?_
    exact mj_q hQ (by unfold sees bi; simp [h_1]; try grind)
set_option maxHeartbeats 1000000 in
theorem p_event (R : List mj_S) (x : mj_X) (n nb s k : Nat) (hw : CW x n nb s k) (e w : Int32) : mj_CP mX6_event (shX ++ R) [.ref 0, .int e, .int w] x (if 0 ≤ e ∧ e < nI n ∧ 0 ≤ w ∧ w ≤ 10 then ev_tell x e.toNatClampNeg w else -1) := by
  obtain ⟨hn, hn40, hb, hb80, hs, hs6, hk, hk6, hk1, hsf, hcd⟩ := hw
  refine mj_startP (ls := [some (.ref 0), some (.int e), some (.int w)]) (by decide) rfl rfl (fun Q hQ => ?_)
  refine mj_aldn dX6_event_0 rfl ?_
  refine mj_getr fkX6_29 dX6_event_1 rfl rfl ?_
  refine mj_ildn dX6_event_4 rfl ?_
  refine mj_cvp (K := mX2_isThere) (c_isThere R x n (by omega) hn e) ckX2_isThere lkX6_204 ⟨Nat.le_of_ble_eq_true rfl, Nat.le_of_ble_eq_true rfl⟩ rfl dX6_event_5 rfl rfl (Nat.le_of_ble_eq_true rfl) ?_
  refine mj_if_eq (tgt := 21) dX6_event_8 rfl (fun h_8 => ?_) (fun h_8 => ?_)
  · rw [bi_z] at h_8; simp only [ev_is, decide_eq_false_iff_not] at h_8
    refine mj_iconst dX6_event_21 ni_m1 ?_
    refine mj_ret rfl dX6_event_22 ?_
    exact mj_q hQ (by rw [if_neg (by grind)])
  · rw [bi_nz] at h_8; simp only [ev_is, decide_eq_true_eq] at h_8
    obtain ⟨j, hj, rfl⟩ := ix_of (n := n) (a := e) (by omega) h_8.1 h_8.2
    refine mj_ildn dX6_event_11 rfl ?_
    refine mj_if_lt (tgt := 21) dX6_event_12 rfl (fun h_12 => ?_) (fun h_12 => ?_)
    · refine mj_iconst dX6_event_21 ni_m1 ?_
      refine mj_ret rfl dX6_event_22 ?_
      exact mj_q hQ (by rw [if_neg (by grind)])
    · refine mj_ildn dX6_event_15 rfl ?_
      refine mj_bipush dX6_event_16 nb_10 ?_
      refine mj_ic_le (tgt := 23) dX6_event_18 rfl (fun h_18 => ?_) (fun h_18 => ?_)
      · refine mj_aldn dX6_event_23 rfl ?_
        refine mj_getr fkX6_29 dX6_event_24 rfl rfl ?_
        refine mj_ildn dX6_event_27 rfl ?_
        refine mj_ildn dX6_event_28 rfl ?_
        refine mj_cvp (K := mX2_tellOf) (c_tell R x n (by omega) hn j hj w) ckX2_tellOf lkX6_207 ⟨Nat.le_of_ble_eq_true rfl, Nat.le_of_ble_eq_true rfl⟩ rfl dX6_event_29 rfl rfl (Nat.le_of_ble_eq_true rfl) ?_
        refine mj_ret rfl dX6_event_32 ?_
        exact mj_q hQ (by rw [if_pos ⟨h_8.1, h_8.2, by grind, by grind⟩, nI_clamp (by omega)])
      · refine mj_iconst dX6_event_21 ni_m1 ?_
        refine mj_ret rfl dX6_event_22 ?_
        exact mj_q hQ (by rw [if_neg (by grind)])
set_option maxHeartbeats 1000000 in
theorem p_sum (R : List mj_S) (x : mj_X) (n nb s k : Nat) (hw : CW x n nb s k) (d t : Int32) : mj_CP mX6_sum (shX ++ R) [.ref 0, .int d, .int t] x (if dr d = true ∧ 0 ≤ t ∧ t ≤ 9999 then (if 0 < hv x d t n then hv x d t n else 0) else -1) := by
  obtain ⟨hn, hn40, hb, hb80, hs, hs6, hk, hk6, hk1, hsf, hcd⟩ := hw
  refine mj_startP (ls := [some (.ref 0), some (.int d), some (.int t)]) (by decide) rfl rfl (fun Q hQ => ?_)
  refine mj_ildn dX6_sum_0 rfl ?_
  refine mj_csp (K := mX6_isDriver) (c_isDr _ x d) ckX6_isDriver lkX6_140 ⟨Nat.le_of_ble_eq_true rfl, Nat.le_of_ble_eq_true rfl⟩ rfl dX6_sum_1 (Nat.le_of_ble_eq_true rfl) ?_
  refine mj_if_eq (tgt := 18) dX6_sum_4 rfl (fun h_4 => ?_) (fun h_4 => ?_)
  · rw [bi_z] at h_4
    refine mj_iconst dX6_sum_18 ni_m1 ?_
    refine mj_ret rfl dX6_sum_19 ?_
    exact mj_q hQ (by rw [if_neg (by grind)])
  · rw [bi_nz] at h_4
    refine mj_ildn dX6_sum_7 rfl ?_
    refine mj_if_lt (tgt := 18) dX6_sum_8 rfl (fun h_8 => ?_) (fun h_8 => ?_)
    · refine mj_iconst dX6_sum_18 ni_m1 ?_
      refine mj_ret rfl dX6_sum_19 ?_
      exact mj_q hQ (by rw [if_neg (by grind)])
    · refine mj_ildn dX6_sum_11 rfl ?_
      refine mj_sipush dX6_sum_12 ns_9999 ?_
      refine mj_ic_le (tgt := 20) dX6_sum_15 rfl (fun h_15 => ?_) (fun h_15 => ?_)
      · refine mj_iconst dX6_sum_20 ni_0 ?_
        refine mj_aldn dX6_sum_21 rfl ?_
        refine mj_getr fkX6_45 dX6_sum_22 rfl rfl ?_
        refine mj_ildn dX6_sum_25 rfl ?_
        refine mj_ildn dX6_sum_26 rfl ?_
        refine mj_cvp (K := mX3_heaviest) (c_hv R x n (by omega) hsf d t) ckX3_heaviest lkX6_210 ⟨Nat.le_of_ble_eq_true rfl, Nat.le_of_ble_eq_true rfl⟩ rfl dX6_sum_27 rfl rfl (Nat.le_of_ble_eq_true rfl) ?_
        refine mj_mx lkX6_213 (Nat.le_of_ble_eq_true rfl) (Nat.le_of_ble_eq_true rfl) (Nat.le_of_ble_eq_true rfl) dX6_sum_30 ?_
        refine mj_ret rfl dX6_sum_33 ?_
        exact mj_q hQ (by rw [if_pos (show dr d = true ∧ 0 ≤ t ∧ t ≤ 9999 from ⟨h_4, by grind, by grind⟩)])
      · refine mj_iconst dX6_sum_18 ni_m1 ?_
        refine mj_ret rfl dX6_sum_19 ?_
        exact mj_q hQ (by rw [if_neg (by grind)])
def needP (x : mj_X) (nb n : Nat) (d : Int32) (j : Nat) : Bool := decide (x 4 1 - hv x d (x 0 7) n ≤ nI (j + 1) * (if lp_any (bn_has x d (x 0 7)) nb = true then 2 else 1))
def opI (o : Option Nat) (f : Nat → Int32) (z : Int32) : Int32 := match o with
  | some j => f j
  | none => z
set_option maxHeartbeats 1000000 in
theorem p_need (R : List mj_S) (x : mj_X) (n nb s k : Nat) (hw : CW x n nb s k) (d : Int32) : mj_CP mX6_need (shX ++ R) [.ref 0, .int d] x (if dr d = true then opI (lp_find (needP x nb n d) 99 0) (fun j => nI (j + 1)) (-4) else -1) := by
  obtain ⟨hn, hn40, hb, hb80, hs, hs6, hk, hk6, hk1, hsf, hcd⟩ := hw
  refine mj_startP (ls := [some (.ref 0), some (.int d), none, none, none]) (by decide) rfl rfl (fun Q hQ => ?_)
  refine mj_ildn dX6_need_0 rfl ?_
  refine mj_csp (K := mX6_isDriver) (c_isDr _ x d) ckX6_isDriver lkX6_140 ⟨Nat.le_of_ble_eq_true rfl, Nat.le_of_ble_eq_true rfl⟩ rfl dX6_need_1 (Nat.le_of_ble_eq_true rfl) ?_
  refine mj_if_ne (tgt := 9) dX6_need_4 rfl (fun h_4 => ?_) (fun h_4 => ?_)
  · rw [bi_nz] at h_4
    refine mj_aldn dX6_need_9 rfl ?_
    refine mj_getr fkX6_36 dX6_need_10 rfl rfl ?_
    refine mj_ildn dX6_need_13 rfl ?_
    refine mj_aldn dX6_need_14 rfl ?_
    refine mj_geti fkX6_98 dX6_need_15 rfl rfl ?_
    refine mj_cvp (K := mX0_hold) (c_hold R x nb (by omega) hb d (x 0 7)) ckX0_hold lkX6_218 ⟨Nat.le_of_ble_eq_true rfl, Nat.le_of_ble_eq_true rfl⟩ rfl dX6_need_18 rfl rfl (Nat.le_of_ble_eq_true rfl) ?_
    refine mj_if_eq (tgt := 28) dX6_need_21 rfl (fun h_21 => ?_) (fun h_21 => ?_)
    · rw [bi_z] at h_21
      have hbb := h_21
      refine mj_iconst dX6_need_28 ni_1 ?_
      refine mj_istn2 dX6_need_29 rfl ?_
      have loop : ∀ (k j : Nat), j + k = 99 → (∀ i, i < j → needP x nb n d i = false) → mj_V mX6_need (shX ++ R) Q x 55 [some (.ref 0), some (.int d), some (.int 1), some (.int (x 4 1 - hv x d (x 0 7) n)), some (.int (nI (j + 1)))] [] := by
        intro k
        induction k with
        | zero =>
          intro j hj hp
          have hj : j = 99 := by omega
          subst hj
          refine mj_ild dX6_need_55 rfl ?_
          refine mj_bipush dX6_need_57 nb_99 ?_
          refine mj_ic_gt (tgt := 79) dX6_need_59 rfl (fun h_59 => ?_) (fun h_59 => False.elim (by exact h_59 (by decide)))
          refine mj_bipush dX6_need_79 nb_m4 ?_
          refine mj_ret rfl dX6_need_81 ?_
          exact mj_q hQ (by rw [if_pos h_4, lp_find_no 99 0 99 (by omega) (fun i _ h => hp i h)]; rfl)
        | succ k ih =>
          intro j hj hp
          refine mj_ild dX6_need_55 rfl ?_
          refine mj_bipush dX6_need_57 nb_99 ?_
          refine mj_ic_gt (tgt := 79) dX6_need_59 rfl (fun h_59 => False.elim (by exact absurd h_59 (nI_nlt (a := 99) (b := j + 1) (by omega) (by omega)))) (fun h_59 => ?_)
          refine mj_ild dX6_need_62 rfl ?_
          refine mj_ildn dX6_need_64 rfl ?_
          refine mj_imul dX6_need_65 ?_
          refine mj_ildn dX6_need_66 rfl ?_
          refine mj_ic_lt (tgt := 73) dX6_need_67 rfl (fun h_67 => ?_) (fun h_67 => ?_)
          · refine mj_inc4 dX6_need_73 ni_1 rfl ?_
            refine mj_goto (tgt := 55) dX6_need_76 rfl ?_
            exact mj_ls (ih (j + 1) (by omega) (lt_s hp (by unfold needP; rw [hbb]; simp only [if_true, Bool.false_eq_true, if_false]; simp; grind))) (by rw [nI_1])
          · refine mj_ild dX6_need_70 rfl ?_
            refine mj_ret rfl dX6_need_72 ?_
            exact mj_q hQ (by rw [if_pos h_4, lp_find_yes (i := j) (by unfold needP; rw [hbb]; simp only [if_true, Bool.false_eq_true, if_false]; simp; grind) 99 0 (by omega) (by omega) (fun l _ h => hp l h)]; rfl)
      refine mj_aldn dX6_need_30 rfl ?_
      refine mj_getr fkX6_19 dX6_need_31 rfl rfl ?_
      refine mj_iconst dX6_need_34 ni_1 ?_
      refine mj_cvp (K := mX5_get) (c_get3 R x 1 (by decide)) ckX5_get lkX6_108 ⟨Nat.le_of_ble_eq_true rfl, Nat.le_of_ble_eq_true rfl⟩ rfl dX6_need_35 rfl rfl (Nat.le_of_ble_eq_true rfl) ?_
      refine mj_aldn dX6_need_38 rfl ?_
      refine mj_getr fkX6_45 dX6_need_39 rfl rfl ?_
      refine mj_ildn dX6_need_42 rfl ?_
      refine mj_aldn dX6_need_43 rfl ?_
      refine mj_geti fkX6_98 dX6_need_44 rfl rfl ?_
      refine mj_cvp (K := mX3_heaviest) (c_hv R x n (by omega) hsf d (x 0 7)) ckX3_heaviest lkX6_210 ⟨Nat.le_of_ble_eq_true rfl, Nat.le_of_ble_eq_true rfl⟩ rfl dX6_need_47 rfl rfl (Nat.le_of_ble_eq_true rfl) ?_
      refine mj_isub dX6_need_50 ?_
      refine mj_istn3 dX6_need_51 rfl ?_
      refine mj_iconst dX6_need_52 ni_1 ?_
      refine mj_ist4 dX6_need_53 rfl ?_
      exact loop 99 0 (by omega) (fun i h => by omega)
    · rw [bi_nz] at h_21
      have hbb := h_21
      refine mj_iconst dX6_need_24 ni_2 ?_
      refine mj_goto (tgt := 29) dX6_need_25 rfl ?_
      refine mj_istn2 dX6_need_29 rfl ?_
      have loop : ∀ (k j : Nat), j + k = 99 → (∀ i, i < j → needP x nb n d i = false) → mj_V mX6_need (shX ++ R) Q x 55 [some (.ref 0), some (.int d), some (.int 2), some (.int (x 4 1 - hv x d (x 0 7) n)), some (.int (nI (j + 1)))] [] := by
        intro k
        induction k with
        | zero =>
          intro j hj hp
          have hj : j = 99 := by omega
          subst hj
          refine mj_ild dX6_need_55 rfl ?_
          refine mj_bipush dX6_need_57 nb_99 ?_
          refine mj_ic_gt (tgt := 79) dX6_need_59 rfl (fun h_59 => ?_) (fun h_59 => False.elim (by exact h_59 (by decide)))
          refine mj_bipush dX6_need_79 nb_m4 ?_
          refine mj_ret rfl dX6_need_81 ?_
          exact mj_q hQ (by rw [if_pos h_4, lp_find_no 99 0 99 (by omega) (fun i _ h => hp i h)]; rfl)
        | succ k ih =>
          intro j hj hp
          refine mj_ild dX6_need_55 rfl ?_
          refine mj_bipush dX6_need_57 nb_99 ?_
          refine mj_ic_gt (tgt := 79) dX6_need_59 rfl (fun h_59 => False.elim (by exact absurd h_59 (nI_nlt (a := 99) (b := j + 1) (by omega) (by omega)))) (fun h_59 => ?_)
          refine mj_ild dX6_need_62 rfl ?_
          refine mj_ildn dX6_need_64 rfl ?_
          refine mj_imul dX6_need_65 ?_
          refine mj_ildn dX6_need_66 rfl ?_
          refine mj_ic_lt (tgt := 73) dX6_need_67 rfl (fun h_67 => ?_) (fun h_67 => ?_)
          · refine mj_inc4 dX6_need_73 ni_1 rfl ?_
            refine mj_goto (tgt := 55) dX6_need_76 rfl ?_
            exact mj_ls (ih (j + 1) (by omega) (lt_s hp (by unfold needP; rw [hbb]; simp only [if_true, Bool.false_eq_true, if_false]; simp; grind))) (by rw [nI_1])
          · refine mj_ild dX6_need_70 rfl ?_
            refine mj_ret rfl dX6_need_72 ?_
            exact mj_q hQ (by rw [if_pos h_4, lp_find_yes (i := j) (by unfold needP; rw [hbb]; simp only [if_true, Bool.false_eq_true, if_false]; simp; grind) 99 0 (by omega) (by omega) (fun l _ h => hp l h)]; rfl)
      refine mj_aldn dX6_need_30 rfl ?_
      refine mj_getr fkX6_19 dX6_need_31 rfl rfl ?_
      refine mj_iconst dX6_need_34 ni_1 ?_
      refine mj_cvp (K := mX5_get) (c_get3 R x 1 (by decide)) ckX5_get lkX6_108 ⟨Nat.le_of_ble_eq_true rfl, Nat.le_of_ble_eq_true rfl⟩ rfl dX6_need_35 rfl rfl (Nat.le_of_ble_eq_true rfl) ?_
      refine mj_aldn dX6_need_38 rfl ?_
      refine mj_getr fkX6_45 dX6_need_39 rfl rfl ?_
      refine mj_ildn dX6_need_42 rfl ?_
      refine mj_aldn dX6_need_43 rfl ?_
      refine mj_geti fkX6_98 dX6_need_44 rfl rfl ?_
      refine mj_cvp (K := mX3_heaviest) (c_hv R x n (by omega) hsf d (x 0 7)) ckX3_heaviest lkX6_210 ⟨Nat.le_of_ble_eq_true rfl, Nat.le_of_ble_eq_true rfl⟩ rfl dX6_need_47 rfl rfl (Nat.le_of_ble_eq_true rfl) ?_
      refine mj_isub dX6_need_50 ?_
      refine mj_istn3 dX6_need_51 rfl ?_
      refine mj_iconst dX6_need_52 ni_1 ?_
      refine mj_ist4 dX6_need_53 rfl ?_
      exact loop 99 0 (by omega) (fun i h => by omega)
  · rw [bi_z] at h_4
    refine mj_iconst dX6_need_7 ni_m1 ?_
    refine mj_ret rfl dX6_need_8 ?_
    exact mj_q hQ (by rw [if_neg (by grind)])
set_option maxHeartbeats 1000000 in
theorem p_banned (R : List mj_S) (x : mj_X) (n nb s k : Nat) (hw : CW x n nb s k) (d t : Int32) : mj_CP mX6_banned (shX ++ R) [.ref 0, .int d, .int t] x (if dr d = true ∧ 0 ≤ t ∧ t ≤ 99999 then bi (lp_any (bn_has x d t) nb) else -1) := by
  obtain ⟨hn, hn40, hb, hb80, hs, hs6, hk, hk6, hk1, hsf, hcd⟩ := hw
  refine mj_startP (ls := [some (.ref 0), some (.int d), some (.int t)]) (by decide) rfl rfl (fun Q hQ => ?_)
  refine mj_ildn dX6_banned_0 rfl ?_
  refine mj_csp (K := mX6_isDriver) (c_isDr _ x d) ckX6_isDriver lkX6_140 ⟨Nat.le_of_ble_eq_true rfl, Nat.le_of_ble_eq_true rfl⟩ rfl dX6_banned_1 (Nat.le_of_ble_eq_true rfl) ?_
  refine mj_if_eq (tgt := 17) dX6_banned_4 rfl (fun h_4 => ?_) (fun h_4 => ?_)
  · rw [bi_z] at h_4
    refine mj_iconst dX6_banned_17 ni_m1 ?_
    refine mj_ret rfl dX6_banned_18 ?_
    exact mj_q hQ (by rw [if_neg (by grind)])
  · rw [bi_nz] at h_4
    refine mj_ildn dX6_banned_7 rfl ?_
    refine mj_if_lt (tgt := 17) dX6_banned_8 rfl (fun h_8 => ?_) (fun h_8 => ?_)
    · refine mj_iconst dX6_banned_17 ni_m1 ?_
      refine mj_ret rfl dX6_banned_18 ?_
      exact mj_q hQ (by rw [if_neg (by grind)])
    · refine mj_ildn dX6_banned_11 rfl ?_
      refine mj_ldc kkX6_227 dX6_banned_12 ?_
      refine mj_ic_le (tgt := 19) dX6_banned_14 rfl (fun h_14 => ?_) (fun h_14 => ?_)
      · refine mj_aldn dX6_banned_19 rfl ?_
        refine mj_getr fkX6_36 dX6_banned_20 rfl rfl ?_
        refine mj_ildn dX6_banned_23 rfl ?_
        refine mj_ildn dX6_banned_24 rfl ?_
        refine mj_cvp (K := mX0_hold) (c_hold R x nb (by omega) hb d t) ckX0_hold lkX6_218 ⟨Nat.le_of_ble_eq_true rfl, Nat.le_of_ble_eq_true rfl⟩ rfl dX6_banned_25 rfl rfl (Nat.le_of_ble_eq_true rfl) ?_
        refine mj_if_eq (tgt := 35) dX6_banned_28 rfl (fun h_28 => ?_) (fun h_28 => ?_)
        · rw [bi_z] at h_28
          refine mj_iconst dX6_banned_35 ni_0 ?_
          refine mj_ret rfl dX6_banned_36 ?_
          exact mj_q hQ (by rw [if_pos ⟨h_4, by grind, by grind⟩, h_28]; rfl)
        · rw [bi_nz] at h_28
          refine mj_iconst dX6_banned_31 ni_1 ?_
          refine mj_goto (tgt := 36) dX6_banned_32 rfl ?_
          refine mj_ret rfl dX6_banned_36 ?_
          exact mj_q hQ (by rw [if_pos ⟨h_4, by grind, by grind⟩, h_28]; rfl)
      · refine mj_iconst dX6_banned_17 ni_m1 ?_
        refine mj_ret rfl dX6_banned_18 ?_
        exact mj_q hQ (by rw [if_neg (by grind)])
set_option maxHeartbeats 1000000 in
theorem p_days (R : List mj_S) (x : mj_X) (n nb s k : Nat) (hw : CW x n nb s k) (d a b : Int32) : mj_CP mX6_days (shX ++ R) [.ref 0, .int d, .int a, .int b] x (if dr d = true ∧ 0 ≤ a ∧ b ≤ 99999 ∧ a ≤ b then bn_days x nb d b 84 0 a else -1) := by
  obtain ⟨hn, hn40, hb, hb80, hs, hs6, hk, hk6, hk1, hsf, hcd⟩ := hw
  refine mj_startP (ls := [some (.ref 0), some (.int d), some (.int a), some (.int b)]) (by decide) rfl rfl (fun Q hQ => ?_)
  refine mj_ildn dX6_days_0 rfl ?_
  refine mj_csp (K := mX6_isDriver) (c_isDr _ x d) ckX6_isDriver lkX6_140 ⟨Nat.le_of_ble_eq_true rfl, Nat.le_of_ble_eq_true rfl⟩ rfl dX6_days_1 (Nat.le_of_ble_eq_true rfl) ?_
  refine mj_if_eq (tgt := 22) dX6_days_4 rfl (fun h_4 => ?_) (fun h_4 => ?_)
  · rw [bi_z] at h_4
    refine mj_iconst dX6_days_22 ni_m1 ?_
    refine mj_ret rfl dX6_days_23 ?_
    exact mj_q hQ (by rw [if_neg (by grind)])
  · rw [bi_nz] at h_4
    refine mj_ildn dX6_days_7 rfl ?_
    refine mj_if_lt (tgt := 22) dX6_days_8 rfl (fun h_8 => ?_) (fun h_8 => ?_)
    · refine mj_iconst dX6_days_22 ni_m1 ?_
      refine mj_ret rfl dX6_days_23 ?_
      exact mj_q hQ (by rw [if_neg (by grind)])
    · refine mj_ildn dX6_days_11 rfl ?_
      refine mj_ldc kkX6_227 dX6_days_12 ?_
      refine mj_ic_gt (tgt := 22) dX6_days_14 rfl (fun h_14 => ?_) (fun h_14 => ?_)
      · refine mj_iconst dX6_days_22 ni_m1 ?_
        refine mj_ret rfl dX6_days_23 ?_
        exact mj_q hQ (by rw [if_neg (by grind)])
      · refine mj_ildn dX6_days_17 rfl ?_
        refine mj_ildn dX6_days_18 rfl ?_
        refine mj_ic_le (tgt := 24) dX6_days_19 rfl (fun h_19 => ?_) (fun h_19 => ?_)
        · refine mj_aldn dX6_days_24 rfl ?_
          refine mj_getr fkX6_36 dX6_days_25 rfl rfl ?_
          refine mj_ildn dX6_days_28 rfl ?_
          refine mj_ildn dX6_days_29 rfl ?_
          refine mj_ildn dX6_days_30 rfl ?_
          refine mj_cvp (K := mX0_daysBetween) (c_days R x nb (by omega) hb d a b) ckX0_daysBetween lkX6_228 ⟨Nat.le_of_ble_eq_true rfl, Nat.le_of_ble_eq_true rfl⟩ rfl dX6_days_31 rfl rfl (Nat.le_of_ble_eq_true rfl) ?_
          refine mj_ret rfl dX6_days_34 ?_
          exact mj_q hQ (by rw [if_pos ⟨h_4, by grind, by grind, by grind⟩])
        · refine mj_iconst dX6_days_22 ni_m1 ?_
          refine mj_ret rfl dX6_days_23 ?_
          exact mj_q hQ (by rw [if_neg (by grind)])
set_option maxHeartbeats 1000000 in
theorem p_free (R : List mj_S) (x : mj_X) (n nb s k : Nat) (hw : CW x n nb s k) (d : Int32) : mj_CP mX6_free (shX ++ R) [.ref 0, .int d] x (if dr d = true then bn_free x nb d 83 (x 0 7) else -1) := by
  obtain ⟨hn, hn40, hb, hb80, hs, hs6, hk, hk6, hk1, hsf, hcd⟩ := hw
  refine mj_startP (ls := [some (.ref 0), some (.int d)]) (by decide) rfl rfl (fun Q hQ => ?_)
  refine mj_ildn dX6_free_0 rfl ?_
  refine mj_csp (K := mX6_isDriver) (c_isDr _ x d) ckX6_isDriver lkX6_140 ⟨Nat.le_of_ble_eq_true rfl, Nat.le_of_ble_eq_true rfl⟩ rfl dX6_free_1 (Nat.le_of_ble_eq_true rfl) ?_
  refine mj_if_eq (tgt := 22) dX6_free_4 rfl (fun h_4 => ?_) (fun h_4 => ?_)
  · rw [bi_z] at h_4
    refine mj_iconst dX6_free_22 ni_m1 ?_
    refine mj_ret rfl dX6_free_23 ?_
    exact mj_q hQ (by first | rw [if_pos h_4] | rw [if_neg (by grind)])
  · rw [bi_nz] at h_4
    refine mj_aldn dX6_free_7 rfl ?_
    refine mj_getr fkX6_36 dX6_free_8 rfl rfl ?_
    refine mj_ildn dX6_free_11 rfl ?_
    refine mj_aldn dX6_free_12 rfl ?_
    refine mj_geti fkX6_98 dX6_free_13 rfl rfl ?_
    refine mj_cvp (K := mX0_firstFree) (c_free R x nb (by omega) hb d (x 0 7)) ckX0_firstFree lkX6_231 ⟨Nat.le_of_ble_eq_true rfl, Nat.le_of_ble_eq_true rfl⟩ rfl dX6_free_16 rfl rfl (Nat.le_of_ble_eq_true rfl) ?_
    refine mj_goto (tgt := 23) dX6_free_19 rfl ?_
    refine mj_ret rfl dX6_free_23 ?_
    exact mj_q hQ (by first | rw [if_pos h_4] | rw [if_neg (by grind)])
theorem lp_find_or {p : Nat → Bool} : ∀ (k j : Nat), lp_find p k j = none ∨ ∃ i, i < j + k ∧ lp_find p k j = some i
  | 0, _ => Or.inl rfl
  | k + 1, j => by
    rw [lp_find]
    split
    · exact Or.inr ⟨j, by omega, rfl⟩
    · rcases lp_find_or k (j + 1) (p := p) with h | ⟨i, h1, h2⟩
      · exact Or.inl h
      · exact Or.inr ⟨i, by omega, h2⟩
set_option maxHeartbeats 1000000 in
theorem p_ban (R : List mj_S) (x : mj_X) (n nb s k : Nat) (hw : CW x n nb s k) (d i w : Int32) : mj_CP mX6_ban (shX ++ R) [.ref 0, .int d, .int i, .int w] x (if dr d = true ∧ -1 ≤ i ∧ 0 ≤ w ∧ w ≤ 4 then (if i = -1 then lp_f (bn_cntF x d) 0 nb else opI (lp_find (bn_placeP x d i) nb 0) (fun j => bn_tell x j w) (-4)) else -1) := by
  obtain ⟨hn, hn40, hb, hb80, hs, hs6, hk, hk6, hk1, hsf, hcd⟩ := hw
  refine mj_startP (ls := [some (.ref 0), some (.int d), some (.int i), some (.int w), none]) (by decide) rfl rfl (fun Q hQ => ?_)
  refine mj_ildn dX6_ban_0 rfl ?_
  refine mj_csp (K := mX6_isDriver) (c_isDr _ x d) ckX6_isDriver lkX6_140 ⟨Nat.le_of_ble_eq_true rfl, Nat.le_of_ble_eq_true rfl⟩ rfl dX6_ban_1 (Nat.le_of_ble_eq_true rfl) ?_
  refine mj_if_eq (tgt := 21) dX6_ban_4 rfl (fun h_4 => ?_) (fun h_4 => ?_)
  · rw [bi_z] at h_4
    refine mj_iconst dX6_ban_21 ni_m1 ?_
    refine mj_ret rfl dX6_ban_22 ?_
    exact mj_q hQ (by rw [if_neg (by grind)])
  · rw [bi_nz] at h_4
    refine mj_ildn dX6_ban_7 rfl ?_
    refine mj_iconst dX6_ban_8 ni_m1 ?_
    refine mj_ic_lt (tgt := 21) dX6_ban_9 rfl (fun h_9 => ?_) (fun h_9 => ?_)
    · refine mj_iconst dX6_ban_21 ni_m1 ?_
      refine mj_ret rfl dX6_ban_22 ?_
      exact mj_q hQ (by rw [if_neg (by grind)])
    · refine mj_ildn dX6_ban_12 rfl ?_
      refine mj_if_lt (tgt := 21) dX6_ban_13 rfl (fun h_13 => ?_) (fun h_13 => ?_)
      · refine mj_iconst dX6_ban_21 ni_m1 ?_
        refine mj_ret rfl dX6_ban_22 ?_
        exact mj_q hQ (by rw [if_neg (by grind)])
      · refine mj_ildn dX6_ban_16 rfl ?_
        refine mj_iconst dX6_ban_17 ni_4 ?_
        refine mj_ic_le (tgt := 23) dX6_ban_18 rfl (fun h_18 => ?_) (fun h_18 => ?_)
        · refine mj_ildn dX6_ban_23 rfl ?_
          refine mj_iconst dX6_ban_24 ni_m1 ?_
          refine mj_ic_ne (tgt := 37) dX6_ban_25 rfl (fun h_25 => ?_) (fun h_25 => ?_)
          · refine mj_aldn dX6_ban_37 rfl ?_
            refine mj_getr fkX6_36 dX6_ban_38 rfl rfl ?_
            refine mj_ildn dX6_ban_41 rfl ?_
            refine mj_ildn dX6_ban_42 rfl ?_
            refine mj_cvp (K := mX0_placeOf) (c_place R x nb (by omega) hb d i) ckX0_placeOf lkX6_237 ⟨Nat.le_of_ble_eq_true rfl, Nat.le_of_ble_eq_true rfl⟩ rfl dX6_ban_43 rfl rfl (Nat.le_of_ble_eq_true rfl) ?_
            have hlp : lp_find (bn_placeP x d i) nb 0 = none ∨ ∃ j, j < nb ∧ lp_find (bn_placeP x d i) nb 0 = some j := by simpa using lp_find_or (p := bn_placeP x d i) nb 0
            rcases hlp with hl | ⟨j, hj, hl⟩
            · have ep : bn_place x nb d i = -1 := by unfold bn_place; rw [hl]
              rw [ep]
              refine mj_ist4 dX6_ban_46 rfl ?_
              refine mj_ild dX6_ban_48 rfl ?_
              refine mj_if_ge (tgt := 58) dX6_ban_50 rfl (fun h_50 => False.elim (by exact absurd h_50 (by decide))) (fun h_50 => ?_)
              refine mj_bipush dX6_ban_53 nb_m4 ?_
              refine mj_goto (tgt := 68) dX6_ban_55 rfl ?_
              refine mj_ret rfl dX6_ban_68 ?_
              exact mj_q hQ (by rw [if_pos ⟨h_4, by grind, by grind, by grind⟩, if_neg h_25, hl]; rfl)
            · have ep : bn_place x nb d i = nI j := by unfold bn_place; rw [hl]
              rw [ep]
              refine mj_ist4 dX6_ban_46 rfl ?_
              refine mj_ild dX6_ban_48 rfl ?_
              refine mj_if_ge (tgt := 58) dX6_ban_50 rfl (fun h_50 => ?_) (fun h_50 => False.elim (by exact h_50 (nI_pos' (by omega))))
              refine mj_aldn dX6_ban_58 rfl ?_
              refine mj_getr fkX6_36 dX6_ban_59 rfl rfl ?_
              refine mj_ild dX6_ban_62 rfl ?_
              refine mj_ildn dX6_ban_64 rfl ?_
              refine mj_cvp (K := mX0_tellOf) (c_btell R x j (by omega) w) ckX0_tellOf lkX6_240 ⟨Nat.le_of_ble_eq_true rfl, Nat.le_of_ble_eq_true rfl⟩ rfl dX6_ban_65 rfl rfl (Nat.le_of_ble_eq_true rfl) ?_
              refine mj_ret rfl dX6_ban_68 ?_
              exact mj_q hQ (by rw [if_pos ⟨h_4, by grind, by grind, by grind⟩, if_neg h_25, hl]; rfl)
          · refine mj_aldn dX6_ban_28 rfl ?_
            refine mj_getr fkX6_36 dX6_ban_29 rfl rfl ?_
            refine mj_ildn dX6_ban_32 rfl ?_
            refine mj_cvp (K := mX0_givenTo) (c_cnt R x nb (by omega) hb d) ckX0_givenTo lkX6_234 ⟨Nat.le_of_ble_eq_true rfl, Nat.le_of_ble_eq_true rfl⟩ rfl dX6_ban_33 rfl rfl (Nat.le_of_ble_eq_true rfl) ?_
            refine mj_ret rfl dX6_ban_36 ?_
            exact mj_q hQ (by rw [if_pos ⟨h_4, by grind, by grind, by grind⟩, if_pos h_25])
        · refine mj_iconst dX6_ban_21 ni_m1 ?_
          refine mj_ret rfl dX6_ban_22 ?_
          exact mj_q hQ (by rw [if_neg (by grind)])
