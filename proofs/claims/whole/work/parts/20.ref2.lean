def mE (x : mj_X) (e w : Nat) : Int32 := x 39 (8 * e + w)
theorem ix8 (e w : Nat) : 8 * nI e + nI w = nI (8 * e + w) := by rw [← nI_add, ← pk_mul]; rfl
set_option maxHeartbeats 1000000 in
theorem c_of (x : mj_X) (e w : Nat) (hw : 8 * e + w < 335) : mj_CP mX7_of (shX ++ shM) [.ref 37, .int (nI e), .int (nI w)] x (mE x e w) := by
  refine mj_startP (ls := [some (.ref 37), some (.int (nI e)), some (.int (nI w))]) (by decide) rfl rfl (fun Q hQ => ?_)
  refine mj_aldn dX7_of_0 rfl ?_
  refine mj_getr fkX7_13 dX7_of_1 rfl rfl ?_
  refine mj_bipush dX7_of_4 nb_8 ?_
  refine mj_ildn dX7_of_6 rfl ?_
  refine mj_imul dX7_of_7 ?_
  refine mj_ildn dX7_of_8 rfl ?_
  refine mj_iadd dX7_of_9 ?_
  rw [ix8]
  refine mj_iald dX7_of_10 rfl (8 * e + w) hw rfl (by decide) ?_
  refine mj_ret rfl dX7_of_11 ?_
  exact hQ
set_option maxHeartbeats 1000000 in
theorem c_ruleOf (x : mj_X) (i : Nat) (hi : i < 6) : mj_CP mX7_ruleOf (shX ++ shM) [.ref 37, .int (nI i)] x (x 39 (328 + i)) := by
  refine mj_startP (ls := [some (.ref 37), some (.int (nI i))]) (by decide) rfl rfl (fun Q hQ => ?_)
  refine mj_aldn dX7_ruleOf_0 rfl ?_
  refine mj_getr fkX7_13 dX7_ruleOf_1 rfl rfl ?_
  refine mj_sipush dX7_ruleOf_4 ns_328 ?_
  refine mj_ildn dX7_ruleOf_7 rfl ?_
  refine mj_iadd dX7_ruleOf_8 ?_
  rw [show (328 : Int32) + nI i = nI (328 + i) from nI_add 328 i]
  refine mj_iald dX7_ruleOf_9 rfl (328 + i) (by omega) rfl (by decide) ?_
  refine mj_ret rfl dX7_ruleOf_10 ?_
  exact hQ
set_option maxHeartbeats 1000000 in
theorem c_mdr (sh : List mj_S) (x : mj_X) (d : Int32) : mj_CP mX7_isDriver sh [.int d] x (bi (dr d)) := by
  refine mj_startP (ls := [some (.int d)]) (by decide) rfl rfl (fun Q hQ => ?_)
  refine mj_ildn dX7_isDriver_0 rfl ?_
  refine mj_i2l dX7_isDriver_1 ?_
  refine mj_lconst dX7_isDriver_2 nl_0 ?_
  refine mj_ldc2 kkX7_137 dX7_isDriver_3 ?_
  refine mj_csp (K := mX7_in) (c_in _ x d 0 3 0 3 (by decide) (by decide)) ckX7_in lkX7_79 ⟨Nat.le_of_ble_eq_true rfl, Nat.le_of_ble_eq_true rfl⟩ rfl dX7_isDriver_6 (Nat.le_of_ble_eq_true rfl) ?_
  refine mj_retz rfl (bi_or _) dX7_isDriver_9 ?_
  exact mj_q hQ (by unfold inn dr; congr 1; rw [decide_eq_decide]; grind)
set_option maxHeartbeats 1000000 in
theorem c_misc (x : mj_X) (k : Nat) (hk : k ≤ 6) (hs : x 37 6 = nI k) (a : Int32) : mj_CP mX7_isCode (shX ++ shM) [.ref 37, .int a] x (bi (ru_hc k a)) := by
  refine mj_startP (ls := [some (.ref 37), some (.int a)]) (by decide) rfl rfl (fun Q hQ => ?_)
  refine mj_ildn dX7_isCode_0 rfl ?_
  refine mj_i2l dX7_isCode_1 ?_
  refine mj_lconst dX7_isCode_2 nl_0 ?_
  refine mj_aldn dX7_isCode_3 rfl ?_
  refine mj_geti fkX7_124 dX7_isCode_4 rfl rfl ?_
  refine mj_iconst dX7_isCode_7 ni_1 ?_
  refine mj_isub dX7_isCode_8 ?_
  refine mj_i2l dX7_isCode_9 ?_
  refine mj_csp (K := mX7_in) (c_in _ x a 0 (x 37 6 - 1) 0 _ (by decide) rfl) ckX7_in lkX7_79 ⟨Nat.le_of_ble_eq_true rfl, Nat.le_of_ble_eq_true rfl⟩ rfl dX7_isCode_10 (Nat.le_of_ble_eq_true rfl) ?_
  refine mj_retz rfl (bi_or _) dX7_isCode_13 ?_
  exact mj_q hQ (by unfold inn ru_hc; rw [hs]; congr 1; rw [decide_eq_decide]; have := nI_toInt (n := k) (by omega); rw [Int32.le_iff_toInt_le, Int32.le_iff_toInt_le, Int32.lt_iff_toInt_lt, Int32.toInt_sub, this, tl_1, tl_0]; simp only [Int.bmod_def]; omega)
set_option maxHeartbeats 1000000 in
theorem c_mise (x : mj_X) (n : Nat) (hn : n ≤ 41) (hs : x 39 334 = nI n) (a : Int32) : mj_CP mX7_isEvent (shX ++ shM) [.ref 37, .int a] x (bi (ev_is n a)) := by
  refine mj_startP (ls := [some (.ref 37), some (.int a)]) (by decide) rfl rfl (fun Q hQ => ?_)
  refine mj_ildn dX7_isEvent_0 rfl ?_
  refine mj_i2l dX7_isEvent_1 ?_
  refine mj_lconst dX7_isEvent_2 nl_0 ?_
  refine mj_aldn dX7_isEvent_3 rfl ?_
  refine mj_getr fkX7_13 dX7_isEvent_4 rfl rfl ?_
  refine mj_sipush dX7_isEvent_7 ns_334 ?_
  refine mj_iald dX7_isEvent_10 rfl 334 (by decide) rfl (by decide) ?_
  refine mj_iconst dX7_isEvent_11 ni_1 ?_
  refine mj_isub dX7_isEvent_12 ?_
  refine mj_i2l dX7_isEvent_13 ?_
  refine mj_csp (K := mX7_in) (c_in _ x a 0 (x 39 334 - 1) 0 _ (by decide) rfl) ckX7_in lkX7_79 ⟨Nat.le_of_ble_eq_true rfl, Nat.le_of_ble_eq_true rfl⟩ rfl dX7_isEvent_14 (Nat.le_of_ble_eq_true rfl) ?_
  refine mj_retz rfl (bi_or _) dX7_isEvent_17 ?_
  exact mj_q hQ (by unfold inn ev_is; rw [hs]; congr 1; rw [decide_eq_decide]; have := nI_toInt (n := n) (by omega); rw [Int32.le_iff_toInt_le, Int32.le_iff_toInt_le, Int32.lt_iff_toInt_lt, Int32.toInt_sub, this, tl_1, tl_0]; simp only [Int.bmod_def]; omega)
def m_isC (x : mj_X) (n : Nat) (a : Int32) : Bool := decide (0 ≤ a ∧ a < nI n ∧ mE x a.toNatClampNeg 2 = 0)
set_option maxHeartbeats 1000000 in
theorem c_misC (x : mj_X) (n : Nat) (hn : n ≤ 41) (hs : x 39 334 = nI n) (a : Int32) : mj_CP mX7_isConviction (shX ++ shM) [.ref 37, .int a] x (bi (m_isC x n a)) := by
  refine mj_startP (ls := [some (.ref 37), some (.int a)]) (by decide) rfl rfl (fun Q hQ => ?_)
  refine mj_aldn dX7_isConviction_0 rfl ?_
  refine mj_ildn dX7_isConviction_1 rfl ?_
  refine mj_cvp (K := mX7_isEvent) (c_mise x n hn hs a) ckX7_isEvent lkX7_176 ⟨Nat.le_of_ble_eq_true rfl, Nat.le_of_ble_eq_true rfl⟩ rfl dX7_isConviction_2 rfl rfl (Nat.le_of_ble_eq_true rfl) ?_
  refine mj_if_eq (tgt := 21) dX7_isConviction_5 rfl (fun h_5 => ?_) (fun h_5 => ?_)
  · rw [bi_z] at h_5; simp only [ev_is, decide_eq_false_iff_not] at h_5
    refine mj_iconst dX7_isConviction_21 ni_0 ?_
    refine mj_retz rfl (by decide) dX7_isConviction_22 ?_
    exact mj_q hQ (by unfold m_isC bi; simp; grind)
  · rw [bi_nz] at h_5; simp only [ev_is, decide_eq_true_eq] at h_5
    obtain ⟨j, hj, rfl⟩ := ix_of (n := n) (a := a) (by omega) h_5.1 h_5.2
    have ec := nI_clamp (n := j) (by omega)
    refine mj_aldn dX7_isConviction_8 rfl ?_
    refine mj_ildn dX7_isConviction_9 rfl ?_
    refine mj_iconst dX7_isConviction_10 ni_2 ?_
    refine mj_cvp (K := mX7_of) (c_of x j 2 (by omega)) ckX7_of lkX7_164 ⟨Nat.le_of_ble_eq_true rfl, Nat.le_of_ble_eq_true rfl⟩ rfl dX7_isConviction_11 rfl rfl (Nat.le_of_ble_eq_true rfl) ?_
    refine mj_if_ne (tgt := 21) dX7_isConviction_14 rfl (fun h_14 => ?_) (fun h_14 => ?_)
    · refine mj_iconst dX7_isConviction_21 ni_0 ?_
      refine mj_retz rfl (by decide) dX7_isConviction_22 ?_
      exact mj_q hQ (by unfold m_isC bi; simp; grind)
    · refine mj_iconst dX7_isConviction_17 ni_1 ?_
      refine mj_goto (tgt := 22) dX7_isConviction_18 rfl ?_
      refine mj_retz rfl (by decide) dX7_isConviction_22 ?_
      exact mj_q hQ (by unfold m_isC bi; simp; grind)
def mn_u (u : Nat) : Nat := if u < 6 then u else 5
def mn_s (u : Nat) : Nat := if u < 6 then 0 else 1
def mno (x y : mj_X) (u : Nat) : Prop := y 37 4 = nI (mn_u u + 1) ∧ (∀ j i, j < mn_u u → i < 335 → y 40 (335 * j + i) = x 40 (335 * (j + mn_s u) + i)) ∧ (∀ i, i < 335 → y 40 (335 * mn_u u + i) = x 39 i) ∧ y 37 15 = 0 ∧ (∀ i, i ≠ 4 → i ≠ 15 → y 37 i = x 37 i) ∧ ∀ k, k ≠ 37 → k ≠ 40 → y k = x k
set_option maxHeartbeats 1000000 in
theorem c_mnote (x : mj_X) (u : Nat) (hu : u ≤ 6) (hs : x 37 4 = nI u) : mj_CV mX7_note (shX ++ shM) [.ref 37] x (fun y => mno x y u) := by
  refine mj_startV (ls := [some (.ref 37), none]) (by decide) rfl rfl (fun Q hQ => ?_)
  have tail : ∀ (z : mj_X) (w1 : Option Value), z 37 4 = nI (mn_u u) → (∀ j i, j < mn_u u → i < 335 → z 40 (335 * j + i) = x 40 (335 * (j + mn_s u) + i)) → (∀ i, i ≠ 4 → z 37 i = x 37 i) → (∀ k, k ≠ 37 → k ≠ 40 → z k = x k) → mj_V mX7_note (shX ++ shM) Q z 50 [some (.ref 37), w1] [] := by
    intro z w1 hz1 hz2 hz3 hz4
    have hu5 : mn_u u ≤ 5 := by unfold mn_u; split <;> omega
    have loop : ∀ (k j : Nat) (y : mj_X), j ≤ 335 → 335 < j + k → (∀ i, i < j → y 40 (335 * mn_u u + i) = x 39 i) → (∀ i, i < 335 * mn_u u → y 40 i = z 40 i) → (∀ k, k ≠ 40 → y k = z k) → mj_V mX7_note (shX ++ shM) Q y 52 [some (.ref 37), some (.int (nI j))] [] := by
      intro k
      induction k with
      | zero => intro j y h1 h2; omega
      | succ k ih =>
        intro j y h1 h2 g1 g2 g3
        have e4 : y 37 4 = nI (mn_u u) := by rw [g3 37 (by decide)]; exact hz1
        have eix : 335 * y 37 4 + nI j = nI (335 * mn_u u + j) := by rw [e4, ← nI_add, ← pk_mul]; rfl
        have e39 : y 39 j = x 39 j := by rw [g3 39 (by decide), hz4 39 (by decide) (by decide)]
        refine mj_ildn dX7_note_52 rfl ?_
        refine mj_sipush dX7_note_53 ns_335 ?_
        refine mj_ic_ge (tgt := 86) dX7_note_56 rfl (fun h_56 => ?_) (fun h_56 => ?_)
        · have hj : j = 335 := by have := (nI_leI (a := 335) (b := j) (by decide) (by omega)).mp h_56; omega
          subst hj
          have e5 : y 37 4 + 1 = nI (mn_u u + 1) := by rw [e4, nI_1]
          refine mj_aldn dX7_note_86 rfl ?_
          refine mj_dupr dX7_note_87 ?_
          refine mj_geti fkX7_127 dX7_note_88 rfl rfl ?_
          refine mj_iconst dX7_note_91 ni_1 ?_
          refine mj_iadd dX7_note_92 ?_
          rw [e5]
          refine mj_puti fkX7_127 pkX7_4 dX7_note_93 rfl rfl ?_
          refine mj_aldn dX7_note_96 rfl ?_
          refine mj_iconst dX7_note_97 ni_0 ?_
          refine mj_putz fkX7_133 pkX7_15 (by decide) dX7_note_98 rfl rfl ?_
          refine mj_retv rfl dX7_note_101 ?_
          refine hQ _ ⟨by rw [up_eq, upd_ne (by decide), up_eq, upd_eq], fun j i hj hi => ?_, fun i hi => g1 i hi, by rw [up_eq, upd_eq], fun i a b => ?_, fun k a b => ?_⟩
          · have : 335 * j + i < 335 * mn_u u := by omega
            show y 40 (335 * j + i) = _
            rw [g2 _ this]; exact hz2 j i hj hi
          · rw [up_eq, upd_ne b, up_eq, upd_ne a, g3 37 (by decide)]; exact hz3 i a
          · rw [up_ne a, up_ne a, g3 k b]; exact hz4 k a b
        · have hj : j < 335 := by have := mt (nI_leI (a := 335) (b := j) (by decide) (by omega)).mpr h_56; omega
          refine mj_aldn dX7_note_59 rfl ?_
          refine mj_getr fkX7_16 dX7_note_60 rfl rfl ?_
          refine mj_sipush dX7_note_63 ns_335 ?_
          refine mj_aldn dX7_note_66 rfl ?_
          refine mj_geti fkX7_127 dX7_note_67 rfl rfl ?_
          refine mj_imul dX7_note_70 ?_
          refine mj_ildn dX7_note_71 rfl ?_
          refine mj_iadd dX7_note_72 ?_
          refine mj_aldn dX7_note_73 rfl ?_
          refine mj_getr fkX7_13 dX7_note_74 rfl rfl ?_
          refine mj_ildn dX7_note_77 rfl ?_
          refine mj_iald dX7_note_78 rfl j hj rfl (by decide) ?_
          refine mj_iast dX7_note_79 rfl (335 * mn_u u + j) (by omega) eix (by decide) ?_
          refine mj_inc1 dX7_note_80 ni_1 rfl ?_
          refine mj_goto (tgt := 52) dX7_note_83 rfl ?_
          refine mj_ls (ih (j + 1) _ (by omega) (by omega) (lt_s (fun i h => ?_) ?_) (fun i h => ?_) (fun k a => ?_)) (by rw [nI_1])
          · rw [up_eq, upd_ne (by omega)]; exact g1 i h
          · rw [up_eq, upd_eq]; exact e39
          · rw [up_eq, upd_ne (by omega)]; exact g2 i h
          · rw [up_ne a]; exact g3 k a
    refine mj_iconst dX7_note_50 ni_0 ?_
    refine mj_istn1 dX7_note_51 rfl ?_
    exact loop 336 0 z (by omega) (by omega) (fun i h => by omega) (fun i h => rfl) (fun k h => rfl)
  refine mj_aldn dX7_note_0 rfl ?_
  refine mj_geti fkX7_127 dX7_note_1 rfl rfl ?_
  refine mj_bipush dX7_note_4 nb_6 ?_
  refine mj_ic_ne (tgt := 50) dX7_note_6 rfl (fun h_6 => ?_) (fun h_6 => ?_)
  · have h6 : u < 6 := by
      rw [hs] at h_6
      by_cases h : u = 6
      · subst h; exact absurd rfl h_6
      · omega
    have eu : mn_u u = u := by unfold mn_u; rw [if_pos h6]
    have es : mn_s u = 0 := by unfold mn_s; rw [if_pos h6]
    exact tail x _ (by rw [eu]; exact hs) (fun j i a b => by rw [es]; rfl) (fun i a => rfl) (fun k a b => rfl)
  · have h6 : u = 6 := by rw [hs] at h_6; exact (nI_eq (a := u) (b := 6) (by omega) (by decide)).mp h_6
    subst h6
    have eu : mn_u 6 = 5 := rfl
    have es : mn_s 6 = 1 := rfl
    refine mj_iconst dX7_note_9 ni_0 ?_
    refine mj_istn1 dX7_note_10 rfl ?_
    have loop1 : ∀ (k j : Nat) (y : mj_X), j ≤ 1675 → 1675 < j + k → (∀ i, i < j → y 40 i = x 40 (335 + i)) → (∀ i, j ≤ i → y 40 i = x 40 i) → (∀ k, k ≠ 40 → y k = x k) → mj_V mX7_note (shX ++ shM) Q y 11 [some (.ref 37), some (.int (nI j))] [] := by
      intro k
      induction k with
      | zero => intro j y h1 h2; omega
      | succ k ih =>
        intro j y h1 h2 g1 g2 g3
        have eix : (335 : Int32) + nI j = nI (335 + j) := nI_add 335 j
        refine mj_ildn dX7_note_11 rfl ?_
        refine mj_sipush dX7_note_12 ns_1675 ?_
        refine mj_ic_ge (tgt := 40) dX7_note_15 rfl (fun h_15 => ?_) (fun h_15 => ?_)
        · have hj : j = 1675 := by have := (nI_leI (a := 1675) (b := j) (by decide) (by omega)).mp h_15; omega
          subst hj
          have e5 : y 37 4 - 1 = nI 5 := by rw [g3 37 (by decide), hs]; rfl
          refine mj_aldn dX7_note_40 rfl ?_
          refine mj_dupr dX7_note_41 ?_
          refine mj_geti fkX7_127 dX7_note_42 rfl rfl ?_
          refine mj_iconst dX7_note_45 ni_1 ?_
          refine mj_isub dX7_note_46 ?_
          rw [e5]
          refine mj_puti fkX7_127 pkX7_4 dX7_note_47 rfl rfl ?_
          refine tail _ _ (by rw [up_eq, upd_eq]; rfl) (fun j i a b => ?_) (fun i a => ?_) (fun k a b => ?_)
          · show y 40 (335 * j + i) = _
            rw [g1 _ (by omega), es]
            congr 1
            omega
          · rw [up_eq, upd_ne a, g3 37 (by decide)]
          · rw [up_ne a]; exact g3 k b
        · have hj : j < 1675 := by have := mt (nI_leI (a := 1675) (b := j) (by decide) (by omega)).mpr h_15; omega
          refine mj_aldn dX7_note_18 rfl ?_
          refine mj_getr fkX7_16 dX7_note_19 rfl rfl ?_
          refine mj_ildn dX7_note_22 rfl ?_
          refine mj_aldn dX7_note_23 rfl ?_
          refine mj_getr fkX7_16 dX7_note_24 rfl rfl ?_
          refine mj_sipush dX7_note_27 ns_335 ?_
          refine mj_ildn dX7_note_30 rfl ?_
          refine mj_iadd dX7_note_31 ?_
          refine mj_iald dX7_note_32 rfl (335 + j) (by omega) eix (by decide) ?_
          refine mj_iast dX7_note_33 rfl j (by omega) rfl (by decide) ?_
          refine mj_inc1 dX7_note_34 ni_1 rfl ?_
          refine mj_goto (tgt := 11) dX7_note_37 rfl ?_
          refine mj_ls (ih (j + 1) _ (by omega) (by omega) (lt_s (fun i h => ?_) ?_) (fun i h => ?_) (fun k a => ?_)) (by rw [nI_1])
          · rw [up_eq, upd_ne (by omega)]; exact g1 i h
          · rw [up_eq, upd_eq]; exact g2 _ (by omega)
          · rw [up_eq, upd_ne (by omega)]; exact g2 i (by omega)
          · rw [up_ne a]; exact g3 k a
    exact loop1 1676 0 x (by omega) (by omega) (fun i h => by omega) (fun i h => rfl) (fun k h => rfl)
def mcm (x : mj_X) (n : Nat) (d w o c r p : Int32) : mj_X := mj_up (mj_up (mj_up (mj_up (mj_up (mj_up (mj_up (mj_up (mj_up (mj_up x 39 (8 * n + 0) d) 39 (8 * n + 1) (x 37 5)) 39 (8 * n + 2) w) 39 (8 * n + 3) o) 39 (8 * n + 4) c) 39 (8 * n + 5) p) 39 (8 * n + 6) r) 39 (8 * n + 7) 0) 39 334 (nI (n + 1))) 37 15 0
set_option maxHeartbeats 1000000 in
theorem c_mcomes (x : mj_X) (n : Nat) (hn : n ≤ 40) (hs : x 39 334 = nI n) (d w o : Int32) (j : Nat) (hj : j < 6) (r : Int32) : mj_CV mX7_comes (shX ++ shM) [.ref 37, .int d, .int w, .int o, .int (nI j), .int r] x (fun y => y = mcm x n d w o (nI j) r (if w = 0 then x 41 j else 0)) := by
  refine mj_startV (ls := [some (.ref 37), some (.int d), some (.int w), some (.int o), some (.int (nI j)), some (.int r), none]) (by decide) rfl rfl (fun Q hQ => ?_)
  have e8 : (8 : Int32) * x 39 334 = nI (8 * n) := by rw [hs, ← pk_mul]; rfl
  have ei : ∀ i : Nat, nI (8 * n) + nI i = nI (8 * n + i) := fun i => nI_add _ _
  refine mj_bipush dX7_comes_0 nb_8 ?_
  refine mj_aldn dX7_comes_2 rfl ?_
  refine mj_getr fkX7_13 dX7_comes_3 rfl rfl ?_
  refine mj_sipush dX7_comes_6 ns_334 ?_
  refine mj_iald dX7_comes_9 rfl 334 (by decide) rfl (by decide) ?_
  refine mj_imul dX7_comes_10 ?_
  rw [e8]
  refine mj_ist6 dX7_comes_11 rfl ?_
  refine mj_aldn dX7_comes_13 rfl ?_
  refine mj_getr fkX7_13 dX7_comes_14 rfl rfl ?_
  refine mj_ild dX7_comes_17 rfl ?_
  refine mj_iconst dX7_comes_19 ni_0 ?_
  refine mj_iadd dX7_comes_20 ?_
  refine mj_ildn dX7_comes_21 rfl ?_
  refine mj_iast dX7_comes_22 rfl (8 * n + 0) (by omega) (ei 0) (by decide) ?_
  refine mj_aldn dX7_comes_23 rfl ?_
  refine mj_getr fkX7_13 dX7_comes_24 rfl rfl ?_
  refine mj_ild dX7_comes_27 rfl ?_
  refine mj_iconst dX7_comes_29 ni_1 ?_
  refine mj_iadd dX7_comes_30 ?_
  refine mj_aldn dX7_comes_31 rfl ?_
  refine mj_geti fkX7_130 dX7_comes_32 rfl rfl ?_
  refine mj_iast dX7_comes_35 rfl (8 * n + 1) (by omega) (ei 1) (by decide) ?_
  refine mj_aldn dX7_comes_36 rfl ?_
  refine mj_getr fkX7_13 dX7_comes_37 rfl rfl ?_
  refine mj_ild dX7_comes_40 rfl ?_
  refine mj_iconst dX7_comes_42 ni_2 ?_
  refine mj_iadd dX7_comes_43 ?_
  refine mj_ildn dX7_comes_44 rfl ?_
  refine mj_iast dX7_comes_45 rfl (8 * n + 2) (by omega) (ei 2) (by decide) ?_
  refine mj_aldn dX7_comes_46 rfl ?_
  refine mj_getr fkX7_13 dX7_comes_47 rfl rfl ?_
  refine mj_ild dX7_comes_50 rfl ?_
  refine mj_iconst dX7_comes_52 ni_3 ?_
  refine mj_iadd dX7_comes_53 ?_
  refine mj_ildn dX7_comes_54 rfl ?_
  refine mj_iast dX7_comes_55 rfl (8 * n + 3) (by omega) (ei 3) (by decide) ?_
  refine mj_aldn dX7_comes_56 rfl ?_
  refine mj_getr fkX7_13 dX7_comes_57 rfl rfl ?_
  refine mj_ild dX7_comes_60 rfl ?_
  refine mj_iconst dX7_comes_62 ni_4 ?_
  refine mj_iadd dX7_comes_63 ?_
  refine mj_ild dX7_comes_64 rfl ?_
  refine mj_iast dX7_comes_66 rfl (8 * n + 4) (by omega) (ei 4) (by decide) ?_
  refine mj_aldn dX7_comes_67 rfl ?_
  refine mj_getr fkX7_13 dX7_comes_68 rfl rfl ?_
  refine mj_ild dX7_comes_71 rfl ?_
  refine mj_iconst dX7_comes_73 ni_5 ?_
  refine mj_iadd dX7_comes_74 ?_
  refine mj_ildn dX7_comes_75 rfl ?_
  refine mj_if_ne (tgt := 89) dX7_comes_76 rfl (fun h_76 => ?_) (fun h_76 => ?_)
  · refine mj_iconst dX7_comes_89 ni_0 ?_
    refine mj_iast dX7_comes_90 rfl (8 * n + 5) (by omega) (ei 5) (by decide) ?_
    refine mj_aldn dX7_comes_91 rfl ?_
    refine mj_getr fkX7_13 dX7_comes_92 rfl rfl ?_
    refine mj_ild dX7_comes_95 rfl ?_
    refine mj_bipush dX7_comes_97 nb_6 ?_
    refine mj_iadd dX7_comes_99 ?_
    refine mj_ild dX7_comes_100 rfl ?_
    refine mj_iast dX7_comes_102 rfl (8 * n + 6) (by omega) (ei 6) (by decide) ?_
    refine mj_aldn dX7_comes_103 rfl ?_
    refine mj_getr fkX7_13 dX7_comes_104 rfl rfl ?_
    refine mj_ild dX7_comes_107 rfl ?_
    refine mj_bipush dX7_comes_109 nb_7 ?_
    refine mj_iadd dX7_comes_111 ?_
    refine mj_iconst dX7_comes_112 ni_0 ?_
    refine mj_iast dX7_comes_113 rfl (8 * n + 7) (by omega) (ei 7) (by decide) ?_
    refine mj_aldn dX7_comes_114 rfl ?_
    refine mj_getr fkX7_13 dX7_comes_115 rfl rfl ?_
    refine mj_sipush dX7_comes_118 ns_334 ?_
    refine mj_dup2 dX7_comes_121 ?_
    refine mj_iald dX7_comes_122 rfl 334 (by decide) rfl (by decide) ?_
    refine mj_iconst dX7_comes_123 ni_1 ?_
    refine mj_iadd dX7_comes_124 ?_
    refine mj_iast dX7_comes_125 rfl 334 (by decide) rfl (by decide) ?_
    refine mj_aldn dX7_comes_126 rfl ?_
    refine mj_iconst dX7_comes_127 ni_0 ?_
    refine mj_putz fkX7_133 pkX7_15 (by decide) dX7_comes_128 rfl rfl ?_
    refine mj_retv rfl dX7_comes_131 ?_
    refine hQ _ ?_
    unfold mcm
    have h334 : ∀ v0 v1 v2 v3 v4 v5 v6 v7 : Int32, mj_up (mj_up (mj_up (mj_up (mj_up (mj_up (mj_up (mj_up x 39 (8 * n + 0) v0) 39 (8 * n + 1) v1) 39 (8 * n + 2) v2) 39 (8 * n + 3) v3) 39 (8 * n + 4) v4) 39 (8 * n + 5) v5) 39 (8 * n + 6) v6) 39 (8 * n + 7) v7 39 334 = nI n := by
      intro v0 v1 v2 v3 v4 v5 v6 v7
      rw [up_eq, upd_ne (by omega), up_eq, upd_ne (by omega), up_eq, upd_ne (by omega), up_eq, upd_ne (by omega), up_eq, upd_ne (by omega), up_eq, upd_ne (by omega), up_eq, upd_ne (by omega), up_eq, upd_ne (by omega)]
      exact hs
    rw [h334, nI_1]
    first | rw [if_pos h_76]; rfl | rw [if_neg h_76]; rfl
  · refine mj_aldn dX7_comes_79 rfl ?_
    refine mj_getr fkX7_19 dX7_comes_80 rfl rfl ?_
    refine mj_ild dX7_comes_83 rfl ?_
    refine mj_iald dX7_comes_85 rfl j hj rfl (by decide) ?_
    refine mj_goto (tgt := 90) dX7_comes_86 rfl ?_
    refine mj_iast dX7_comes_90 rfl (8 * n + 5) (by omega) (ei 5) (by decide) ?_
    refine mj_aldn dX7_comes_91 rfl ?_
    refine mj_getr fkX7_13 dX7_comes_92 rfl rfl ?_
    refine mj_ild dX7_comes_95 rfl ?_
    refine mj_bipush dX7_comes_97 nb_6 ?_
    refine mj_iadd dX7_comes_99 ?_
    refine mj_ild dX7_comes_100 rfl ?_
    refine mj_iast dX7_comes_102 rfl (8 * n + 6) (by omega) (ei 6) (by decide) ?_
    refine mj_aldn dX7_comes_103 rfl ?_
    refine mj_getr fkX7_13 dX7_comes_104 rfl rfl ?_
    refine mj_ild dX7_comes_107 rfl ?_
    refine mj_bipush dX7_comes_109 nb_7 ?_
    refine mj_iadd dX7_comes_111 ?_
    refine mj_iconst dX7_comes_112 ni_0 ?_
    refine mj_iast dX7_comes_113 rfl (8 * n + 7) (by omega) (ei 7) (by decide) ?_
    refine mj_aldn dX7_comes_114 rfl ?_
    refine mj_getr fkX7_13 dX7_comes_115 rfl rfl ?_
    refine mj_sipush dX7_comes_118 ns_334 ?_
    refine mj_dup2 dX7_comes_121 ?_
    refine mj_iald dX7_comes_122 rfl 334 (by decide) rfl (by decide) ?_
    refine mj_iconst dX7_comes_123 ni_1 ?_
    refine mj_iadd dX7_comes_124 ?_
    refine mj_iast dX7_comes_125 rfl 334 (by decide) rfl (by decide) ?_
    refine mj_aldn dX7_comes_126 rfl ?_
    refine mj_iconst dX7_comes_127 ni_0 ?_
    refine mj_putz fkX7_133 pkX7_15 (by decide) dX7_comes_128 rfl rfl ?_
    refine mj_retv rfl dX7_comes_131 ?_
    refine hQ _ ?_
    unfold mcm
    have h334 : ∀ v0 v1 v2 v3 v4 v5 v6 v7 : Int32, mj_up (mj_up (mj_up (mj_up (mj_up (mj_up (mj_up (mj_up x 39 (8 * n + 0) v0) 39 (8 * n + 1) v1) 39 (8 * n + 2) v2) 39 (8 * n + 3) v3) 39 (8 * n + 4) v4) 39 (8 * n + 5) v5) 39 (8 * n + 6) v6) 39 (8 * n + 7) v7 39 334 = nI n := by
      intro v0 v1 v2 v3 v4 v5 v6 v7
      rw [up_eq, upd_ne (by omega), up_eq, upd_ne (by omega), up_eq, upd_ne (by omega), up_eq, upd_ne (by omega), up_eq, upd_ne (by omega), up_eq, upd_ne (by omega), up_eq, upd_ne (by omega), up_eq, upd_ne (by omega)]
      exact hs
    rw [h334, nI_1]
    first | rw [if_pos h_76]; rfl | rw [if_neg h_76]; rfl
