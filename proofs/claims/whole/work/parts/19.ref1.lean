/-! THE REFERENCE: cell 37 (length 0, undoMany 4, today 5, codes 6, readCodes 10, why 13, spot 14, isKnown 15, bans 19), rows 38 text, 39 now, 40 before, 41 codePoints, 42 codeBan, 43 readRules, 44 readPoints, 45 readBan, 46 twice, 47 spent, 48 idle, 49 banOf, 50 first, 51 size, 52 by, 53 great, 54 cut -/
theorem wide_le (a b : Int32) : a.toInt64 ≤ b.toInt64 ↔ a ≤ b := by rw [Int64.le_iff_toInt_le, Int32.le_iff_toInt_le, Int32.toInt_toInt64, Int32.toInt_toInt64]
def inn (a b c : Int32) : Bool := decide (b ≤ a ∧ a ≤ c)
theorem lg_lt {a b : Int64} : lg_cmp a b < 0 ↔ ¬ b ≤ a := by
  unfold lg_cmp
  split
  · next h => constructor
              · intro q; exact absurd q (by decide)
              · intro q; exact absurd (Int64.le_of_lt h) q
  · split
    · next h => subst h; constructor
                · intro q; exact absurd q (by decide)
                · intro q; exact absurd (Int64.le_refl a) q
    · next h1 h2 => constructor
                    · intro _ q
                      rcases Int64.lt_or_eq_of_le q with h | h
                      · exact h1 h
                      · exact h2 h.symm
                    · intro _; decide
theorem lg_gt {a b : Int64} : 0 < lg_cmp a b ↔ ¬ a ≤ b := by
  unfold lg_cmp
  split
  · next h => constructor
              · intro _; exact Int64.not_le.mpr h
              · intro _; decide
  · next h1 => constructor
               · intro q; split at q <;> exact absurd q (by decide)
               · intro q; exact absurd (Int64.not_lt.mp h1) q
set_option maxHeartbeats 1000000 in
theorem c_in (sh : List mj_S) (x : mj_X) (a b c : Int32) (B C : Int64) (hB : b.toInt64 = B) (hC : c.toInt64 = C) : mj_CP mX7_in sh [.long a.toInt64, .long B, .long C] x (bi (inn a b c)) := by
  subst hB; subst hC
  refine mj_startP (ls := [some (.long a.toInt64), none, some (.long b.toInt64), none, some (.long c.toInt64), none]) (by decide) rfl rfl (fun Q hQ => ?_)
  refine mj_lldn dX7_in_0 rfl ?_
  refine mj_lldn dX7_in_1 rfl ?_
  refine mj_lcmp dX7_in_2 ?_
  refine mj_if_lt (tgt := 17) dX7_in_3 rfl (fun h_3 => ?_) (fun h_3 => ?_)
  · rw [lg_lt, wide_le] at h_3
    refine mj_iconst dX7_in_17 ni_0 ?_
    refine mj_retz rfl (by decide) dX7_in_18 ?_
    exact mj_q hQ (by unfold inn bi; simp; grind)
  · rw [lg_lt, wide_le] at h_3
    refine mj_lldn dX7_in_6 rfl ?_
    refine mj_lld dX7_in_7 rfl ?_
    refine mj_lcmp dX7_in_9 ?_
    refine mj_if_gt (tgt := 17) dX7_in_10 rfl (fun h_10 => ?_) (fun h_10 => ?_)
    · rw [lg_gt, wide_le] at h_10
      refine mj_iconst dX7_in_17 ni_0 ?_
      refine mj_retz rfl (by decide) dX7_in_18 ?_
      exact mj_q hQ (by unfold inn bi; simp; grind)
    · rw [lg_gt, wide_le] at h_10
      refine mj_iconst dX7_in_13 ni_1 ?_
      refine mj_goto (tgt := 18) dX7_in_14 rfl ?_
      refine mj_retz rfl (by decide) dX7_in_18 ?_
      exact mj_q hQ (by unfold inn bi; simp; grind)
set_option maxHeartbeats 1000000 in
theorem c_letter (x : mj_X) (len : Nat) (hlen : len ≤ 200) (hl : x 37 0 = nI len) (y : mj_X) (hy1 : y 37 0 = x 37 0) (hy2 : y 38 = x 38) (a : Nat) (ha : a ≤ 1000) : mj_CP mX7_letterAt (shX ++ shM) [.ref 37, .int (nI a)] y (tx_pk (x 38) len a) := by
  refine mj_startP (ls := [some (.ref 37), some (.int (nI a))]) (by decide) rfl rfl (fun Q hQ => ?_)
  refine mj_ildn dX7_letterAt_0 rfl ?_
  refine mj_aldn dX7_letterAt_1 rfl ?_
  refine mj_geti fkX7_83 dX7_letterAt_2 rfl rfl ?_
  refine mj_ic_ge (tgt := 17) dX7_letterAt_5 rfl (fun h_5 => ?_) (fun h_5 => ?_)
  · rw [hy1, hl, nI_leI (by omega) (by omega)] at h_5
    refine mj_iconst dX7_letterAt_17 ni_0 ?_
    refine mj_ret rfl dX7_letterAt_18 ?_
    exact mj_q hQ (by unfold tx_pk; rw [← hy2]; first | rw [if_pos (by omega)] | rw [if_neg (by omega)])
  · rw [hy1, hl, nI_leI (by omega) (by omega)] at h_5
    refine mj_aldn dX7_letterAt_8 rfl ?_
    refine mj_getr fkX7_7 dX7_letterAt_9 rfl rfl ?_
    refine mj_ildn dX7_letterAt_12 rfl ?_
    refine mj_iald dX7_letterAt_13 rfl a (by omega) rfl (by decide) ?_
    refine mj_goto (tgt := 18) dX7_letterAt_14 rfl ?_
    refine mj_ret rfl dX7_letterAt_18 ?_
    exact mj_q hQ (by unfold tx_pk; rw [← hy2]; first | rw [if_pos (by omega)] | rw [if_neg (by omega)])
def mt_nQ (y : mj_X) (a f : Nat) (low : Int32) (r : Option Int32) (z : Int32) (w : mj_X) : Prop := match r with
  | some v => z = (if v < low then -2 else v) ∧ w = mj_up y 37 14 (nI (a + f))
  | none => z = -1 ∧ ∃ b : Nat, w = mj_up y 37 14 (nI b)
set_option maxHeartbeats 1000000 in
theorem c_mnum (x : mj_X) (len : Nat) (hlen : len ≤ 200) (hl : x 37 0 = nI len) (y : mj_X) (hy1 : y 37 0 = x 37 0) (hy2 : y 38 = x 38) (a : Nat) (ha : a ≤ 900) (hat : y 37 14 = nI a) (f : Nat) (hf : f ≤ 3) (low : Int32) : mj_CI mX7_number (shX ++ shM) [.ref 37, .int (nI f), .int low] y (fun z w => mt_nQ y a f low (tx_num (tx_pk (x 38) len) f a 0) z w) := by
  refine mj_startI (ls := [some (.ref 37), some (.int (nI f)), some (.int low), none, none]) (by decide) rfl rfl (fun Q hQ => ?_)
  have loop : ∀ (k j : Nat) (v : Int32), j + k = f → tx_num (tx_pk (x 38) len) k (a + j) v = tx_num (tx_pk (x 38) len) f a 0 → mj_V mX7_number (shX ++ shM) Q (mj_up y 37 14 (nI (a + j))) 5 [some (.ref 37), some (.int (nI f)), some (.int low), some (.int v), some (.int (nI j))] [] := by
    intro k
    induction k with
    | zero =>
      intro j v hj hv
      have hj : j = f := by omega
      subst hj
      refine mj_ild dX7_number_5 rfl ?_
      refine mj_ildn dX7_number_7 rfl ?_
      refine mj_ic_ge (tgt := 67) dX7_number_8 rfl (fun h_8 => ?_) (fun h_8 => False.elim (by exact h_8 (nI_le (Nat.le_refl j) (by omega))))
      refine mj_ildn dX7_number_67 rfl ?_
      refine mj_ildn dX7_number_68 rfl ?_
      refine mj_ic_ge (tgt := 77) dX7_number_69 rfl (fun h_69 => ?_) (fun h_69 => ?_)
      · refine mj_ildn dX7_number_77 rfl ?_
        refine mj_ret rfl dX7_number_78 ?_
        exact hQ _ _ (by rw [← hv]; exact ⟨by first | rw [if_pos (by grind)] | rw [if_neg (by grind)], rfl⟩)
      · refine mj_bipush dX7_number_72 nb_m2 ?_
        refine mj_goto (tgt := 78) dX7_number_74 rfl ?_
        refine mj_ret rfl dX7_number_78 ?_
        exact hQ _ _ (by rw [← hv]; exact ⟨by first | rw [if_pos (by grind)] | rw [if_neg (by grind)], rfl⟩)
    | succ k ih =>
      intro j v hj hv
      have hpk := c_letter x len hlen hl (mj_up y 37 14 (nI (a + j))) (by rw [← hy1]; rfl) (by rw [← hy2]; rfl) (a + j) (by omega)
      have es : mj_up y 37 14 (nI (a + j)) 37 14 = nI (a + j) := by rw [up_eq, upd_eq]
      refine mj_ild dX7_number_5 rfl ?_
      refine mj_ildn dX7_number_7 rfl ?_
      refine mj_ic_ge (tgt := 67) dX7_number_8 rfl (fun h_8 => False.elim (by exact nl_lt (show j < f by omega) (by omega) h_8)) (fun h_8 => ?_)
      refine mj_aldn dX7_number_11 rfl ?_
      refine mj_aldn dX7_number_12 rfl ?_
      refine mj_geti fkX7_86 dX7_number_13 rfl rfl ?_
      rw [es]
      refine mj_cvp (K := mX7_letterAt) (hpk) ckX7_letterAt lkX7_89 ⟨Nat.le_of_ble_eq_true rfl, Nat.le_of_ble_eq_true rfl⟩ rfl dX7_number_16 rfl rfl (Nat.le_of_ble_eq_true rfl) ?_
      refine mj_i2l dX7_number_19 ?_
      refine mj_ldc2 kkX7_93 dX7_number_20 ?_
      refine mj_ldc2 kkX7_95 dX7_number_23 ?_
      refine mj_csp (K := mX7_in) (c_in _ _ ((tx_pk (x 38) len) (a + j)) 48 57 48 57 (by decide) (by decide)) ckX7_in lkX7_79 ⟨Nat.le_of_ble_eq_true rfl, Nat.le_of_ble_eq_true rfl⟩ rfl dX7_number_26 (Nat.le_of_ble_eq_true rfl) ?_
      refine mj_if_ne (tgt := 34) dX7_number_29 rfl (fun h_29 => ?_) (fun h_29 => ?_)
      · rw [bi_nz] at h_29; simp only [inn, decide_eq_true_eq] at h_29
        refine mj_bipush dX7_number_34 nb_10 ?_
        refine mj_ildn dX7_number_36 rfl ?_
        refine mj_imul dX7_number_37 ?_
        refine mj_aldn dX7_number_38 rfl ?_
        refine mj_aldn dX7_number_39 rfl ?_
        refine mj_geti fkX7_86 dX7_number_40 rfl rfl ?_
        rw [es]
        refine mj_cvp (K := mX7_letterAt) (hpk) ckX7_letterAt lkX7_89 ⟨Nat.le_of_ble_eq_true rfl, Nat.le_of_ble_eq_true rfl⟩ rfl dX7_number_43 rfl rfl (Nat.le_of_ble_eq_true rfl) ?_
        refine mj_iadd dX7_number_46 ?_
        refine mj_bipush dX7_number_47 nb_48 ?_
        refine mj_isub dX7_number_49 ?_
        refine mj_istn3 dX7_number_50 rfl ?_
        refine mj_aldn dX7_number_51 rfl ?_
        refine mj_dupr dX7_number_52 ?_
        refine mj_geti fkX7_86 dX7_number_53 rfl rfl ?_
        refine mj_iconst dX7_number_56 ni_1 ?_
        refine mj_iadd dX7_number_57 ?_
        refine mj_puti fkX7_86 pkX7_14 dX7_number_58 rfl rfl ?_
        refine mj_inc4 dX7_number_61 ni_1 rfl ?_
        refine mj_goto (tgt := 5) dX7_number_64 rfl ?_
        have e1 : tx_num (tx_pk (x 38) len) k (a + (j + 1)) (10 * v + (tx_pk (x 38) len) (a + j) - 48) = tx_num (tx_pk (x 38) len) f a 0 := by rw [← hv, tx_num, if_pos h_29, Int32.mul_comm]; rfl
        refine mj_xl (ih (j + 1) _ (by omega) e1) ?_ ?_
        · rw [up_up, es, nI_1]
          rfl
        · rw [nI_1]
      · rw [bi_z] at h_29; simp only [inn, decide_eq_false_iff_not] at h_29
        refine mj_iconst dX7_number_32 ni_m1 ?_
        refine mj_ret rfl dX7_number_33 ?_
        exact hQ _ _ (by rw [← hv, tx_num, if_neg h_29]; exact ⟨rfl, a + j, rfl⟩)
  refine mj_iconst dX7_number_0 ni_0 ?_
  refine mj_istn3 dX7_number_1 rfl ?_
  refine mj_iconst dX7_number_2 ni_0 ?_
  refine mj_ist4 dX7_number_3 rfl ?_
  exact mj_xl (loop f 0 0 (by omega) rfl) (by rw [Nat.add_zero]; exact (up_self hat).symm) rfl
def mt_fr (x y : mj_X) : Prop := (∀ i, i ≠ 10 → i ≠ 14 → y 37 i = x 37 i) ∧ ∀ k, k ≠ 37 → k ≠ 43 → k ≠ 44 → k ≠ 45 → y k = x k
def mt_fw (x y : mj_X) : Prop := (∀ i, i ≠ 10 → i ≠ 13 → i ≠ 14 → y 37 i = x 37 i) ∧ ∀ k, k ≠ 37 → k ≠ 43 → k ≠ 44 → k ≠ 45 → y k = x k
def mt_S (x y : mj_X) (s : tx_P) : Prop := y 37 14 = nI s.1 ∧ (∀ i, i < 6 → y 43 i = s.2.1 i) ∧ (∀ i, i < s.2.2.2.2 → y 44 i = s.2.2.1 i ∧ y 45 i = s.2.2.2.1 i) ∧ y 37 10 = nI s.2.2.2.2 ∧ s.2.2.2.2 ≤ 6 ∧ mt_fr x y
def mt_R (x y : mj_X) (z : Int32) (r : Int32 ⊕ tx_P) : Prop := match r with
  | .inl e => z = e ∧ e ≠ 0 ∧ mt_fr x y
  | .inr s => z = 0 ∧ mt_S x y s
theorem mt_fr_at {x y : mj_X} (v : Int32) (h : mt_fr x y) : mt_fr x (mj_up y 37 14 v) := ⟨fun i a c => by rw [up_eq, upd_ne c]; exact h.1 i a c, fun k a b c d => by rw [up_ne a]; exact h.2 k a b c d⟩
theorem mt_S_at {x y : mj_X} {s : tx_P} (a : Nat) (h : mt_S x y s) : mt_S x (mj_up y 37 14 (nI a)) (a, s.2) := by
  obtain ⟨h1, h2, h3, h4, h5, h6⟩ := h
  exact ⟨by rw [up_eq, upd_eq], fun i hi => by rw [up_ne (by decide)]; exact h2 i hi, fun i hi => by rw [up_ne (by decide), up_ne (by decide)]; exact h3 i hi, by rw [up_eq, upd_ne (by decide)]; exact h4, h5, mt_fr_at _ h6⟩
theorem mt_S_num {x y : mj_X} {s : tx_P} (i : Nat) (v : Int32) (h : mt_S x y s) : mt_S x (mj_up y 43 i v) (s.1, upd s.2.1 i v, s.2.2) := by
  obtain ⟨h1, h2, h3, h4, h5, h6⟩ := h
  refine ⟨h1, fun j hj => ?_, fun j hj => by rw [up_ne (by decide), up_ne (by decide)]; exact h3 j hj, h4, h5, fun i a c => by rw [up_ne (by decide)]; exact h6.1 i a c, fun k a b c d => by rw [up_ne b]; exact h6.2 k a b c d⟩
  rw [up_eq]
  by_cases e : j = i
  · subst e; rw [upd_eq]; exact upd_eq.symm
  · rw [upd_ne e, h2 j hj]; exact (upd_ne e).symm
theorem mt_y2 {x y : mj_X} (h : mt_fr x y) : y 37 0 = x 37 0 ∧ y 38 = x 38 := ⟨h.1 0 (by decide) (by decide), h.2 38 (by decide) (by decide) (by decide) (by decide)⟩
set_option maxHeartbeats 1000000 in
theorem c_mrule (x : mj_X) (len : Nat) (hlen : len ≤ 200) (hl : x 37 0 = nI len) (y : mj_X) (s : tx_P) (hS : mt_S x y s) (ha : s.1 ≤ 800) (i f : Nat) (hi : i < 6) (hf : f ≤ 3) (low : Int32) (hlow : low = 0 ∨ low = 1) : mj_CI mX7_ruleItem (shX ++ shM) [.ref 37, .int (nI i), .int (nI f), .int low] y (fun z w => mt_R x w z (tx_rule (tx_pk (x 38) len) i f low s)) := by
  refine mj_startI (ls := [some (.ref 37), some (.int (nI i)), some (.int (nI f)), some (.int low), none]) (by decide) rfl rfl (fun Q hQ => ?_)
  have hy := mt_y2 hS.2.2.2.2.2
  unfold tx_rule at hQ
  refine mj_aldn dX7_ruleItem_0 rfl ?_
  refine mj_ildn dX7_ruleItem_1 rfl ?_
  refine mj_ildn dX7_ruleItem_2 rfl ?_
  refine mj_cvi (K := mX7_number) (c_mnum x len hlen hl y hy.1 hy.2 s.1 (by omega) hS.1 f hf low) ckX7_number lkX7_97 ⟨Nat.le_of_ble_eq_true rfl, Nat.le_of_ble_eq_true rfl⟩ rfl dX7_ruleItem_3 rfl rfl (Nat.le_of_ble_eq_true rfl) (fun z_3 x_3 q_3 => ?_)
  cases hn : tx_num (tx_pk (x 38) len) f s.1 0 with
  | none =>
    rw [hn] at q_3 hQ
    obtain ⟨rfl, b, rfl⟩ := q_3
    refine mj_ist4 dX7_ruleItem_6 rfl ?_
    refine mj_ild dX7_ruleItem_8 rfl ?_
    refine mj_if_ge (tgt := 17) dX7_ruleItem_10 rfl (fun h_10 => False.elim (by exact absurd h_10 (by decide))) (fun h_10 => ?_)
    refine mj_ild dX7_ruleItem_13 rfl ?_
    refine mj_ineg dX7_ruleItem_15 ?_
    refine mj_ret rfl dX7_ruleItem_16 ?_
    exact hQ _ _ ⟨rfl, by decide, mt_fr_at _ hS.2.2.2.2.2⟩
  | some v =>
    rw [hn] at q_3 hQ
    obtain ⟨rfl, rfl⟩ := q_3
    have hb := (tx_num_le hf hn).1
    have hS1 := mt_S_at (s.1 + f) hS
    dsimp only at hQ
    by_cases hlt : v < low
    · rw [if_pos hlt] at hQ ⊢
      refine mj_ist4 dX7_ruleItem_6 rfl ?_
      refine mj_ild dX7_ruleItem_8 rfl ?_
      refine mj_if_ge (tgt := 17) dX7_ruleItem_10 rfl (fun h_10 => False.elim (by exact absurd h_10 (by decide))) (fun h_10 => ?_)
      refine mj_ild dX7_ruleItem_13 rfl ?_
      refine mj_ineg dX7_ruleItem_15 ?_
      refine mj_ret rfl dX7_ruleItem_16 ?_
      exact hQ _ _ ⟨rfl, by decide, hS1.2.2.2.2.2⟩
    · rw [if_neg hlt] at hQ ⊢
      refine mj_ist4 dX7_ruleItem_6 rfl ?_
      refine mj_ild dX7_ruleItem_8 rfl ?_
      refine mj_if_ge (tgt := 17) dX7_ruleItem_10 rfl (fun h_10 => ?_) (fun h_10 => False.elim (by exact h_10 hb))
      refine mj_aldn dX7_ruleItem_17 rfl ?_
      refine mj_getr fkX7_25 dX7_ruleItem_18 rfl rfl ?_
      refine mj_ildn dX7_ruleItem_21 rfl ?_
      refine mj_ild dX7_ruleItem_22 rfl ?_
      refine mj_iast dX7_ruleItem_24 rfl i hi rfl (by decide) ?_
      refine mj_iconst dX7_ruleItem_25 ni_0 ?_
      refine mj_ret rfl dX7_ruleItem_26 ?_
      exact hQ _ _ ⟨rfl, mt_S_num i v hS1⟩
set_option maxHeartbeats 1000000 in
theorem c_mends (x : mj_X) (len : Nat) (hlen : len ≤ 200) (hl : x 37 0 = nI len) (y : mj_X) (s : tx_P) (hS : mt_S x y s) (ha : s.1 ≤ 900) : mj_CI mX7_ends (shX ++ shM) [.ref 37] y (fun z w => mt_R x w z (tx_end (tx_pk (x 38) len) s)) := by
  refine mj_startI (ls := [some (.ref 37)]) (by decide) rfl rfl (fun Q hQ => ?_)
  have hS1 := mt_S_at (s.1 + 1) hS
  have hy := mt_y2 hS1.2.2.2.2.2
  have e1 : y 37 14 + 1 = nI (s.1 + 1) := by rw [hS.1, nI_1]
  have e2 : mj_up y 37 14 (nI (s.1 + 1)) 37 14 - 1 = nI s.1 := by rw [up_eq, upd_eq]; exact nI_pred s.1
  unfold tx_end at hQ
  refine mj_aldn dX7_ends_0 rfl ?_
  refine mj_dupr dX7_ends_1 ?_
  refine mj_geti fkX7_86 dX7_ends_2 rfl rfl ?_
  refine mj_iconst dX7_ends_5 ni_1 ?_
  refine mj_iadd dX7_ends_6 ?_
  rw [e1]
  refine mj_puti fkX7_86 pkX7_14 dX7_ends_7 rfl rfl ?_
  refine mj_aldn dX7_ends_10 rfl ?_
  refine mj_aldn dX7_ends_11 rfl ?_
  refine mj_geti fkX7_86 dX7_ends_12 rfl rfl ?_
  refine mj_iconst dX7_ends_15 ni_1 ?_
  refine mj_isub dX7_ends_16 ?_
  rw [e2]
  refine mj_cvp (K := mX7_letterAt) (c_letter x len hlen hl _ hy.1 hy.2 s.1 (by omega)) ckX7_letterAt lkX7_89 ⟨Nat.le_of_ble_eq_true rfl, Nat.le_of_ble_eq_true rfl⟩ rfl dX7_ends_17 rfl rfl (Nat.le_of_ble_eq_true rfl) ?_
  refine mj_bipush dX7_ends_20 nb_59 ?_
  refine mj_ic_ne (tgt := 29) dX7_ends_22 rfl (fun h_22 => ?_) (fun h_22 => ?_)
  · refine mj_iconst dX7_ends_29 ni_1 ?_
    refine mj_ret rfl dX7_ends_30 ?_
    first
    | (rw [if_neg h_22] at hQ; exact hQ _ _ ⟨rfl, by decide, hS1.2.2.2.2.2⟩)
    | (rw [if_pos h_22] at hQ; exact hQ _ _ ⟨rfl, hS1⟩)
  · refine mj_iconst dX7_ends_25 ni_0 ?_
    refine mj_goto (tgt := 30) dX7_ends_26 rfl ?_
    refine mj_ret rfl dX7_ends_30 ?_
    first
    | (rw [if_neg h_22] at hQ; exact hQ _ _ ⟨rfl, by decide, hS1.2.2.2.2.2⟩)
    | (rw [if_pos h_22] at hQ; exact hQ _ _ ⟨rfl, hS1⟩)
set_option maxHeartbeats 1000000 in
theorem c_codeIs (x : mj_X) (k : Nat) (hk : k < 6) (hs : x 37 10 = nI k) (p b : Int32) : mj_CV mX7_codeIs (shX ++ shM) [.ref 37, .int p, .int b] x (fun y => y = mj_up (mj_up (mj_up x 44 k p) 45 k b) 37 10 (nI (k + 1))) := by
  refine mj_startV (ls := [some (.ref 37), some (.int p), some (.int b)]) (by decide) rfl rfl (fun Q hQ => ?_)
  refine mj_aldn dX7_codeIs_0 rfl ?_
  refine mj_getr fkX7_28 dX7_codeIs_1 rfl rfl ?_
  refine mj_aldn dX7_codeIs_4 rfl ?_
  refine mj_geti fkX7_71 dX7_codeIs_5 rfl rfl ?_
  refine mj_ildn dX7_codeIs_8 rfl ?_
  refine mj_iast dX7_codeIs_9 rfl k hk hs (by decide) ?_
  refine mj_aldn dX7_codeIs_10 rfl ?_
  refine mj_getr fkX7_31 dX7_codeIs_11 rfl rfl ?_
  refine mj_aldn dX7_codeIs_14 rfl ?_
  refine mj_geti fkX7_71 dX7_codeIs_15 rfl rfl ?_
  refine mj_ildn dX7_codeIs_18 rfl ?_
  refine mj_iast dX7_codeIs_19 rfl k hk hs (by decide) ?_
  refine mj_aldn dX7_codeIs_20 rfl ?_
  refine mj_dupr dX7_codeIs_21 ?_
  refine mj_geti fkX7_71 dX7_codeIs_22 rfl rfl ?_
  refine mj_iconst dX7_codeIs_25 ni_1 ?_
  refine mj_iadd dX7_codeIs_26 ?_
  refine mj_puti fkX7_71 pkX7_10 dX7_codeIs_27 rfl rfl ?_
  refine mj_retv rfl dX7_codeIs_30 ?_
  exact hQ _ (by rw [← nI_1, ← hs]; rfl)
theorem mt_S_code {x y : mj_X} {s : tx_P} (p b : Int32) (hk : s.2.2.2.2 < 6) (h : mt_S x y s) : mt_S x (mj_up (mj_up (mj_up y 44 s.2.2.2.2 p) 45 s.2.2.2.2 b) 37 10 (nI (s.2.2.2.2 + 1))) (s.1, s.2.1, upd s.2.2.1 s.2.2.2.2 p, upd s.2.2.2.1 s.2.2.2.2 b, s.2.2.2.2 + 1) := by
  obtain ⟨h1, h2, h3, h4, h5, h6⟩ := h
  refine ⟨by rw [up_eq, upd_ne (by decide), up_ne (by decide), up_ne (by decide)]; exact h1, fun j hj => by rw [up_ne (by decide), up_ne (by decide), up_ne (by decide)]; exact h2 j hj, fun j hj => ?_, by rw [up_eq, upd_eq], hk, fun i a c => by rw [up_eq, upd_ne a, up_ne (by decide), up_ne (by decide)]; exact h6.1 i a c, fun k a b c d => by rw [up_ne a, up_ne d, up_ne c]; exact h6.2 k a b c d⟩
  dsimp only at hj ⊢
  rw [up_ne (show 44 ≠ 37 by decide), up_ne (show 44 ≠ 45 by decide), up_eq, up_ne (show 45 ≠ 37 by decide), up_eq, up_ne (show 45 ≠ 44 by decide)]
  by_cases e : j = s.2.2.2.2
  · rw [e, upd_eq, upd_eq, upd_eq, upd_eq]
    exact ⟨rfl, rfl⟩
  · rw [upd_ne e, upd_ne e, upd_ne e, upd_ne e]
    exact h3 j (by omega)
set_option maxHeartbeats 1000000 in
theorem c_mcode (x : mj_X) (len : Nat) (hlen : len ≤ 200) (hl : x 37 0 = nI len) (y : mj_X) (s : tx_P) (hS : mt_S x y s) (ha : s.1 ≤ 800) : mj_CI mX7_codeItem (shX ++ shM) [.ref 37] y (fun z w => mt_R x w z (tx_code (tx_pk (x 38) len) s)) := by
  refine mj_startI (ls := [some (.ref 37), none, none]) (by decide) rfl rfl (fun Q hQ => ?_)
  have hy := mt_y2 hS.2.2.2.2.2
  have hk6 := hS.2.2.2.2.1
  have hck := hS.2.2.2.1
  unfold tx_code at hQ
  refine mj_aldn dX7_codeItem_0 rfl ?_
  refine mj_geti fkX7_71 dX7_codeItem_1 rfl rfl ?_
  refine mj_bipush dX7_codeItem_4 nb_6 ?_
  refine mj_ic_ne (tgt := 11) dX7_codeItem_6 rfl (fun h_6 => ?_) (fun h_6 => ?_)
  · have h6 : ¬ 6 ≤ s.2.2.2.2 := by
      intro h
      have : s.2.2.2.2 = 6 := by omega
      rw [hck, this] at h_6
      exact h_6 rfl
    rw [if_neg h6] at hQ
    refine mj_aldn dX7_codeItem_11 rfl ?_
    refine mj_iconst dX7_codeItem_12 ni_1 ?_
    refine mj_iconst dX7_codeItem_13 ni_1 ?_
    refine mj_cvi (K := mX7_number) (c_mnum x len hlen hl y hy.1 hy.2 s.1 (by omega) hS.1 1 (by omega) 1) ckX7_number lkX7_97 ⟨Nat.le_of_ble_eq_true rfl, Nat.le_of_ble_eq_true rfl⟩ rfl dX7_codeItem_14 rfl rfl (Nat.le_of_ble_eq_true rfl) (fun z_14 x_14 q_14 => ?_)
    cases hn : tx_num (tx_pk (x 38) len) 1 s.1 0 with
    | none =>
      rw [hn] at q_14 hQ
      obtain ⟨rfl, b, rfl⟩ := q_14
      refine mj_istn1 dX7_codeItem_17 rfl ?_
      refine mj_ildn dX7_codeItem_18 rfl ?_
      refine mj_if_ge (tgt := 25) dX7_codeItem_19 rfl (fun h_19 => False.elim (by exact absurd h_19 (by decide))) (fun h_19 => ?_)
      refine mj_ildn dX7_codeItem_22 rfl ?_
      refine mj_ineg dX7_codeItem_23 ?_
      refine mj_ret rfl dX7_codeItem_24 ?_
      exact hQ _ _ ⟨rfl, by decide, mt_fr_at _ hS.2.2.2.2.2⟩
    | some p =>
      rw [hn] at q_14 hQ
      obtain ⟨rfl, rfl⟩ := q_14
      have hb := (tx_num_le (by omega) hn).1
      have hS1 := mt_S_at (s.1 + 1) hS
      dsimp only at hQ
      by_cases hlt : p < 1
      · rw [if_pos hlt] at hQ ⊢
        refine mj_istn1 dX7_codeItem_17 rfl ?_
        refine mj_ildn dX7_codeItem_18 rfl ?_
        refine mj_if_ge (tgt := 25) dX7_codeItem_19 rfl (fun h_19 => False.elim (by exact absurd h_19 (by decide))) (fun h_19 => ?_)
        refine mj_ildn dX7_codeItem_22 rfl ?_
        refine mj_ineg dX7_codeItem_23 ?_
        refine mj_ret rfl dX7_codeItem_24 ?_
        exact hQ _ _ ⟨rfl, by decide, hS1.2.2.2.2.2⟩
      · rw [if_neg hlt] at hQ ⊢
        refine mj_istn1 dX7_codeItem_17 rfl ?_
        refine mj_ildn dX7_codeItem_18 rfl ?_
        refine mj_if_ge (tgt := 25) dX7_codeItem_19 rfl (fun h_19 => ?_) (fun h_19 => False.elim (by exact h_19 hb))
        refine mj_aldn dX7_codeItem_25 rfl ?_
        refine mj_iconst dX7_codeItem_26 ni_2 ?_
        refine mj_iconst dX7_codeItem_27 ni_0 ?_
        refine mj_cvi (K := mX7_number) (c_mnum x len hlen hl _ (mt_y2 hS1.2.2.2.2.2).1 (mt_y2 hS1.2.2.2.2.2).2 (s.1 + 1) (by omega) hS1.1 2 (by omega) 0) ckX7_number lkX7_97 ⟨Nat.le_of_ble_eq_true rfl, Nat.le_of_ble_eq_true rfl⟩ rfl dX7_codeItem_28 rfl rfl (Nat.le_of_ble_eq_true rfl) (fun z_28 x_28 q_28 => ?_)
        cases hn2 : tx_num (tx_pk (x 38) len) 2 (s.1 + 1) 0 with
        | none =>
          rw [hn2] at q_28 hQ
          obtain ⟨rfl, b, rfl⟩ := q_28
          refine mj_istn2 dX7_codeItem_31 rfl ?_
          refine mj_ildn dX7_codeItem_32 rfl ?_
          refine mj_if_ge (tgt := 39) dX7_codeItem_33 rfl (fun h_33 => False.elim (by exact absurd h_33 (by decide))) (fun h_33 => ?_)
          refine mj_ildn dX7_codeItem_36 rfl ?_
          refine mj_ineg dX7_codeItem_37 ?_
          refine mj_ret rfl dX7_codeItem_38 ?_
          exact hQ _ _ ⟨rfl, by decide, mt_fr_at _ hS1.2.2.2.2.2⟩
        | some b =>
          rw [hn2] at q_28 hQ
          obtain ⟨rfl, rfl⟩ := q_28
          have hb2 := (tx_num_le (by omega) hn2).1
          have hS2 := mt_S_at (s.1 + 1 + 2) hS1
          rw [if_neg (show ¬ b < 0 by grind)]
          refine mj_istn2 dX7_codeItem_31 rfl ?_
          refine mj_ildn dX7_codeItem_32 rfl ?_
          refine mj_if_ge (tgt := 39) dX7_codeItem_33 rfl (fun h_33 => ?_) (fun h_33 => False.elim (by exact h_33 hb2))
          refine mj_aldn dX7_codeItem_39 rfl ?_
          refine mj_ildn dX7_codeItem_40 rfl ?_
          refine mj_ildn dX7_codeItem_41 rfl ?_
          refine mj_cvv (K := mX7_codeIs) (c_codeIs _ s.2.2.2.2 (by omega) hS2.2.2.2.1 p b) ckX7_codeIs lkX7_64 ⟨Nat.le_of_ble_eq_true rfl, Nat.le_of_ble_eq_true rfl⟩ rfl dX7_codeItem_42 rfl rfl (Nat.le_of_ble_eq_true rfl) (fun x_42 q_42 => ?_)
          refine mj_iconst dX7_codeItem_45 ni_0 ?_
          refine mj_ret rfl dX7_codeItem_46 ?_
          rw [q_42]; exact hQ _ _ ⟨rfl, mt_S_code (s := (s.1 + 3, s.2)) p b (by dsimp only; omega) hS2⟩
  · have h6 : 6 ≤ s.2.2.2.2 := by
      rw [hck] at h_6
      have := (nI_eq (a := s.2.2.2.2) (b := 6) (by omega) (by decide)).mp h_6
      omega
    rw [if_pos h6] at hQ
    refine mj_iconst dX7_codeItem_9 ni_3 ?_
    refine mj_ret rfl dX7_codeItem_10 ?_
    exact hQ _ _ ⟨rfl, by decide, hS.2.2.2.2.2⟩
set_option maxHeartbeats 1000000 in
theorem c_mstays (x : mj_X) (len : Nat) (hlen : len ≤ 200) (hl : x 37 0 = nI len) (y : mj_X) (s : tx_P) (hS : mt_S x y s) (ha : s.1 ≤ 700) : mj_CI mX7_staysItem (shX ++ shM) [.ref 37] y (fun z w => mt_R x w z (tx_bind (tx_rule (tx_pk (x 38) len) 4 3 0 s) (tx_rule (tx_pk (x 38) len) 5 3 0))) := by
  refine mj_startI (ls := [some (.ref 37), none]) (by decide) rfl rfl (fun Q hQ => ?_)
  refine mj_aldn dX7_staysItem_0 rfl ?_
  refine mj_iconst dX7_staysItem_1 ni_4 ?_
  refine mj_iconst dX7_staysItem_2 ni_3 ?_
  refine mj_iconst dX7_staysItem_3 ni_0 ?_
  refine mj_cvi (K := mX7_ruleItem) (c_mrule x len hlen hl y s hS (by omega) 4 3 (by decide) (by decide) 0 (Or.inl rfl)) ckX7_ruleItem lkX7_101 ⟨Nat.le_of_ble_eq_true rfl, Nat.le_of_ble_eq_true rfl⟩ rfl dX7_staysItem_4 rfl rfl (Nat.le_of_ble_eq_true rfl) (fun z_4 x_4 q_4 => ?_)
  cases hr : tx_rule (tx_pk (x 38) len) 4 3 0 s with
  | inl e =>
    rw [hr] at q_4 hQ
    obtain ⟨rfl, q2, q3⟩ := q_4
    refine mj_istn1 dX7_staysItem_7 rfl ?_
    refine mj_ildn dX7_staysItem_8 rfl ?_
    refine mj_if_eq (tgt := 16) dX7_staysItem_9 rfl (fun h_9 => False.elim (by exact q2 h_9)) (fun h_9 => ?_)
    refine mj_ildn dX7_staysItem_12 rfl ?_
    refine mj_goto (tgt := 23) dX7_staysItem_13 rfl ?_
    refine mj_ret rfl dX7_staysItem_23 ?_
    exact hQ _ _ ⟨rfl, q2, q3⟩
  | inr s2 =>
    rw [hr] at q_4 hQ
    obtain ⟨rfl, q2⟩ := q_4
    have hle := tx_rule_le hr
    refine mj_istn1 dX7_staysItem_7 rfl ?_
    refine mj_ildn dX7_staysItem_8 rfl ?_
    refine mj_if_eq (tgt := 16) dX7_staysItem_9 rfl (fun h_9 => ?_) (fun h_9 => False.elim (by exact h_9 rfl))
    refine mj_aldn dX7_staysItem_16 rfl ?_
    refine mj_iconst dX7_staysItem_17 ni_5 ?_
    refine mj_iconst dX7_staysItem_18 ni_3 ?_
    refine mj_iconst dX7_staysItem_19 ni_0 ?_
    refine mj_cvi (K := mX7_ruleItem) (c_mrule x len hlen hl x_4 s2 q2 (by omega) 5 3 (by decide) (by decide) 0 (Or.inl rfl)) ckX7_ruleItem lkX7_101 ⟨Nat.le_of_ble_eq_true rfl, Nat.le_of_ble_eq_true rfl⟩ rfl dX7_staysItem_20 rfl rfl (Nat.le_of_ble_eq_true rfl) (fun z_20 x_20 q_20 => ?_)
    refine mj_ret rfl dX7_staysItem_23 ?_
    exact hQ _ _ q_20
set_option maxHeartbeats 1000000 in
theorem c_mitem (x : mj_X) (len : Nat) (hlen : len ≤ 200) (hl : x 37 0 = nI len) (y : mj_X) (s : tx_P) (hS : mt_S x y s) (ha : s.1 ≤ 600) (c : Int32) : mj_CI mX7_item (shX ++ shM) [.ref 37, .int c] y (fun z w => mt_R x w z (tx_bind (tx_body (tx_pk (x 38) len) c s) (tx_end (tx_pk (x 38) len)))) := by
  refine mj_startI (ls := [some (.ref 37), some (.int c), none]) (by decide) rfl rfl (fun Q hQ => ?_)
  have fin : ∀ (w : mj_X) (z : Int32), mt_R x w z (tx_body (tx_pk (x 38) len) c s) → mj_V mX7_item (shX ++ shM) Q w 122 [some (.ref 37), some (.int c), some (.int z)] [] := by
    intro w z hw
    cases hb : tx_body (tx_pk (x 38) len) c s with
    | inl e =>
      rw [hb] at hw hQ
      obtain ⟨rfl, q2, q3⟩ := hw
      refine mj_ildn dX7_item_122 rfl ?_
      refine mj_if_eq (tgt := 130) dX7_item_123 rfl (fun h_123 => False.elim (by exact q2 h_123)) (fun h_123 => ?_)
      refine mj_ildn dX7_item_126 rfl ?_
      refine mj_goto (tgt := 134) dX7_item_127 rfl ?_
      refine mj_ret rfl dX7_item_134 ?_
      exact hQ _ _ ⟨rfl, q2, q3⟩
    | inr s2 =>
      rw [hb] at hw hQ
      obtain ⟨rfl, q2⟩ := hw
      have hle := tx_body_le hb
      refine mj_ildn dX7_item_122 rfl ?_
      refine mj_if_eq (tgt := 130) dX7_item_123 rfl (fun h_123 => ?_) (fun h_123 => False.elim (by exact h_123 rfl))
      refine mj_aldn dX7_item_130 rfl ?_
      refine mj_cvi (K := mX7_ends) (c_mends x len hlen hl w s2 q2 (by omega)) ckX7_ends lkX7_112 ⟨Nat.le_of_ble_eq_true rfl, Nat.le_of_ble_eq_true rfl⟩ rfl dX7_item_131 rfl rfl (Nat.le_of_ble_eq_true rfl) (fun z_131 x_131 q_131 => ?_)
      refine mj_ret rfl dX7_item_134 ?_
      exact hQ _ _ q_131
  refine mj_ildn dX7_item_0 rfl ?_
  by_cases s1_0 : c = 98
  · refine mj_lookup (off := 81) (tgt := 82) dX7_item_1 (by decide) (by rw [s1_0]; decide) rfl ?_
    refine mj_aldn dX7_item_82 rfl ?_
    refine mj_iconst dX7_item_83 ni_2 ?_
    refine mj_iconst dX7_item_84 ni_2 ?_
    refine mj_iconst dX7_item_85 ni_1 ?_
    refine mj_cvi (K := mX7_ruleItem) (c_mrule x len hlen hl y s hS (by omega) 2 2 (by decide) (by decide) 1 (Or.inr rfl)) ckX7_ruleItem lkX7_101 ⟨Nat.le_of_ble_eq_true rfl, Nat.le_of_ble_eq_true rfl⟩ rfl dX7_item_86 rfl rfl (Nat.le_of_ble_eq_true rfl) (fun z_86 x_86 q_86 => ?_)
    refine mj_istn2 dX7_item_89 rfl ?_
    refine mj_goto (tgt := 122) dX7_item_90 rfl ?_
    exact fin _ _ (by unfold tx_body; rw [if_pos s1_0]; exact q_86)
  by_cases s1_1 : c = 107
  · refine mj_lookup (off := 111) (tgt := 112) dX7_item_1 (by decide) (by rw [s1_1]; decide) rfl ?_
    refine mj_aldn dX7_item_112 rfl ?_
    refine mj_cvi (K := mX7_codeItem) (c_mcode x len hlen hl y s hS (by omega)) ckX7_codeItem lkX7_109 ⟨Nat.le_of_ble_eq_true rfl, Nat.le_of_ble_eq_true rfl⟩ rfl dX7_item_113 rfl rfl (Nat.le_of_ble_eq_true rfl) (fun z_113 x_113 q_113 => ?_)
    refine mj_istn2 dX7_item_116 rfl ?_
    refine mj_goto (tgt := 122) dX7_item_117 rfl ?_
    exact fin _ _ (by unfold tx_body; rw [if_neg s1_0, if_pos s1_1]; exact q_113)
  by_cases s1_2 : c = 108
  · refine mj_lookup (off := 70) (tgt := 71) dX7_item_1 (by decide) (by rw [s1_2]; decide) rfl ?_
    refine mj_aldn dX7_item_71 rfl ?_
    refine mj_iconst dX7_item_72 ni_1 ?_
    refine mj_iconst dX7_item_73 ni_2 ?_
    refine mj_iconst dX7_item_74 ni_1 ?_
    refine mj_cvi (K := mX7_ruleItem) (c_mrule x len hlen hl y s hS (by omega) 1 2 (by decide) (by decide) 1 (Or.inr rfl)) ckX7_ruleItem lkX7_101 ⟨Nat.le_of_ble_eq_true rfl, Nat.le_of_ble_eq_true rfl⟩ rfl dX7_item_75 rfl rfl (Nat.le_of_ble_eq_true rfl) (fun z_75 x_75 q_75 => ?_)
    refine mj_istn2 dX7_item_78 rfl ?_
    refine mj_goto (tgt := 122) dX7_item_79 rfl ?_
    exact fin _ _ (by unfold tx_body; rw [if_neg s1_0, if_neg s1_1, if_pos s1_2]; exact q_75)
  by_cases s1_3 : c = 109
  · refine mj_lookup (off := 92) (tgt := 93) dX7_item_1 (by decide) (by rw [s1_3]; decide) rfl ?_
    refine mj_aldn dX7_item_93 rfl ?_
    refine mj_iconst dX7_item_94 ni_3 ?_
    refine mj_iconst dX7_item_95 ni_3 ?_
    refine mj_iconst dX7_item_96 ni_0 ?_
    refine mj_cvi (K := mX7_ruleItem) (c_mrule x len hlen hl y s hS (by omega) 3 3 (by decide) (by decide) 0 (Or.inl rfl)) ckX7_ruleItem lkX7_101 ⟨Nat.le_of_ble_eq_true rfl, Nat.le_of_ble_eq_true rfl⟩ rfl dX7_item_97 rfl rfl (Nat.le_of_ble_eq_true rfl) (fun z_97 x_97 q_97 => ?_)
    refine mj_istn2 dX7_item_100 rfl ?_
    refine mj_goto (tgt := 122) dX7_item_101 rfl ?_
    exact fin _ _ (by unfold tx_body; rw [if_neg s1_0, if_neg s1_1, if_neg s1_2, if_pos s1_3]; exact q_97)
  by_cases s1_4 : c = 115
  · refine mj_lookup (off := 103) (tgt := 104) dX7_item_1 (by decide) (by rw [s1_4]; decide) rfl ?_
    refine mj_aldn dX7_item_104 rfl ?_
    refine mj_cvi (K := mX7_staysItem) (c_mstays x len hlen hl y s hS (by omega)) ckX7_staysItem lkX7_105 ⟨Nat.le_of_ble_eq_true rfl, Nat.le_of_ble_eq_true rfl⟩ rfl dX7_item_105 rfl rfl (Nat.le_of_ble_eq_true rfl) (fun z_105 x_105 q_105 => ?_)
    refine mj_istn2 dX7_item_108 rfl ?_
    refine mj_goto (tgt := 122) dX7_item_109 rfl ?_
    exact fin _ _ (by unfold tx_body; rw [if_neg s1_0, if_neg s1_1, if_neg s1_2, if_neg s1_3, if_pos s1_4]; exact q_105)
  by_cases s1_5 : c = 119
  · refine mj_lookup (off := 59) (tgt := 60) dX7_item_1 (by decide) (by rw [s1_5]; decide) rfl ?_
    refine mj_aldn dX7_item_60 rfl ?_
    refine mj_iconst dX7_item_61 ni_0 ?_
    refine mj_iconst dX7_item_62 ni_3 ?_
    refine mj_iconst dX7_item_63 ni_1 ?_
    refine mj_cvi (K := mX7_ruleItem) (c_mrule x len hlen hl y s hS (by omega) 0 3 (by decide) (by decide) 1 (Or.inr rfl)) ckX7_ruleItem lkX7_101 ⟨Nat.le_of_ble_eq_true rfl, Nat.le_of_ble_eq_true rfl⟩ rfl dX7_item_64 rfl rfl (Nat.le_of_ble_eq_true rfl) (fun z_64 x_64 q_64 => ?_)
    refine mj_istn2 dX7_item_67 rfl ?_
    refine mj_goto (tgt := 122) dX7_item_68 rfl ?_
    exact fin _ _ (by unfold tx_body; rw [if_neg s1_0, if_neg s1_1, if_neg s1_2, if_neg s1_3, if_neg s1_4, if_pos s1_5]; exact q_64)
  refine mj_lookup (off := 119) (tgt := 120) dX7_item_1 (by decide) (by rw [lv_osw s1_0 (a := 98) (by decide)]; rw [lv_osw s1_1 (a := 107) (by decide)]; rw [lv_osw s1_2 (a := 108) (by decide)]; rw [lv_osw s1_3 (a := 109) (by decide)]; rw [lv_osw s1_4 (a := 115) (by decide)]; rw [lv_osw s1_5 (a := 119) (by decide)]; rfl) rfl ?_
  refine mj_iconst dX7_item_120 ni_3 ?_
  refine mj_ret rfl dX7_item_121 ?_
  exact hQ _ _ (by simp only [tx_body, if_neg s1_0, if_neg s1_1, if_neg s1_2, if_neg s1_3, if_neg s1_4, if_neg s1_5]; exact ⟨rfl, by decide, hS.2.2.2.2.2⟩)
set_option maxHeartbeats 1000000 in
theorem c_empty (x : mj_X) : mj_CV mX7_empty (shX ++ shM) [.ref 37] x (fun y => (∀ i, i < 6 → y 43 i = mj_st2 i) ∧ y 37 10 = 0 ∧ (∀ i, i ≠ 10 → y 37 i = x 37 i) ∧ ∀ k, k ≠ 37 → k ≠ 43 → y k = x k) := by
  refine mj_startV (ls := [some (.ref 37)]) (by decide) rfl rfl (fun Q hQ => ?_)
  refine mj_aldn dX7_empty_0 rfl ?_
  refine mj_getr fkX7_25 dX7_empty_1 rfl rfl ?_
  refine mj_iconst dX7_empty_4 ni_0 ?_
  refine mj_bipush dX7_empty_5 nb_100 ?_
  refine mj_iast dX7_empty_7 rfl 0 (by decide) rfl (by decide) ?_
  refine mj_aldn dX7_empty_8 rfl ?_
  refine mj_getr fkX7_25 dX7_empty_9 rfl rfl ?_
  refine mj_iconst dX7_empty_12 ni_1 ?_
  refine mj_bipush dX7_empty_13 nb_12 ?_
  refine mj_iast dX7_empty_15 rfl 1 (by decide) rfl (by decide) ?_
  refine mj_aldn dX7_empty_16 rfl ?_
  refine mj_getr fkX7_25 dX7_empty_17 rfl rfl ?_
  refine mj_iconst dX7_empty_20 ni_2 ?_
  refine mj_bipush dX7_empty_21 nb_10 ?_
  refine mj_iast dX7_empty_23 rfl 2 (by decide) rfl (by decide) ?_
  refine mj_aldn dX7_empty_24 rfl ?_
  refine mj_getr fkX7_25 dX7_empty_25 rfl rfl ?_
  refine mj_iconst dX7_empty_28 ni_3 ?_
  refine mj_sipush dX7_empty_29 ns_200 ?_
  refine mj_iast dX7_empty_32 rfl 3 (by decide) rfl (by decide) ?_
  refine mj_aldn dX7_empty_33 rfl ?_
  refine mj_getr fkX7_25 dX7_empty_34 rfl rfl ?_
  refine mj_iconst dX7_empty_37 ni_4 ?_
  refine mj_sipush dX7_empty_38 ns_300 ?_
  refine mj_iast dX7_empty_41 rfl 4 (by decide) rfl (by decide) ?_
  refine mj_aldn dX7_empty_42 rfl ?_
  refine mj_getr fkX7_25 dX7_empty_43 rfl rfl ?_
  refine mj_iconst dX7_empty_46 ni_5 ?_
  refine mj_sipush dX7_empty_47 ns_150 ?_
  refine mj_iast dX7_empty_50 rfl 5 (by decide) rfl (by decide) ?_
  refine mj_aldn dX7_empty_51 rfl ?_
  refine mj_iconst dX7_empty_52 ni_0 ?_
  refine mj_puti fkX7_71 pkX7_10 dX7_empty_53 rfl rfl ?_
  refine mj_retv rfl dX7_empty_56 ?_
  refine hQ _ ⟨fun i hi => ?_, by rw [up_eq, upd_eq], fun i hi => by rw [up_eq, upd_ne hi, up_ne (by decide), up_ne (by decide), up_ne (by decide), up_ne (by decide), up_ne (by decide), up_ne (by decide)], fun k a b => by rw [up_ne a, up_ne b, up_ne b, up_ne b, up_ne b, up_ne b, up_ne b]⟩
  have : i = 0 ∨ i = 1 ∨ i = 2 ∨ i = 3 ∨ i = 4 ∨ i = 5 := by omega
  rcases this with rfl | rfl | rfl | rfl | rfl | rfl <;> simp [up_at, mj_st2]
theorem tx_item_lt {pk : Nat → Int32} {s s2 : tx_P} (h : tx_item pk s = .inr s2) : s.1 + 2 ≤ s2.1 ∧ s2.1 ≤ s.1 + 8 := by
  unfold tx_item at h
  cases hb : tx_body pk (pk s.1) (s.1 + 1, s.2) with
  | inl e => rw [hb] at h; cases h
  | inr s3 =>
    rw [hb] at h
    have h1 := tx_body_le hb
    have h : tx_end pk s3 = .inr s2 := h
    unfold tx_end at h
    split at h
    · cases h
      dsimp only at h1 ⊢
      omega
    · cases h
/-- behind the reference's reading -/
def mt_A (x y : mj_X) (z : Int32) (r : (Nat × Int32) ⊕ tx_P) : Prop := match r with
  | .inl e => z = nI e.1 ∧ y 37 13 = e.2 ∧ mt_fw x y
  | .inr s => z = -4 ∧ y 37 13 = -4 ∧ (∀ i, i < 6 → y 43 i = s.2.1 i) ∧ (∀ i, i < s.2.2.2.2 → y 44 i = s.2.2.1 i ∧ y 45 i = s.2.2.2.1 i) ∧ y 37 10 = nI s.2.2.2.2 ∧ s.2.2.2.2 ≤ 6 ∧ mt_fw x y
set_option maxHeartbeats 1000000 in
theorem c_readAll (x : mj_X) (len : Nat) (hlen : len ≤ 200) (hl : x 37 0 = nI len) : mj_CI mX7_readAll (shX ++ shM) [.ref 37] x (fun z y => mt_A x y z (tx_all (tx_pk (x 38) len) len 200 tx_in)) := by
  refine mj_startI (ls := [some (.ref 37), none, none]) (by decide) rfl rfl (fun Q hQ => ?_)
  have key : ∀ (X : mj_X) (w1 w2 : Option Value), X 37 0 = x 37 0 → X 38 = x 38 → X 37 13 = -4 → (∀ y, mt_fr X y → mt_fw x y) → mt_S X X tx_in → mj_V mX7_readAll (shX ++ shM) Q X 15 [some (.ref 37), w1, w2] [] := by
    intro X w1 w2 hX0 hX38 hX13 hXf hXS
    have hlX : X 37 0 = nI len := by rw [hX0]; exact hl
    rw [← hX38] at hQ
    have loop : ∀ (f : Nat) (s : tx_P) (y : mj_X) (w1 w2 : Option Value), len ≤ s.1 + f → s.1 ≤ 300 → mt_S X y s → tx_all (tx_pk (X 38) len) len f s = tx_all (tx_pk (X 38) len) len 200 tx_in → mj_V mX7_readAll (shX ++ shM) Q y 15 [some (.ref 37), w1, w2] [] := by
      intro f
      induction f with
      | zero =>
        intro s y w1 w2 h1 h2 hS hr
        have hy := mt_y2 hS.2.2.2.2.2
        refine mj_aldn dX7_readAll_15 rfl ?_
        refine mj_geti fkX7_86 dX7_readAll_16 rfl rfl ?_
        refine mj_aldn dX7_readAll_19 rfl ?_
        refine mj_geti fkX7_83 dX7_readAll_20 rfl rfl ?_
        refine mj_ic_ge (tgt := 65) dX7_readAll_23 rfl (fun h_23 => ?_) (fun h_23 => False.elim (by exact h_23 (by rw [hS.1, hy.1, hlX]; exact nI_le (by omega) (by omega))))
        refine mj_bipush dX7_readAll_65 nb_m4 ?_
        refine mj_ret rfl dX7_readAll_67 ?_
        exact hQ _ _ (by rw [← hr]; exact ⟨rfl, by rw [hS.2.2.2.2.2.1 13 (by decide) (by decide)]; exact hX13, hS.2.1, hS.2.2.1, hS.2.2.2.1, hS.2.2.2.2.1, hXf y hS.2.2.2.2.2⟩)
      | succ f ih =>
        intro s y w1 w2 h1 h2 hS hr
        have hy := mt_y2 hS.2.2.2.2.2
        have e1 : y 37 14 + 1 = nI (s.1 + 1) := by rw [hS.1, nI_1]
        have hS1 := mt_S_at (s.1 + 1) hS
        refine mj_aldn dX7_readAll_15 rfl ?_
        refine mj_geti fkX7_86 dX7_readAll_16 rfl rfl ?_
        refine mj_aldn dX7_readAll_19 rfl ?_
        refine mj_geti fkX7_83 dX7_readAll_20 rfl rfl ?_
        refine mj_ic_ge (tgt := 65) dX7_readAll_23 rfl (fun h_23 => ?_) (fun h_23 => ?_)
        · rw [hS.1, hy.1, hlX, nI_leI (by omega) (by omega)] at h_23
          refine mj_bipush dX7_readAll_65 nb_m4 ?_
          refine mj_ret rfl dX7_readAll_67 ?_
          exact hQ _ _ (by rw [← hr, tx_all, if_neg (by omega)]; exact ⟨rfl, by rw [hS.2.2.2.2.2.1 13 (by decide) (by decide)]; exact hX13, hS.2.1, hS.2.2.1, hS.2.2.2.1, hS.2.2.2.2.1, hXf y hS.2.2.2.2.2⟩)
        · rw [hS.1, hy.1, hlX, nI_leI (by omega) (by omega)] at h_23
          refine mj_aldn dX7_readAll_26 rfl ?_
          refine mj_geti fkX7_86 dX7_readAll_27 rfl rfl ?_
          rw [hS.1]
          refine mj_istn1 dX7_readAll_30 rfl ?_
          refine mj_aldn dX7_readAll_31 rfl ?_
          refine mj_dupr dX7_readAll_32 ?_
          refine mj_geti fkX7_86 dX7_readAll_33 rfl rfl ?_
          refine mj_iconst dX7_readAll_36 ni_1 ?_
          refine mj_iadd dX7_readAll_37 ?_
          rw [e1]
          refine mj_puti fkX7_86 pkX7_14 dX7_readAll_38 rfl rfl ?_
          refine mj_aldn dX7_readAll_41 rfl ?_
          refine mj_aldn dX7_readAll_42 rfl ?_
          refine mj_ildn dX7_readAll_43 rfl ?_
          refine mj_cvp (K := mX7_letterAt) (c_letter X len hlen hlX _ (mt_y2 hS1.2.2.2.2.2).1 (mt_y2 hS1.2.2.2.2.2).2 s.1 (by omega)) ckX7_letterAt lkX7_89 ⟨Nat.le_of_ble_eq_true rfl, Nat.le_of_ble_eq_true rfl⟩ rfl dX7_readAll_44 rfl rfl (Nat.le_of_ble_eq_true rfl) ?_
          refine mj_cvi (K := mX7_item) (c_mitem X len hlen hlX _ (s.1 + 1, s.2) hS1 (by dsimp only; omega) (tx_pk (X 38) len s.1)) ckX7_item lkX7_118 ⟨Nat.le_of_ble_eq_true rfl, Nat.le_of_ble_eq_true rfl⟩ rfl dX7_readAll_47 rfl rfl (Nat.le_of_ble_eq_true rfl) (fun z_47 x_47 q_47 => ?_)
          rw [tx_all, if_pos (show s.1 < len by omega)] at hr
          have q_47 : mt_R X x_47 z_47 (tx_item (tx_pk (X 38) len) s) := q_47
          cases hit : tx_item (tx_pk (X 38) len) s with
          | inl e =>
            rw [hit] at q_47 hr
            obtain ⟨rfl, q2, q3⟩ := q_47
            have q4 := hXf _ q3
            refine mj_istn2 dX7_readAll_50 rfl ?_
            refine mj_ildn dX7_readAll_51 rfl ?_
            refine mj_if_eq (tgt := 62) dX7_readAll_52 rfl (fun h_52 => False.elim (by exact q2 h_52)) (fun h_52 => ?_)
            refine mj_aldn dX7_readAll_55 rfl ?_
            refine mj_ildn dX7_readAll_56 rfl ?_
            refine mj_puti fkX7_115 pkX7_13 dX7_readAll_57 rfl rfl ?_
            refine mj_ildn dX7_readAll_60 rfl ?_
            refine mj_ret rfl dX7_readAll_61 ?_
            exact hQ _ _ (by rw [← hr]; exact ⟨rfl, by rw [up_eq, upd_eq], fun i a b c => by rw [up_eq, upd_ne b]; exact q4.1 i a b c, fun k a b c d => by rw [up_ne a]; exact q4.2 k a b c d⟩)
          | inr s2 =>
            have hlt := tx_item_lt hit
            rw [hit] at q_47 hr
            obtain ⟨rfl, q2⟩ := q_47
            refine mj_istn2 dX7_readAll_50 rfl ?_
            refine mj_ildn dX7_readAll_51 rfl ?_
            refine mj_if_eq (tgt := 62) dX7_readAll_52 rfl (fun h_52 => ?_) (fun h_52 => False.elim (by exact h_52 rfl))
            refine mj_goto (tgt := 15) dX7_readAll_62 rfl ?_
            exact ih s2 x_47 _ _ (by omega) (by omega) q2 hr
    exact loop 200 tx_in X w1 w2 (by simp [tx_in]; omega) (by decide) hXS rfl
  refine mj_aldn dX7_readAll_0 rfl ?_
  refine mj_cvv (K := mX7_empty) (c_empty x) ckX7_empty lkX7_61 ⟨Nat.le_of_ble_eq_true rfl, Nat.le_of_ble_eq_true rfl⟩ rfl dX7_readAll_1 rfl rfl (Nat.le_of_ble_eq_true rfl) (fun x_1 q_1 => ?_)
  refine mj_aldn dX7_readAll_4 rfl ?_
  refine mj_iconst dX7_readAll_5 ni_0 ?_
  refine mj_puti fkX7_86 pkX7_14 dX7_readAll_6 rfl rfl ?_
  refine mj_aldn dX7_readAll_9 rfl ?_
  refine mj_bipush dX7_readAll_10 nb_m4 ?_
  refine mj_puti fkX7_115 pkX7_13 dX7_readAll_12 rfl rfl ?_
  refine key _ _ _ ?_ ?_ rfl (fun y hy => ⟨fun i a b c => ?_, fun k a b c d => ?_⟩) ⟨rfl, fun i hi => ?_, fun i hi => absurd hi (Nat.not_lt_zero i), ?_, by decide, fun i a c => rfl, fun k a b c d => rfl⟩
  · rw [up_eq, upd_ne (by decide), up_eq, upd_ne (by decide)]; exact q_1.2.2.1 0 (by decide)
  · rw [up_ne (by decide), up_ne (by decide)]; exact q_1.2.2.2 38 (by decide) (by decide)
  · rw [hy.1 i a c, up_eq, upd_ne b, up_eq, upd_ne c]; exact q_1.2.2.1 i a
  · rw [hy.2 k a b c d, up_ne a, up_ne a]; exact q_1.2.2.2 k a b
  · exact q_1.1 i hi
  · rw [up_eq, upd_ne (by decide), up_eq, upd_ne (by decide)]; exact q_1.2.1
