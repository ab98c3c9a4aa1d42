/-! THE TEXT: reading as a plain function of the letters; cell 1 (length 1, at 2, place 3, why 4), row 2 letters -/
abbrev tx_P : Type := Nat × (Nat → Int32) × (Nat → Int32) × (Nat → Int32) × Nat
def tx_num (pk : Nat → Int32) : Nat → Nat → Int32 → Option Int32
  | 0, _, v => some v
  | f + 1, a, v => if 48 ≤ pk a ∧ pk a ≤ 57 then tx_num pk f (a + 1) (v * 10 + pk a - 48) else none
def tx_rule (pk : Nat → Int32) (i fig : Nat) (low : Int32) (s : tx_P) : Int32 ⊕ tx_P := match tx_num pk fig s.1 0 with
  | none => .inl 1
  | some v => if v < low then .inl 2 else .inr (s.1 + fig, upd s.2.1 i v, s.2.2)
def tx_code (pk : Nat → Int32) (s : tx_P) : Int32 ⊕ tx_P := if 6 ≤ s.2.2.2.2 then .inl 3 else match tx_num pk 1 s.1 0 with
  | none => .inl 1
  | some p => if p < 1 then .inl 2 else match tx_num pk 2 (s.1 + 1) 0 with
    | none => .inl 1
    | some b => .inr (s.1 + 3, s.2.1, upd s.2.2.1 s.2.2.2.2 p, upd s.2.2.2.1 s.2.2.2.2 b, s.2.2.2.2 + 1)
def tx_end (pk : Nat → Int32) (s : tx_P) : Int32 ⊕ tx_P := if pk s.1 = 59 then .inr (s.1 + 1, s.2) else .inl 1
def tx_bind (r : Int32 ⊕ tx_P) (f : tx_P → Int32 ⊕ tx_P) : Int32 ⊕ tx_P := match r with
  | .inl e => .inl e
  | .inr s => f s
def tx_body (pk : Nat → Int32) (c : Int32) (s : tx_P) : Int32 ⊕ tx_P :=
  if c = 98 then tx_rule pk 2 2 1 s else if c = 107 then tx_code pk s else if c = 108 then tx_rule pk 1 2 1 s else if c = 109 then tx_rule pk 3 3 0 s
  else if c = 115 then tx_bind (tx_rule pk 4 3 0 s) (tx_rule pk 5 3 0) else if c = 119 then tx_rule pk 0 3 1 s else .inl 3
def tx_item (pk : Nat → Int32) (s : tx_P) : Int32 ⊕ tx_P := tx_bind (tx_body pk (pk s.1) (s.1 + 1, s.2)) (tx_end pk)
def tx_all (pk : Nat → Int32) (len : Nat) : Nat → tx_P → (Nat × Int32) ⊕ tx_P
  | 0, s => .inr s
  | f + 1, s => if s.1 < len then (match tx_item pk s with
    | .inl r => .inl (s.1, r)
    | .inr s' => tx_all pk len f s') else .inr s
def tx_pk (txt : Nat → Int32) (len : Nat) (a : Nat) : Int32 := if a < len then txt a else 0
theorem tx_num_b {pk : Nat → Int32} : ∀ (f a : Nat) (v z : Int32) (B : Nat), 0 ≤ v.toInt → v.toInt < B → B * 10 ^ f ≤ 1000 → tx_num pk f a v = some z → 0 ≤ z.toInt ∧ z.toInt < (B * 10 ^ f : Nat)
  | 0, a, v, z, B, h0, h1, hB, h => by
    cases h
    exact ⟨h0, by simpa using h1⟩
  | f + 1, a, v, z, B, h0, h1, hB, h => by
    have hp : 1 ≤ 10 ^ f := by have := Nat.pow_le_pow_right (n := 10) (by decide) (Nat.zero_le f); simpa using this
    have e : B * 10 ^ (f + 1) = B * 10 * 10 ^ f := by rw [Nat.pow_succ, Nat.mul_comm (10 ^ f) 10, Nat.mul_assoc]
    have hB2 : B * 10 ≤ 1000 := Nat.le_trans (Nat.le_mul_of_pos_right _ hp) (e ▸ hB)
    rw [tx_num] at h
    split at h
    · next hc =>
      obtain ⟨c1, c2⟩ := hc
      have c1' : 48 ≤ (pk a).toInt := Int32.le_iff_toInt_le.mp c1
      have c2' : (pk a).toInt ≤ 57 := Int32.le_iff_toInt_le.mp c2
      have hv : (v * 10 + pk a - 48).toInt = v.toInt * 10 + (pk a).toInt - 48 := by
        rw [Int32.toInt_sub, Int32.toInt_add, Int32.toInt_mul, tl_10, show (48 : Int32).toInt = 48 from by decide]
        simp only [Int.bmod_def]
        omega
      have := tx_num_b f (a + 1) _ z (B * 10) (by rw [hv]; omega) (by rw [hv]; omega) (e ▸ hB) h
      rw [e]
      exact this
    · cases h
theorem tx_num_le {pk : Nat → Int32} {f a : Nat} {z : Int32} (hf : f ≤ 3) (h : tx_num pk f a 0 = some z) : 0 ≤ z ∧ z.toInt < (10 ^ f : Nat) := by
  have hp : (10 : Nat) ^ f ≤ 10 ^ 3 := Nat.pow_le_pow_right (by decide) hf
  have := tx_num_b f a 0 z 1 (by decide) (by decide) (by omega) h
  rw [Nat.one_mul] at this
  exact ⟨Int32.le_iff_toInt_le.mpr this.1, this.2⟩
theorem up_up (x : mj_X) (k i : Nat) (v w : Int32) : mj_up (mj_up x k i v) k i w = mj_up x k i w := by
  funext c e
  simp only [up_at]
  by_cases h : c = k ∧ e = i <;> simp [h]
theorem up_self {x : mj_X} {k i : Nat} {v : Int32} (h : x k i = v) : mj_up x k i v = x := by
  funext c e
  simp only [up_at]
  by_cases hc : c = k ∧ e = i
  · rw [if_pos hc, hc.1, hc.2]; exact h.symm
  · rw [if_neg hc]
/-- nothing but the reading's own cells is another -/
def tx_fr (x y : mj_X) (c : Nat) : Prop := y 1 1 = x 1 1 ∧ ∀ k, k ≠ 1 → k ≠ c → k ≠ c + 1 → k ≠ c + 2 → k ≠ c + 3 → y k = x k
def tx_S (x y : mj_X) (c : Nat) (pl : Int32) (s : tx_P) : Prop := y 1 2 = nI s.1 ∧ y 1 3 = pl ∧ y 1 4 = 0 ∧ (∀ i, i < 6 → y (c + 1) i = s.2.1 i) ∧ (∀ i, i < s.2.2.2.2 → y (c + 2) i = s.2.2.1 i ∧ y (c + 3) i = s.2.2.2.1 i) ∧ y c 3 = nI s.2.2.2.2 ∧ s.2.2.2.2 ≤ 6 ∧ tx_fr x y c
def tx_E (x y : mj_X) (c : Nat) (pl r : Int32) : Prop := y 1 4 = r ∧ r ≠ 0 ∧ y 1 3 = pl ∧ tx_fr x y c
def tx_R (x y : mj_X) (c : Nat) (pl : Int32) (r : Int32 ⊕ tx_P) : Prop := match r with
  | .inl e => tx_E x y c pl e
  | .inr s => tx_S x y c pl s
set_option maxHeartbeats 1000000 in
theorem c_peek (R : List mj_S) (x : mj_X) (len : Nat) (hlen : len ≤ 200) (hl : x 1 1 = nI len) (y : mj_X) (hy1 : y 1 1 = x 1 1) (hy2 : y 2 = x 2) (a : Nat) (ha : a ≤ 1000) (hat : y 1 2 = nI a) : mj_CP mX4_peek (shX ++ R) [.ref 1] y (tx_pk (x 2) len a) := by
  refine mj_startP (ls := [some (.ref 1)]) (by decide) rfl rfl (fun Q hQ => ?_)
  refine mj_aldn dX4_peek_0 rfl ?_
  refine mj_geti fkX4_24 dX4_peek_1 rfl rfl ?_
  refine mj_if_lt (tgt := 40) dX4_peek_4 rfl (fun h_4 => False.elim (by rw [hat] at h_4; exact nI_pos (by omega) h_4)) (fun h_4 => ?_)
  refine mj_aldn dX4_peek_7 rfl ?_
  refine mj_geti fkX4_24 dX4_peek_8 rfl rfl ?_
  refine mj_aldn dX4_peek_11 rfl ?_
  refine mj_geti fkX4_15 dX4_peek_12 rfl rfl ?_
  refine mj_ic_ge (tgt := 40) dX4_peek_15 rfl (fun h_15 => ?_) (fun h_15 => ?_)
  · rw [hat, hy1, hl, nI_leI (by omega) (by omega)] at h_15
    refine mj_iconst dX4_peek_40 ni_0 ?_
    refine mj_ret rfl dX4_peek_41 ?_
    exact mj_q hQ (by unfold tx_pk; rw [← hy2]; first | rw [if_pos (by omega)] | rw [if_neg (by omega)])
  · rw [hat, hy1, hl, nI_leI (by omega) (by omega)] at h_15
    refine mj_aldn dX4_peek_18 rfl ?_
    refine mj_geti fkX4_24 dX4_peek_19 rfl rfl ?_
    refine mj_sipush dX4_peek_22 ns_200 ?_
    refine mj_ic_ge (tgt := 40) dX4_peek_25 rfl (fun h_25 => False.elim (by rw [hat] at h_25; exact nl_lt (show a < 200 by omega) (by decide) h_25)) (fun h_25 => ?_)
    refine mj_aldn dX4_peek_28 rfl ?_
    refine mj_getr fkX4_9 dX4_peek_29 rfl rfl ?_
    refine mj_aldn dX4_peek_32 rfl ?_
    refine mj_geti fkX4_24 dX4_peek_33 rfl rfl ?_
    refine mj_iald dX4_peek_36 rfl a (by omega) hat (by decide) ?_
    refine mj_goto (tgt := 41) dX4_peek_37 rfl ?_
    refine mj_ret rfl dX4_peek_41 ?_
    exact mj_q hQ (by unfold tx_pk; rw [← hy2]; first | rw [if_pos (by omega)] | rw [if_neg (by omega)])
set_option maxHeartbeats 1000000 in
theorem c_tadd0 (R : List mj_S) (x : mj_X) (hl : x 1 1 = nI 200) (v : Int32) : mj_CP mX4_add (shX ++ R) [.ref 1, .int v] x 0 := by
  refine mj_startP (ls := [some (.ref 1), some (.int v)]) (by decide) rfl rfl (fun Q hQ => ?_)
  refine mj_aldn dX4_add_0 rfl ?_
  refine mj_geti fkX4_15 dX4_add_1 rfl rfl ?_
  refine mj_if_lt (tgt := 17) dX4_add_4 rfl (fun h_4 => False.elim (by rw [hl] at h_4; exact absurd h_4 (by decide))) (fun h_4 => ?_)
  refine mj_aldn dX4_add_7 rfl ?_
  refine mj_geti fkX4_15 dX4_add_8 rfl rfl ?_
  refine mj_sipush dX4_add_11 ns_200 ?_
  refine mj_ic_lt (tgt := 19) dX4_add_14 rfl (fun h_14 => False.elim (by rw [hl] at h_14; exact absurd h_14 (by decide))) (fun h_14 => ?_)
  refine mj_iconst dX4_add_17 ni_0 ?_
  refine mj_retz rfl (by decide) dX4_add_18 ?_
  exact hQ
set_option maxHeartbeats 1000000 in
theorem c_tadd (R : List mj_S) (x : mj_X) (len : Nat) (hlen : len < 200) (hl : x 1 1 = nI len) (v : Int32) : mj_CI mX4_add (shX ++ R) [.ref 1, .int v] x (fun z y => z = 1 ∧ y = mj_up (mj_up x 2 len v) 1 1 (nI (len + 1))) := by
  refine mj_startI (ls := [some (.ref 1), some (.int v)]) (by decide) rfl rfl (fun Q hQ => ?_)
  refine mj_aldn dX4_add_0 rfl ?_
  refine mj_geti fkX4_15 dX4_add_1 rfl rfl ?_
  refine mj_if_lt (tgt := 17) dX4_add_4 rfl (fun h_4 => False.elim (by rw [hl] at h_4; exact nI_pos (by omega) h_4)) (fun h_4 => ?_)
  refine mj_aldn dX4_add_7 rfl ?_
  refine mj_geti fkX4_15 dX4_add_8 rfl rfl ?_
  refine mj_sipush dX4_add_11 ns_200 ?_
  refine mj_ic_lt (tgt := 19) dX4_add_14 rfl (fun h_14 => ?_) (fun h_14 => False.elim (by rw [hl] at h_14; exact h_14 (nI_lt hlen (by decide))))
  refine mj_aldn dX4_add_19 rfl ?_
  refine mj_getr fkX4_9 dX4_add_20 rfl rfl ?_
  refine mj_aldn dX4_add_23 rfl ?_
  refine mj_geti fkX4_15 dX4_add_24 rfl rfl ?_
  refine mj_ildn dX4_add_27 rfl ?_
  refine mj_iast dX4_add_28 rfl len hlen hl (by decide) ?_
  refine mj_aldn dX4_add_29 rfl ?_
  refine mj_dupr dX4_add_30 ?_
  refine mj_geti fkX4_15 dX4_add_31 rfl rfl ?_
  refine mj_iconst dX4_add_34 ni_1 ?_
  refine mj_iadd dX4_add_35 ?_
  refine mj_puti fkX4_15 pkX4_1 dX4_add_36 rfl rfl ?_
  refine mj_iconst dX4_add_39 ni_1 ?_
  refine mj_retz rfl (by decide) dX4_add_40 ?_
  exact hQ _ _ ⟨rfl, by rw [← nI_1, ← hl]; rfl⟩
set_option maxHeartbeats 1000000 in
theorem c_tclear (R : List mj_S) (x : mj_X) : mj_CV mX4_clear (shX ++ R) [.ref 1] x (fun y => y = mj_up x 1 1 0) := by
  refine mj_startV (ls := [some (.ref 1)]) (by decide) rfl rfl (fun Q hQ => ?_)
  refine mj_aldn dX4_clear_0 rfl ?_
  refine mj_iconst dX4_clear_1 ni_0 ?_
  refine mj_puti fkX4_15 pkX4_1 dX4_clear_2 rfl rfl ?_
  refine mj_retv rfl dX4_clear_5 ?_
  exact hQ _ rfl
set_option maxHeartbeats 1000000 in
theorem c_num0 (R : List mj_S) (x : mj_X) (f : Nat) (hf : f ≤ 3) (hw : ¬ x 1 4 = 0) : mj_CP mX4_readNumber (shX ++ R) [.ref 1, .int (nI f)] x 0 := by
  refine mj_startP (ls := [some (.ref 1), some (.int (nI f)), none, none, none]) (by decide) rfl rfl (fun Q hQ => ?_)
  refine mj_iconst dX4_readNumber_0 ni_0 ?_
  refine mj_istn2 dX4_readNumber_1 rfl ?_
  refine mj_iconst dX4_readNumber_2 ni_0 ?_
  refine mj_istn3 dX4_readNumber_3 rfl ?_
  refine mj_ildn dX4_readNumber_4 rfl ?_
  refine mj_ildn dX4_readNumber_5 rfl ?_
  refine mj_ic_ge (tgt := 71) dX4_readNumber_6 rfl (fun h_6 => ?_) (fun h_6 => ?_)
  · refine mj_ildn dX4_readNumber_71 rfl ?_
    refine mj_ret rfl dX4_readNumber_72 ?_
    exact hQ
  · refine mj_aldn dX4_readNumber_9 rfl ?_
    refine mj_geti fkX4_27 dX4_readNumber_10 rfl rfl ?_
    refine mj_if_ne (tgt := 71) dX4_readNumber_13 rfl (fun h_13 => ?_) (fun h_13 => False.elim (by exact hw h_13))
    refine mj_ildn dX4_readNumber_71 rfl ?_
    refine mj_ret rfl dX4_readNumber_72 ?_
    exact hQ
def tx_nQ (y : mj_X) (a f : Nat) (r : Option Int32) (z : Int32) (w : mj_X) : Prop := match r with
  | some v => z = v ∧ w = mj_up y 1 2 (nI (a + f))
  | none => ∃ b : Nat, w = mj_up (mj_up y 1 2 (nI b)) 1 4 1
set_option maxHeartbeats 1000000 in
theorem c_num (R : List mj_S) (x : mj_X) (len : Nat) (hlen : len ≤ 200) (hl : x 1 1 = nI len) (y : mj_X) (hy1 : y 1 1 = x 1 1) (hy2 : y 2 = x 2) (a : Nat) (ha : a ≤ 900) (hat : y 1 2 = nI a) (hw : y 1 4 = 0) (f : Nat) (hf : f ≤ 3) : mj_CI mX4_readNumber (shX ++ R) [.ref 1, .int (nI f)] y (fun z w => tx_nQ y a f (tx_num (tx_pk (x 2) len) f a 0) z w) := by
  refine mj_startI (ls := [some (.ref 1), some (.int (nI f)), none, none, none]) (by decide) rfl rfl (fun Q hQ => ?_)
  have fail : ∀ (b : Nat) (v j w4 : Int32), tx_num (tx_pk (x 2) len) f a 0 = none → mj_V mX4_readNumber (shX ++ R) Q (mj_up (mj_up y 1 2 (nI b)) 1 4 1) 4 [some (.ref 1), some (.int (nI f)), some (.int v), some (.int j), some (.int w4)] [] := by
    intro b v j w4 hn
    refine mj_ildn dX4_readNumber_4 rfl ?_
    refine mj_ildn dX4_readNumber_5 rfl ?_
    refine mj_ic_ge (tgt := 71) dX4_readNumber_6 rfl (fun h_6 => ?_) (fun h_6 => ?_)
    · refine mj_ildn dX4_readNumber_71 rfl ?_
      refine mj_ret rfl dX4_readNumber_72 ?_
      exact hQ _ _ (by rw [hn]; exact ⟨b, rfl⟩)
    · refine mj_aldn dX4_readNumber_9 rfl ?_
      refine mj_geti fkX4_27 dX4_readNumber_10 rfl rfl ?_
      refine mj_if_ne (tgt := 71) dX4_readNumber_13 rfl (fun h_13 => ?_) (fun h_13 => False.elim (by exact (by decide : ¬ (1 : Int32) = 0) h_13))
      refine mj_ildn dX4_readNumber_71 rfl ?_
      refine mj_ret rfl dX4_readNumber_72 ?_
      exact hQ _ _ (by rw [hn]; exact ⟨b, rfl⟩)
  have loop : ∀ (k j : Nat) (v : Int32) (w4 : Option Value), j + k = f → tx_num (tx_pk (x 2) len) k (a + j) v = tx_num (tx_pk (x 2) len) f a 0 → mj_V mX4_readNumber (shX ++ R) Q (mj_up y 1 2 (nI (a + j))) 4 [some (.ref 1), some (.int (nI f)), some (.int v), some (.int (nI j)), w4] [] := by
    intro k
    induction k with
    | zero =>
      intro j v w4 hj hv
      have hj : j = f := by omega
      subst hj
      refine mj_ildn dX4_readNumber_4 rfl ?_
      refine mj_ildn dX4_readNumber_5 rfl ?_
      refine mj_ic_ge (tgt := 71) dX4_readNumber_6 rfl (fun h_6 => ?_) (fun h_6 => False.elim (by exact h_6 (nI_le (Nat.le_refl j) (by omega))))
      refine mj_ildn dX4_readNumber_71 rfl ?_
      refine mj_ret rfl dX4_readNumber_72 ?_
      exact hQ _ _ (by rw [← hv]; exact ⟨rfl, rfl⟩)
    | succ k ih =>
      intro j v w4 hj hv
      have hpk := c_peek R x len hlen hl (mj_up y 1 2 (nI (a + j))) (by rw [← hy1]; rfl) (by rw [← hy2]; rfl) (a + j) (by omega) rfl
      refine mj_ildn dX4_readNumber_4 rfl ?_
      refine mj_ildn dX4_readNumber_5 rfl ?_
      refine mj_ic_ge (tgt := 71) dX4_readNumber_6 rfl (fun h_6 => False.elim (by exact nl_lt (show j < f by omega) (by omega) h_6)) (fun h_6 => ?_)
      refine mj_aldn dX4_readNumber_9 rfl ?_
      refine mj_geti fkX4_27 dX4_readNumber_10 rfl rfl ?_
      refine mj_if_ne (tgt := 71) dX4_readNumber_13 rfl (fun h_13 => False.elim (by exact h_13 hw)) (fun h_13 => ?_)
      refine mj_aldn dX4_readNumber_16 rfl ?_
      refine mj_cvp (K := mX4_peek) (hpk) ckX4_peek lkX4_37 ⟨Nat.le_of_ble_eq_true rfl, Nat.le_of_ble_eq_true rfl⟩ rfl dX4_readNumber_17 rfl rfl (Nat.le_of_ble_eq_true rfl) ?_
      refine mj_ist4 dX4_readNumber_20 rfl ?_
      refine mj_ild dX4_readNumber_22 rfl ?_
      refine mj_bipush dX4_readNumber_24 nb_48 ?_
      refine mj_ic_lt (tgt := 36) dX4_readNumber_26 rfl (fun h_26 => ?_) (fun h_26 => ?_)
      · refine mj_aldn dX4_readNumber_36 rfl ?_
        refine mj_iconst dX4_readNumber_37 ni_1 ?_
        refine mj_puti fkX4_27 pkX4_4 dX4_readNumber_38 rfl rfl ?_
        refine mj_goto (tgt := 65) dX4_readNumber_41 rfl ?_
        refine mj_inc3 dX4_readNumber_65 ni_1 rfl ?_
        refine mj_goto (tgt := 4) dX4_readNumber_68 rfl ?_
        exact fail _ _ _ _ (by rw [← hv, tx_num, if_neg (by grind)])
      · refine mj_ild dX4_readNumber_29 rfl ?_
        refine mj_bipush dX4_readNumber_31 nb_57 ?_
        refine mj_ic_le (tgt := 44) dX4_readNumber_33 rfl (fun h_33 => ?_) (fun h_33 => ?_)
        · refine mj_ildn dX4_readNumber_44 rfl ?_
          refine mj_bipush dX4_readNumber_45 nb_10 ?_
          refine mj_imul dX4_readNumber_47 ?_
          refine mj_ild dX4_readNumber_48 rfl ?_
          refine mj_iadd dX4_readNumber_50 ?_
          refine mj_bipush dX4_readNumber_51 nb_48 ?_
          refine mj_isub dX4_readNumber_53 ?_
          refine mj_istn2 dX4_readNumber_54 rfl ?_
          refine mj_aldn dX4_readNumber_55 rfl ?_
          refine mj_dupr dX4_readNumber_56 ?_
          refine mj_geti fkX4_24 dX4_readNumber_57 rfl rfl ?_
          refine mj_iconst dX4_readNumber_60 ni_1 ?_
          refine mj_iadd dX4_readNumber_61 ?_
          refine mj_puti fkX4_24 pkX4_2 dX4_readNumber_62 rfl rfl ?_
          refine mj_inc3 dX4_readNumber_65 ni_1 rfl ?_
          refine mj_goto (tgt := 4) dX4_readNumber_68 rfl ?_
          have e1 : tx_num (tx_pk (x 2) len) k (a + (j + 1)) (v * 10 + tx_pk (x 2) len (a + j) - 48) = tx_num (tx_pk (x 2) len) f a 0 := by rw [← hv, tx_num, if_pos ⟨by grind, by grind⟩]; rfl
          refine mj_xl (ih (j + 1) _ (some (.int (tx_pk (x 2) len (a + j)))) (by omega) e1) ?_ ?_
          · rw [up_up]
            show mj_up y 1 2 (nI (a + j) + 1) = _
            rw [nI_1]
            rfl
          · rw [nI_1]
        · refine mj_aldn dX4_readNumber_36 rfl ?_
          refine mj_iconst dX4_readNumber_37 ni_1 ?_
          refine mj_puti fkX4_27 pkX4_4 dX4_readNumber_38 rfl rfl ?_
          refine mj_goto (tgt := 65) dX4_readNumber_41 rfl ?_
          refine mj_inc3 dX4_readNumber_65 ni_1 rfl ?_
          refine mj_goto (tgt := 4) dX4_readNumber_68 rfl ?_
          exact fail _ _ _ _ (by rw [← hv, tx_num, if_neg (by grind)])
  refine mj_iconst dX4_readNumber_0 ni_0 ?_
  refine mj_istn2 dX4_readNumber_1 rfl ?_
  refine mj_iconst dX4_readNumber_2 ni_0 ?_
  refine mj_istn3 dX4_readNumber_3 rfl ?_
  exact mj_xl (loop f 0 0 none (by omega) rfl) (by rw [Nat.add_zero]; exact (up_self hat).symm) rfl
