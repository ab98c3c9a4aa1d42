/-! undo, year -/
def ce_ok (x : mj_X) (i n : Nat) : Prop := (x 34 i = 0 ∧ 1 ≤ n) ∨ (x 34 i = 5 ∧ ∃ j, j < 6 ∧ x 35 i = nI j) ∨ ((x 34 i = 1 ∨ x 34 i = 2 ∨ x 34 i = 3 ∨ x 34 i = 4) ∧ ∃ j, j < n ∧ x 35 i = nI j)
def ud (x : mj_X) (i n : Nat) : mj_X := if x 34 i = 0 then mj_up (ch_dr x i) 11 12 (nI (n - 1)) else if x 34 i = 5 then mj_up (ch_dr x i) 4 (x 35 i).toNatClampNeg (x 36 i) else mj_up (ch_dr x i) (ev_tc (x 34 i)) (x 35 i).toNatClampNeg (x 36 i)
def ud_n (x : mj_X) (i n : Nat) : Nat := if x 34 i = 0 then n - 1 else n
theorem ch_dr_ne {x : mj_X} {i c : Nat} (h : c ≠ 33) : ch_dr x i c = x c := by unfold ch_dr; rw [up_ne h, up_ne h, up_ne h, up_ne h]
set_option maxHeartbeats 1000000 in
theorem p_undo0 (R : List mj_S) (x : mj_X) (hs : x 33 3 = nI 0) : mj_CP mX6_undo (shX ++ R) [.ref 0] x (-2) := by
  refine mj_startP (ls := [some (.ref 0), none]) (by decide) rfl rfl (fun Q hQ => ?_)
  refine mj_aldn dX6_undo_0 rfl ?_
  refine mj_getr fkX6_52 dX6_undo_1 rfl rfl ?_
  refine mj_cvp (K := mX1_dropLast) (c_chdrop0 R x hs) ckX1_dropLast lkX6_176 ⟨Nat.le_of_ble_eq_true rfl, Nat.le_of_ble_eq_true rfl⟩ rfl dX6_undo_4 rfl rfl (Nat.le_of_ble_eq_true rfl) ?_
  refine mj_if_ne (tgt := 13) dX6_undo_7 rfl (fun h_7 => False.elim (by exact h_7 rfl)) (fun h_7 => ?_)
  refine mj_bipush dX6_undo_10 nb_m2 ?_
  refine mj_ret rfl dX6_undo_12 ?_
  exact hQ
set_option maxHeartbeats 1000000 in
theorem p_undo (R : List mj_S) (x : mj_X) (n nb s k : Nat) (hw : CW x n nb (s + 1) k) (hce : ce_ok x s n) : mj_CI mX6_undo (shX ++ R) [.ref 0] x (fun z y => z = nI s ∧ y = rc_it (ud x s n) (ud_n x s n)) := by
  obtain ⟨hn, hn40, hb, hb80, hs, hs6, hk, hk6, hk1, hsf, hcd⟩ := hw
  refine mj_startI (ls := [some (.ref 0), none]) (by decide) rfl rfl (fun Q hQ => ?_)
  have fin : ∀ (w : mj_X) (a : Int32) (n2 : Nat), w = ud x s n → n2 = ud_n x s n → n2 ≤ n → w 11 12 = nI n2 → (∀ c, c = 3 ∨ c = 14 ∨ c = 16 → w c = x c) → w 33 3 = nI s → mj_V mX6_undo (shX ++ R) Q w 87 [some (.ref 0), some (.int a)] [] := by
    intro w a n2 hw1 hn2 hle h11 hfr h33
    refine mj_aldn dX6_undo_87 rfl ?_
    refine mj_getr fkX6_45 dX6_undo_88 rfl rfl ?_
    refine mj_cvv (K := mX3_reckonAll) (c_rall R w n2 (by omega) h11 (fun e he => cd_fr (hfr 3 (by simp)) (hfr 14 (by simp)) (hfr 16 (by simp)) (hcd e (by omega)))) ckX3_reckonAll lkX6_101 ⟨Nat.le_of_ble_eq_true rfl, Nat.le_of_ble_eq_true rfl⟩ rfl dX6_undo_91 rfl rfl (Nat.le_of_ble_eq_true rfl) (fun x_91 q_91 => ?_)
    refine mj_aldn dX6_undo_94 rfl ?_
    refine mj_getr fkX6_52 dX6_undo_95 rfl rfl ?_
    refine mj_geti fkX6_97 dX6_undo_98 rfl rfl ?_
    refine mj_ret rfl dX6_undo_101 ?_
    have e33 : x_91 33 3 = nI s := by rw [q_91, fr_it (Or.inr (by decide))]; exact h33
    rw [e33]; exact hQ _ _ ⟨rfl, by rw [q_91, hw1, hn2]⟩
  refine mj_aldn dX6_undo_0 rfl ?_
  refine mj_getr fkX6_52 dX6_undo_1 rfl rfl ?_
  refine mj_cvi (K := mX1_dropLast) (c_chdrop R x s (by omega) hs) ckX1_dropLast lkX6_176 ⟨Nat.le_of_ble_eq_true rfl, Nat.le_of_ble_eq_true rfl⟩ rfl dX6_undo_4 rfl rfl (Nat.le_of_ble_eq_true rfl) (fun z_4 x_4 q_4 => ?_)
  obtain ⟨rfl, rfl⟩ := q_4
  refine mj_if_ne (tgt := 13) dX6_undo_7 rfl (fun h_7 => ?_) (fun h_7 => False.elim (by exact absurd h_7 (by decide)))
  refine mj_aldn dX6_undo_13 rfl ?_
  refine mj_getr fkX6_52 dX6_undo_14 rfl rfl ?_
  refine mj_geti fkX6_180 dX6_undo_17 rfl rfl ?_
  refine mj_istn1 dX6_undo_20 rfl ?_
  have d4 : ch_dr x s 33 4 = x 34 s := rfl
  rw [d4]
  rcases hce with ⟨h0, hn1⟩ | ⟨h0, j, hj, hwh⟩ | ⟨h0, j, hj, hwh⟩
  · rw [h0]
    refine mj_ildn dX6_undo_21 rfl ?_
    refine mj_if_ne (tgt := 35) dX6_undo_22 rfl (fun h_22 => False.elim (by exact h_22 rfl)) (fun h_22 => ?_)
    refine mj_aldn dX6_undo_25 rfl ?_
    refine mj_getr fkX6_29 dX6_undo_26 rfl rfl ?_
    refine mj_cvv (K := mX2_dropLast) (c_evdrop R (ch_dr x s) (n - 1) (by omega) (by rw [ch_dr_ne (by decide), hn, show n - 1 + 1 = n by omega])) ckX2_dropLast lkX6_183 ⟨Nat.le_of_ble_eq_true rfl, Nat.le_of_ble_eq_true rfl⟩ rfl dX6_undo_29 rfl rfl (Nat.le_of_ble_eq_true rfl) (fun x_29 q_29 => ?_)
    refine mj_goto (tgt := 87) dX6_undo_32 rfl ?_
    exact fin _ _ (n - 1) (by rw [q_29]; unfold ud; rw [if_pos h0]) (by unfold ud_n; rw [if_pos h0]) (by omega) (by rw [q_29, up_eq, upd_eq]) (fun c hc => by rw [q_29, up_ne (by omega), ch_dr_ne (by omega)]) (by rw [q_29]; rfl)
  · rw [h0]
    refine mj_ildn dX6_undo_21 rfl ?_
    refine mj_if_ne (tgt := 35) dX6_undo_22 rfl (fun h_22 => ?_) (fun h_22 => False.elim (by exact absurd h_22 (by decide)))
    refine mj_ildn dX6_undo_35 rfl ?_
    refine mj_iconst dX6_undo_36 ni_5 ?_
    refine mj_ic_ne (tgt := 64) dX6_undo_37 rfl (fun h_37 => False.elim (by exact h_37 rfl)) (fun h_37 => ?_)
    refine mj_aldn dX6_undo_40 rfl ?_
    refine mj_getr fkX6_19 dX6_undo_41 rfl rfl ?_
    refine mj_aldn dX6_undo_44 rfl ?_
    refine mj_getr fkX6_52 dX6_undo_45 rfl rfl ?_
    refine mj_geti fkX6_185 dX6_undo_48 rfl rfl ?_
    refine mj_aldn dX6_undo_51 rfl ?_
    refine mj_getr fkX6_52 dX6_undo_52 rfl rfl ?_
    refine mj_geti fkX6_188 dX6_undo_55 rfl rfl ?_
    refine mj_ss (st' := [.int (x 36 s), .int (nI j), .ref 3]) ?_ (by rw [← hwh]; rfl)
    refine mj_cvv (K := mX5_put) (c_put _ 3 (ru_sh3 R) (ch_dr x s) j hj (x 36 s)) ckX5_put lkX6_112 ⟨Nat.le_of_ble_eq_true rfl, Nat.le_of_ble_eq_true rfl⟩ rfl dX6_undo_58 rfl rfl (Nat.le_of_ble_eq_true rfl) (fun x_58 q_58 => ?_)
    refine mj_goto (tgt := 87) dX6_undo_61 rfl ?_
    exact fin _ _ n (by rw [q_58]; unfold ud; rw [if_neg (by rw [h0]; decide), if_pos h0, hwh, nI_clamp (by omega)]) (by unfold ud_n; rw [if_neg (by rw [h0]; decide)]) (by omega) (by rw [q_58, up_ne (by decide), ch_dr_ne (by decide)]; exact hn) (fun c hc => by rw [q_58, up_ne (by omega), ch_dr_ne (by omega)]) (by rw [q_58]; rfl)
  · have hch := h0
    have hn0 : ¬ x 34 s = 0 := by rcases h0 with h | h | h | h <;> rw [h] <;> decide
    have hn5 : ¬ x 34 s = 5 := by rcases h0 with h | h | h | h <;> rw [h] <;> decide
    have tc : ev_tc (x 34 s) = 19 ∨ ev_tc (x 34 s) = 17 ∨ ev_tc (x 34 s) = 15 ∨ ev_tc (x 34 s) = 18 := by rcases h0 with h | h | h | h <;> rw [h] <;> decide
    refine mj_ildn dX6_undo_21 rfl ?_
    refine mj_if_ne (tgt := 35) dX6_undo_22 rfl (fun h_22 => ?_) (fun h_22 => False.elim (by exact hn0 h_22))
    refine mj_ildn dX6_undo_35 rfl ?_
    refine mj_iconst dX6_undo_36 ni_5 ?_
    refine mj_ic_ne (tgt := 64) dX6_undo_37 rfl (fun h_37 => ?_) (fun h_37 => False.elim (by exact hn5 h_37))
    refine mj_aldn dX6_undo_64 rfl ?_
    refine mj_getr fkX6_29 dX6_undo_65 rfl rfl ?_
    refine mj_ildn dX6_undo_68 rfl ?_
    refine mj_aldn dX6_undo_69 rfl ?_
    refine mj_getr fkX6_52 dX6_undo_70 rfl rfl ?_
    refine mj_geti fkX6_185 dX6_undo_73 rfl rfl ?_
    refine mj_aldn dX6_undo_76 rfl ?_
    refine mj_getr fkX6_52 dX6_undo_77 rfl rfl ?_
    refine mj_geti fkX6_188 dX6_undo_80 rfl rfl ?_
    refine mj_ss (st' := [.int (x 36 s), .int (nI j), .int (x 34 s), .ref 11]) ?_ (by rw [← hwh]; rfl)
    refine mj_cvi (K := mX2_tell) (c_evtell R (ch_dr x s) n (by omega) (by rw [ch_dr_ne (by decide)]; exact hn) j hj (x 34 s) (x 36 s) hch) ckX2_tell lkX6_191 ⟨Nat.le_of_ble_eq_true rfl, Nat.le_of_ble_eq_true rfl⟩ rfl dX6_undo_83 rfl rfl (Nat.le_of_ble_eq_true rfl) (fun z_83 x_83 q_83 => ?_)
    refine mj_popi dX6_undo_86 ?_
    exact fin _ _ n (by rw [q_83.2]; unfold ud; rw [if_neg hn0, if_neg hn5, hwh, nI_clamp (by omega)]) (by unfold ud_n; rw [if_neg hn0]) (by omega) (by rw [q_83.2, up_ne (by omega), ch_dr_ne (by decide)]; exact hn) (fun c hc => by rw [q_83.2, up_ne (by omega), ch_dr_ne (by omega)]) (by rw [q_83.2, up_ne (by omega)]; rfl)
theorem nI_min {a b : Nat} (ha : a < 2 ^ 31) (hb : b < 2 ^ 31) : (if nI b < nI a then nI b else nI a) = nI (min a b) := by
  by_cases h : b < a
  · rw [if_pos ((nI_ltI hb ha).mpr h), Nat.min_eq_right (by omega)]
  · rw [if_neg (fun q => h ((nI_ltI hb ha).mp q)), Nat.min_eq_left (by omega)]
theorem nI_msub {a b : Nat} (ha : a < 2 ^ 30) (hb : b < 2 ^ 30) : (if 0 < nI a - nI b then nI a - nI b else 0) = nI (a - b) := by
  have e := pk_sub_toInt ha hb
  by_cases h : b < a
  · rw [if_pos (by rw [Int32.lt_iff_toInt_lt, e, tl_0]; omega), pk_sub (by omega)]
  · rw [if_neg (by rw [Int32.lt_iff_toInt_lt, e, tl_0]; omega), show a - b = 0 by omega]; rfl
def lt_t (t w : Nat) : Nat := min 9999 (t + w % 16)
def lt_o (t w : Nat) : Nat := lt_t t w - w / 256 % 32
def lt_x (x : mj_X) (n k t w : Nat) : mj_X := ev_addC (mj_up x 0 7 (nI (lt_t t w))) n (nI (w / 16 % 4)) (nI (lt_t t w)) (nI (lt_o t w)) (nI (w / 64 % k)) (x 5 (w / 64 % k)) 0
set_option maxHeartbeats 1000000 in
theorem c_live (R : List mj_S) (x : mj_X) (n nb s k : Nat) (hw : CW x n nb s k) (t : Nat) (ht : t ≤ 9999) (hx : x 0 7 = nI t) (w : Nat) (hw2 : w < 65521) : mj_CV mX6_liveThrough (shX ++ R) [.ref 0, .int (nI w)] x (fun y => if n = 40 then y = mj_up x 0 7 (nI (lt_t t w)) else came (lt_x x n k t w) y s n) := by
  obtain ⟨hn, hn40, hb, hb80, hs, hs6, hk, hk6, hk1, hsf, hcd⟩ := hw
  refine mj_startV (ls := [some (.ref 0), some (.int (nI w)), none, none]) (by decide) rfl rfl (fun Q hQ => ?_)
  have r16 : nI w - nI w / 16 * 16 = nI (w % 16) := pk_rem (d := 16) (by omega) (by decide) (by decide)
  have emin : (if x 0 7 + nI (w % 16) < 9999 then x 0 7 + nI (w % 16) else 9999) = nI (lt_t t w) := by
    rw [hx, nI_add]
    exact nI_min (a := 9999) (b := t + w % 16) (by decide) (by omega)
  have hlt : lt_t t w ≤ 9999 := by unfold lt_t; omega
  have d64 : nI w / 64 = nI (w / 64) := pk_div (d := 64) (by omega) (by decide) (by decide)
  have d256 : nI w / 256 = nI (w / 256) := pk_div (d := 256) (by omega) (by decide) (by decide)
  have d16 : nI w / 16 = nI (w / 16) := pk_div (d := 16) (by omega) (by decide) (by decide)
  have rk : nI (w / 64) - nI (w / 64) / nI k * nI k = nI (w / 64 % k) := pk_rem (by omega) (by omega) (by omega)
  have r32 : nI (w / 256) - nI (w / 256) / 32 * 32 = nI (w / 256 % 32) := pk_rem (d := 32) (by omega) (by decide) (by decide)
  have r4 : nI (w / 16) - nI (w / 16) / 4 * 4 = nI (w / 16 % 4) := pk_rem (d := 4) (by omega) (by decide) (by decide)
  have hj : w / 64 % k < k := Nat.mod_lt _ (by omega)
  have eo : (if 0 < nI (lt_t t w) - nI (w / 256 % 32) then nI (lt_t t w) - nI (w / 256 % 32) else 0) = nI (lt_o t w) := nI_msub (by omega) (by omega)
  have hk' : ∀ v, mj_up x 0 7 v 3 3 = nI k := fun v => hk
  have ht' : ∀ v, mj_up x 0 7 v 0 7 = v := fun v => by rw [up_eq, upd_eq]
  refine mj_aldn dX6_liveThrough_0 rfl ?_
  refine mj_sipush dX6_liveThrough_1 ns_9999 ?_
  refine mj_aldn dX6_liveThrough_4 rfl ?_
  refine mj_geti fkX6_98 dX6_liveThrough_5 rfl rfl ?_
  refine mj_ildn dX6_liveThrough_8 rfl ?_
  refine mj_bipush dX6_liveThrough_9 nb_16 ?_
  refine mj_irem dX6_liveThrough_11 (by decide) ?_
  rw [r16]
  refine mj_iadd dX6_liveThrough_12 ?_
  refine mj_mn lkX6_249 (Nat.le_of_ble_eq_true rfl) (Nat.le_of_ble_eq_true rfl) (Nat.le_of_ble_eq_true rfl) dX6_liveThrough_13 ?_
  rw [emin]
  refine mj_puti fkX6_98 pkX6_7 dX6_liveThrough_16 rfl rfl ?_
  refine mj_aldn dX6_liveThrough_19 rfl ?_
  refine mj_getr fkX6_29 dX6_liveThrough_20 rfl rfl ?_
  refine mj_geti fkX6_94 dX6_liveThrough_23 rfl rfl ?_
  refine mj_bipush dX6_liveThrough_26 nb_40 ?_
  refine mj_ic_ge (tgt := 42) dX6_liveThrough_28 rfl (fun h_28 => ?_) (fun h_28 => ?_)
  · have h40 : n = 40 := by have h := h_28; rw [show mj_up x 0 7 (nI (lt_t t w)) 11 12 = nI n from hn] at h; have := (nI_leI (a := 40) (b := n) (by decide) (by omega)).mp h; omega
    refine mj_retv rfl dX6_liveThrough_42 ?_
    exact hQ _ (by rw [if_pos h40])
  · have h40 : ¬ n = 40 := by intro h; subst h; exact h_28 (by rw [show mj_up x 0 7 (nI (lt_t t w)) 11 12 = nI 40 from hn]; decide)
    refine mj_aldn dX6_liveThrough_31 rfl ?_
    refine mj_getr fkX6_19 dX6_liveThrough_32 rfl rfl ?_
    refine mj_geti fkX6_88 dX6_liveThrough_35 rfl rfl ?_
    refine mj_iconst dX6_liveThrough_38 ni_1 ?_
    refine mj_ic_ge (tgt := 43) dX6_liveThrough_39 rfl (fun h_39 => ?_) (fun h_39 => False.elim (by exact h_39 (by rw [hk']; exact nI_le (a := 1) (b := k) (by omega) (by omega))))
    refine mj_ildn dX6_liveThrough_43 rfl ?_
    refine mj_bipush dX6_liveThrough_44 nb_64 ?_
    refine mj_idiv dX6_liveThrough_46 (by decide) ?_
    rw [d64]
    refine mj_aldn dX6_liveThrough_47 rfl ?_
    refine mj_getr fkX6_19 dX6_liveThrough_48 rfl rfl ?_
    refine mj_geti fkX6_88 dX6_liveThrough_51 rfl rfl ?_
    refine mj_irem dX6_liveThrough_54 (by rw [hk']; exact nI_ne0 (by omega) (by omega)) ?_
    rw [hk', rk]
    refine mj_istn2 dX6_liveThrough_55 rfl ?_
    refine mj_iconst dX6_liveThrough_56 ni_0 ?_
    refine mj_aldn dX6_liveThrough_57 rfl ?_
    refine mj_geti fkX6_98 dX6_liveThrough_58 rfl rfl ?_
    rw [ht']
    refine mj_ildn dX6_liveThrough_61 rfl ?_
    refine mj_sipush dX6_liveThrough_62 ns_256 ?_
    refine mj_idiv dX6_liveThrough_65 (by decide) ?_
    rw [d256]
    refine mj_bipush dX6_liveThrough_66 nb_32 ?_
    refine mj_irem dX6_liveThrough_68 (by decide) ?_
    rw [r32]
    refine mj_isub dX6_liveThrough_69 ?_
    refine mj_mx lkX6_213 (Nat.le_of_ble_eq_true rfl) (Nat.le_of_ble_eq_true rfl) (Nat.le_of_ble_eq_true rfl) dX6_liveThrough_70 ?_
    rw [eo]
    refine mj_istn3 dX6_liveThrough_73 rfl ?_
    refine mj_aldn dX6_liveThrough_74 rfl ?_
    refine mj_getr fkX6_29 dX6_liveThrough_75 rfl rfl ?_
    refine mj_ildn dX6_liveThrough_78 rfl ?_
    refine mj_bipush dX6_liveThrough_79 nb_16 ?_
    refine mj_idiv dX6_liveThrough_81 (by decide) ?_
    rw [d16]
    refine mj_iconst dX6_liveThrough_82 ni_4 ?_
    refine mj_irem dX6_liveThrough_83 (by decide) ?_
    rw [r4]
    refine mj_aldn dX6_liveThrough_84 rfl ?_
    refine mj_geti fkX6_98 dX6_liveThrough_85 rfl rfl ?_
    rw [ht']
    refine mj_ildn dX6_liveThrough_88 rfl ?_
    refine mj_ildn dX6_liveThrough_89 rfl ?_
    refine mj_aldn dX6_liveThrough_90 rfl ?_
    refine mj_getr fkX6_19 dX6_liveThrough_91 rfl rfl ?_
    refine mj_ildn dX6_liveThrough_94 rfl ?_
    refine mj_cvp (K := mX5_pointsOf) (c_pts _ 3 (ru_sh3 R) (mj_up x 0 7 (nI (lt_t t w))) k hk6 hk (w / 64 % k) hj) ckX5_pointsOf lkX6_123 ⟨Nat.le_of_ble_eq_true rfl, Nat.le_of_ble_eq_true rfl⟩ rfl dX6_liveThrough_95 rfl rfl (Nat.le_of_ble_eq_true rfl) ?_
    refine mj_iconst dX6_liveThrough_98 ni_0 ?_
    refine mj_cvv (K := mX2_addConviction) (c_addC R (mj_up x 0 7 (nI (lt_t t w))) n (by omega) hn (nI (w / 16 % 4)) (nI (lt_t t w)) (nI (lt_o t w)) (nI (w / 64 % k)) (x 5 (w / 64 % k)) 0) ckX2_addConviction lkX6_133 ⟨Nat.le_of_ble_eq_true rfl, Nat.le_of_ble_eq_true rfl⟩ rfl dX6_liveThrough_99 rfl rfl (Nat.le_of_ble_eq_true rfl) (fun x_99 q_99 => ?_)
    have q_99 : x_99 = lt_x x n k t w := q_99
    subst q_99
    refine mj_aldn dX6_liveThrough_102 rfl ?_
    refine mj_cvi (K := mX6_noteNewEvent) (c_nne R (lt_x x n k t w) n nb s rfl (by omega) hb (by omega) hs hs6 hsf ⟨w / 64 % k, k, hk6, hk, hj, fun _ => by unfold lt_x ev_addC; simp [up_at]⟩) ckX6_noteNewEvent lkX6_137 ⟨Nat.le_of_ble_eq_true rfl, Nat.le_of_ble_eq_true rfl⟩ rfl dX6_liveThrough_103 rfl rfl (Nat.le_of_ble_eq_true rfl) (fun z_103 x_103 q_103 => ?_)
    refine mj_popi dX6_liveThrough_106 ?_
    refine mj_retv rfl dX6_liveThrough_107 ?_
    exact hQ _ (by rw [if_neg h40]; exact q_103.2)
def yr_w (z i : Nat) : Nat := (7919 * z + 6151 * i + 1) * (7919 * z + 6151 * i + 1) % 65521
theorem yr_lt (z i : Nat) : yr_w z i < 65521 := Nat.mod_lt _ (by decide)
theorem yr_bd {z i : Nat} (hz : z ≤ 9999) (hi : i < 20) : (7919 * z + 6151 * i + 1) * (7919 * z + 6151 * i + 1) < 2 ^ 63 := by
  have h : 7919 * z + 6151 * i + 1 ≤ 79299052 := by omega
  calc (7919 * z + 6151 * i + 1) * (7919 * z + 6151 * i + 1) ≤ 79299052 * 79299052 := Nat.mul_le_mul h h
    _ < 2 ^ 63 := by decide
set_option maxHeartbeats 1000000 in
theorem c_year (sh : List mj_S) (hsh0 : sh[0]? = some (.inl (6, [some 1, some 3, some 7, some 11, some 24, some 32, some 33, none]))) (hsh11 : sh[11]? = some (.inl (2, [some 12, some 13, some 14, some 15, some 16, some 17, some 18, some 19, some 20, some 21, some 22, some 23, none]))) (x : mj_X) (I : Nat → mj_X → Prop) (z m : Nat) (hz : z ≤ 9999) (hm : m ≤ 20) (h0 : I 0 x) (hst : ∀ i y, i < m → I i y → mj_CV mX6_liveThrough sh [.ref 0, .int (nI (yr_w z i))] y (fun y2 => I (i + 1) y2)) (hm1 : 1 ≤ m) : mj_CI mX6_year sh [.ref 0, .int (nI z), .int (nI m)] x (fun r y => I m y ∧ r = y 11 12 - x 11 12) := by
  refine mj_startI (ls := [some (.ref 0), some (.int (nI z)), some (.int (nI m)), none, none, none, none]) (by decide) rfl rfl (fun Q hQ => ?_)
  have loop : ∀ (k j : Nat) (y : mj_X) (w5 : Option Value), j ≤ m → m < j + k → I j y → mj_V mX6_year sh Q y 35 [some (.ref 0), some (.int (nI z)), some (.int (nI m)), some (.int (x 11 12)), some (.int (nI j)), w5, none] [] := by
    intro k
    induction k with
    | zero => intro j y w5 h1 h2; omega
    | succ k ih =>
      intro j y w5 h1 h2 hy
      refine mj_ild dX6_year_35 rfl ?_
      refine mj_ildn dX6_year_37 rfl ?_
      refine mj_ic_ge (tgt := 79) dX6_year_38 rfl (fun h_38 => ?_) (fun h_38 => ?_)
      · have hj : j = m := by rw [nI_leI (by omega) (by omega)] at h_38; omega
        subst hj
        refine mj_aldn dX6_year_79 rfl ?_
        refine mj_getr fkX6_29 dX6_year_80 hsh0 rfl ?_
        refine mj_geti fkX6_94 dX6_year_83 hsh11 rfl ?_
        refine mj_ildn dX6_year_86 rfl ?_
        refine mj_isub dX6_year_87 ?_
        refine mj_ret rfl dX6_year_88 ?_
        exact hQ _ _ ⟨hy, rfl⟩
      · have hlt : j < m := by rw [nI_leI (by omega) (by omega)] at h_38; omega
        have e1 : (7919 : Int64) * (nI z).toInt64 = lN (7919 * z) := by rw [nI_l (by omega)]; exact lN_mul 7919 z
        have e2 : (6151 : Int64) * (nI j).toInt64 = lN (6151 * j) := by rw [nI_l (by omega)]; exact lN_mul 6151 j
        have hb := yr_bd hz (show j < 20 by omega)
        have e3 : lN (7919 * z + 6151 * j + 1) * lN (7919 * z + 6151 * j + 1) - lN (7919 * z + 6151 * j + 1) * lN (7919 * z + 6151 * j + 1) / 65521 * 65521 = lN (yr_w z j) := by rw [lN_mul]; exact pk_lRem (b := 65521) hb (by decide) (by decide)
        refine mj_ldc2 kkX6_194 dX6_year_41 ?_
        refine mj_ildn dX6_year_44 rfl ?_
        refine mj_i2l dX6_year_45 ?_
        refine mj_lmul dX6_year_46 ?_
        rw [e1]
        refine mj_ldc2 kkX6_196 dX6_year_47 ?_
        refine mj_ild dX6_year_50 rfl ?_
        refine mj_i2l dX6_year_52 ?_
        refine mj_lmul dX6_year_53 ?_
        rw [e2]
        refine mj_ladd dX6_year_54 ?_
        rw [lN_add]
        refine mj_lconst dX6_year_55 nl_1 ?_
        refine mj_ladd dX6_year_56 ?_
        rw [show lN (7919 * z + 6151 * j) + 1 = lN (7919 * z + 6151 * j + 1) from lN_add _ 1]
        refine mj_lst dX6_year_57 (by simp) (fun j hj => by cases hj; rfl) ?_
        refine mj_ls (ls' := [some (.ref 0), some (.int (nI z)), some (.int (nI m)), some (.int (x 11 12)), some (.int (nI j)), some (.long (lN (7919 * z + 6151 * j + 1))), none]) ?_ rfl
        refine mj_aldn dX6_year_59 rfl ?_
        refine mj_lld dX6_year_60 rfl ?_
        refine mj_lld dX6_year_62 rfl ?_
        refine mj_lmul dX6_year_64 ?_
        refine mj_ldc2 kkX6_198 dX6_year_65 ?_
        refine mj_lrem dX6_year_68 (by decide) ?_
        rw [e3]
        refine mj_l2i dX6_year_69 ?_
        rw [lN_i]
        refine mj_cvv (K := mX6_liveThrough) (hst j y hlt hy) ckX6_liveThrough lkX6_200 ⟨Nat.le_of_ble_eq_true rfl, Nat.le_of_ble_eq_true rfl⟩ rfl dX6_year_70 hsh0 rfl (Nat.le_of_ble_eq_true rfl) (fun x_70 q_70 => ?_)
        refine mj_inc4 dX6_year_73 ni_1 rfl ?_
        refine mj_goto (tgt := 35) dX6_year_76 rfl ?_
        exact mj_ls (ih (j + 1) x_70 _ (by omega) (by omega) q_70) (by rw [nI_1])
  refine mj_ildn dX6_year_0 rfl ?_
  refine mj_if_lt (tgt := 22) dX6_year_1 rfl (fun h_1 => False.elim (by exact nI_pos (by omega) h_1)) (fun h_1 => ?_)
  refine mj_ildn dX6_year_4 rfl ?_
  refine mj_sipush dX6_year_5 ns_9999 ?_
  refine mj_ic_gt (tgt := 22) dX6_year_8 rfl (fun h_8 => False.elim (by exact absurd h_8 (nI_nlt (a := 9999) (b := z) (by omega) (by omega)))) (fun h_8 => ?_)
  refine mj_ildn dX6_year_11 rfl ?_
  refine mj_iconst dX6_year_12 ni_1 ?_
  refine mj_ic_lt (tgt := 22) dX6_year_13 rfl (fun h_13 => False.elim (by exact absurd h_13 (nI_nlt (a := m) (b := 1) (by omega) (by omega)))) (fun h_13 => ?_)
  refine mj_ildn dX6_year_16 rfl ?_
  refine mj_bipush dX6_year_17 nb_20 ?_
  refine mj_ic_le (tgt := 24) dX6_year_19 rfl (fun h_19 => ?_) (fun h_19 => False.elim (by exact h_19 (nI_le (a := m) (b := 20) (by omega) (by decide))))
  refine mj_aldn dX6_year_24 rfl ?_
  refine mj_getr fkX6_29 dX6_year_25 hsh0 rfl ?_
  refine mj_geti fkX6_94 dX6_year_28 hsh11 rfl ?_
  refine mj_istn3 dX6_year_31 rfl ?_
  refine mj_iconst dX6_year_32 ni_0 ?_
  refine mj_ist4 dX6_year_33 rfl ?_
  exact loop (m + 1) 0 x _ (by omega) (by omega) h0
set_option maxHeartbeats 1000000 in
theorem c_yearB (sh : List mj_S) (x : mj_X) (z m : Int32) (hb : ¬ (0 ≤ z ∧ z ≤ 9999 ∧ 1 ≤ m ∧ m ≤ 20)) : mj_CP mX6_year sh [.ref 0, .int z, .int m] x (-1) := by
  refine mj_startP (ls := [some (.ref 0), some (.int z), some (.int m), none, none, none, none]) (by decide) rfl rfl (fun Q hQ => ?_)
  refine mj_ildn dX6_year_0 rfl ?_
  refine mj_if_lt (tgt := 22) dX6_year_1 rfl (fun h_1 => ?_) (fun h_1 => ?_)
  · refine mj_iconst dX6_year_22 ni_m1 ?_
    refine mj_ret rfl dX6_year_23 ?_
    exact hQ
  · refine mj_ildn dX6_year_4 rfl ?_
    refine mj_sipush dX6_year_5 ns_9999 ?_
    refine mj_ic_gt (tgt := 22) dX6_year_8 rfl (fun h_8 => ?_) (fun h_8 => ?_)
    · refine mj_iconst dX6_year_22 ni_m1 ?_
      refine mj_ret rfl dX6_year_23 ?_
      exact hQ
    · refine mj_ildn dX6_year_11 rfl ?_
      refine mj_iconst dX6_year_12 ni_1 ?_
      refine mj_ic_lt (tgt := 22) dX6_year_13 rfl (fun h_13 => ?_) (fun h_13 => ?_)
      · refine mj_iconst dX6_year_22 ni_m1 ?_
        refine mj_ret rfl dX6_year_23 ?_
        exact hQ
      · refine mj_ildn dX6_year_16 rfl ?_
        refine mj_bipush dX6_year_17 nb_20 ?_
        refine mj_ic_le (tgt := 24) dX6_year_19 rfl (fun h_19 => False.elim (by exact hb (by grind))) (fun h_19 => ?_)
        refine mj_iconst dX6_year_22 ni_m1 ?_
        refine mj_ret rfl dX6_year_23 ?_
        exact hQ
