/-! what reckoning leaves as it was: cells 20 to 32 alone are another -/
def fr_k (k : Nat) : Prop := k < 20 ∨ 32 < k
theorem fr_clear {x : mj_X} {e k : Nat} (h : fr_k k) : ev_clear x e k = x k := by
  unfold fr_k at h; unfold ev_clear; rw [up_ne (by omega), up_ne (by omega), up_ne (by omega), up_ne (by omega)]
theorem fr_badd {x : mj_X} {n k : Nat} {d f m e t g : Int32} (h : fr_k k) : bn_add x n d f m e t g k = x k := by
  unfold fr_k at h; unfold bn_add
  rw [up_ne (by omega), up_ne (by omega), up_ne (by omega), up_ne (by omega), up_ne (by omega), up_ne (by omega), up_ne (by omega), up_ne (by omega)]
theorem fr_short {x : mj_X} {j k : Nat} {t : Int32} (h : fr_k k) : bn_short x j t k = x k := by
  unfold fr_k at h; unfold bn_short; rw [up_ne (by omega), up_ne (by omega)]
theorem fr_spend {x : mj_X} {d : Int32} {u k : Nat} (h : fr_k k) : ev_spend x d u k = x k := by
  unfold fr_k at h; unfold ev_spend; rw [if_neg (by omega), if_neg (by omega)]
theorem spend_ne {x : mj_X} {d : Int32} {u k : Nat} (h1 : k ≠ 21) (h2 : k ≠ 23) : ev_spend x d u k = x k := by unfold ev_spend; rw [if_neg h1, if_neg h2]
theorem fr_c1 {x : mj_X} {e k : Nat} (h : fr_k k) : rc_c1 x e k = x k := by
  unfold fr_k at h; unfold rc_c1; rw [up_ne (by omega), up_ne (by omega)]
theorem fr_c2 {x : mj_X} {e k : Nat} (h : fr_k k) : rc_c2 x e k = x k := by
  unfold rc_c2; split
  · rw [fr_badd h, fr_c1 h]
  · exact fr_c1 h
theorem fr_great {x : mj_X} {d t : Int32} {e sf k : Nat} (h : fr_k k) : rc_great x d e sf t k = x k := by
  unfold rc_great; rw [fr_spend h, fr_badd h]
theorem fr_conv {x : mj_X} {e k : Nat} (h : fr_k k) : rc_conv x e k = x k := by
  unfold rc_conv; split
  · rw [fr_great h, fr_c2 h]
  · exact fr_c2 h
theorem fr_long {x : mj_X} {e k : Nat} (h : fr_k k) : rc_long x e k = x k := by
  unfold rc_long; split
  · unfold fr_k at h; rw [up_ne (by omega)]
  · exact fr_short h
theorem fr_up32 {x : mj_X} {k : Nat} {v : Int32} (h : fr_k k) : mj_up x 32 3 v k = x k := by unfold fr_k at h; rw [up_ne (by omega)]
theorem fr_next {x : mj_X} {e k : Nat} (h : fr_k k) : rc_next x e k = x k := by
  unfold rc_next; split
  · rw [fr_long h, fr_clear h, fr_up32 h]
  · split
    · rw [fr_conv h, fr_clear h, fr_up32 h]
    · rw [fr_clear h, fr_up32 h]
theorem fr_it {x : mj_X} {k : Nat} (h : fr_k k) : ∀ e, rc_it x e k = x k
  | 0 => by unfold fr_k at h; unfold rc_it; rw [up_ne (by omega), up_ne (by omega)]
  | e + 1 => by rw [rc_it, fr_next h, fr_it h e]
/-! the counters -/
theorem nb_badd {x : mj_X} {n : Nat} {d f m e t g : Int32} : bn_add x n d f m e t g 24 7 = nI (n + 1) := by unfold bn_add; rw [up_eq, upd_eq]
theorem nb_c2 {x : mj_X} {e nb : Nat} (hb : nb ≤ 82) (h : x 24 7 = nI nb) : ∃ m, m ≤ nb + 1 ∧ nb ≤ m ∧ rc_c2 x e 24 7 = nI m := by
  unfold rc_c2; split
  · exact ⟨nb + 1, by omega, by omega, by rw [nb_badd, bnN_eq hb h]⟩
  · exact ⟨nb, by omega, by omega, h⟩
theorem nb_conv {x : mj_X} {e nb : Nat} (hb : nb < 82) (h : x 24 7 = nI nb) : ∃ m, m ≤ nb + 2 ∧ nb ≤ m ∧ rc_conv x e 24 7 = nI m := by
  obtain ⟨m, h1, h3, h2⟩ := nb_c2 (e := e) (by omega) h
  unfold rc_conv; split
  · refine ⟨m + 1, by omega, by omega, ?_⟩
    unfold rc_great
    rw [spend_ne (by decide) (by decide), nb_badd, bnN_eq (by omega) h2]
  · exact ⟨m, by omega, h3, h2⟩
theorem nb_long {x : mj_X} {e nb : Nat} (h : x 24 7 = nI nb) : rc_long x e 24 7 = nI nb := by
  unfold rc_long; split
  · exact h
  · exact h
theorem nb_next {x : mj_X} {e nb : Nat} (hb : nb < 82) (h : x 24 7 = nI nb) : ∃ m, m ≤ nb + 2 ∧ nb ≤ m ∧ rc_next x e 24 7 = nI m := by
  have h0 : ev_clear (mj_up x 32 3 (nI (e + 1))) e 24 7 = nI nb := h
  unfold rc_next; split
  · exact ⟨nb, by omega, by omega, nb_long h0⟩
  · split
    · exact nb_conv hb h0
    · exact ⟨nb, by omega, by omega, h0⟩
theorem sf_c2 {x : mj_X} {e : Nat} : rc_c2 x e 32 3 = x 32 3 := by unfold rc_c2; split <;> rfl
theorem sf_next {x : mj_X} {e : Nat} : rc_next x e 32 3 = nI (e + 1) := by
  unfold rc_next; split
  · unfold rc_long; split <;> rfl
  · split
    · unfold rc_conv; split
      · unfold rc_great
        show rc_c2 _ e 32 3 = _
        rw [sf_c2]; rfl
      · rw [sf_c2]; rfl
    · rfl
theorem it_ok (x : mj_X) : ∀ e, e ≤ 41 → rc_it x e 32 3 = nI e ∧ ∃ nb, nb ≤ 2 * e ∧ rc_it x e 24 7 = nI nb
  | 0, _ => ⟨rfl, 0, by omega, rfl⟩
  | e + 1, h => by
    obtain ⟨h1, nb, h2, h3⟩ := it_ok x e (by omega)
    obtain ⟨m, h4, _, h5⟩ := nb_next (e := e) (by omega) h3
    exact ⟨sf_next, m, by omega, h5⟩
theorem cd_fr {x y : mj_X} {e : Nat} (h3 : y 3 = x 3) (h14 : y 14 = x 14) (h16 : y 16 = x 16) (h : cd_ok x e) : cd_ok y e := by
  obtain ⟨a, b, c⟩ := h
  exact ⟨a, b, by rw [h3, h14, h16]; exact c⟩
set_option maxHeartbeats 1000000 in
theorem c_rall (R : List mj_S) (x : mj_X) (n : Nat) (hn : n ≤ 41) (hsz : x 11 12 = nI n) (hcd : ∀ e, e < n → cd_ok x e) : mj_CV mX3_reckonAll (shX ++ R) [.ref 32] x (fun y => y = rc_it x n) := by
  refine mj_startV (ls := [some (.ref 32), none]) (by decide) rfl rfl (fun Q hQ => ?_)
  have loop : ∀ (k j : Nat), j ≤ n → n < j + k → mj_V mX3_reckonAll (shX ++ R) Q (rc_it x j) 15 [some (.ref 32), some (.int (nI j))] [] := by
    intro k
    induction k with
    | zero => intro j h1 h2; omega
    | succ k ih =>
      intro j h1 h2
      obtain ⟨s1, nb, s2, s3⟩ := it_ok x j (by omega)
      have hz : rc_it x j 11 12 = nI n := by rw [fr_it (Or.inl (by decide))]; exact hsz
      refine mj_ildn dX3_reckonAll_15 rfl ?_
      refine mj_aldn dX3_reckonAll_16 rfl ?_
      refine mj_getr fkX3_15 dX3_reckonAll_17 rfl rfl ?_
      refine mj_geti fkX3_32 dX3_reckonAll_20 rfl rfl ?_
      refine mj_ic_ge (tgt := 36) dX3_reckonAll_23 rfl (fun h_23 => ?_) (fun h_23 => ?_)
      · have hj : j = n := by rw [hz, nI_leI (by omega) (by omega)] at h_23; omega
        subst hj
        refine mj_retv rfl dX3_reckonAll_36 ?_
        exact hQ _ rfl
      · have hlt : j < n := by rw [hz, nI_leI (by omega) (by omega)] at h_23; omega
        refine mj_aldn dX3_reckonAll_26 rfl ?_
        refine mj_cvv (K := mX3_reckonNext) (c_rnext R (rc_it x j) n hn hz j hlt s1 nb (by omega) s3 (cd_fr (fr_it (Or.inl (by decide)) j) (fr_it (Or.inl (by decide)) j) (fr_it (Or.inl (by decide)) j) (hcd j hlt))) ckX3_reckonNext lkX3_35 ⟨Nat.le_of_ble_eq_true rfl, Nat.le_of_ble_eq_true rfl⟩ rfl dX3_reckonAll_27 rfl rfl (Nat.le_of_ble_eq_true rfl) (fun x_27 q_27 => ?_)
        subst q_27
        refine mj_inc1 dX3_reckonAll_30 ni_1 rfl ?_
        refine mj_goto (tgt := 15) dX3_reckonAll_33 rfl ?_
        exact mj_xl (ih (j + 1) (by omega) (by omega)) rfl (by rw [nI_1])
  refine mj_aldn dX3_reckonAll_0 rfl ?_
  refine mj_getr fkX3_19 dX3_reckonAll_1 rfl rfl ?_
  refine mj_iconst dX3_reckonAll_4 ni_0 ?_
  refine mj_puti fkX3_23 pkX0_7 dX3_reckonAll_5 rfl rfl ?_
  refine mj_aldn dX3_reckonAll_8 rfl ?_
  refine mj_iconst dX3_reckonAll_9 ni_0 ?_
  refine mj_puti fkX3_29 pkX3_3 dX3_reckonAll_10 rfl rfl ?_
  refine mj_iconst dX3_reckonAll_13 ni_0 ?_
  refine mj_istn1 dX3_reckonAll_14 rfl ?_
  exact loop (n + 1) 0 (by omega) (by omega)
