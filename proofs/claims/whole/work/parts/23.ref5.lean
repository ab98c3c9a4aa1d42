/-! reckon: cells 46 to 54 and bans (37, 19) alone are another -/
def mclr (x : mj_X) (n : Nat) : mj_X := fun c => if c = 46 ∨ c = 47 ∨ c = 48 then (fun e => if e < n then 0 else x c e) else mj_up x 37 19 0 c
def mnx (x : mj_X) (e : Nat) : mj_X := if mE x e 2 = 0 then mcv x e else if mE x e 2 = 2 then msh x e else x
def m_it (x : mj_X) (n : Nat) : Nat → mj_X
  | 0 => mclr x n
  | e + 1 => mnx (m_it x n e) e
theorem mclr_0 (x : mj_X) : mclr x 0 = mj_up x 37 19 0 := by
  funext c
  unfold mclr
  split
  · next h => rw [up_ne (by omega)]; simp
  · rfl
theorem mclr_s (x : mj_X) (j : Nat) : mj_up (mj_up (mj_up (mclr x j) 46 j 0) 47 j 0) 48 j 0 = mclr x (j + 1) := by
  funext c e
  simp only [up_at, mclr]
  by_cases h6 : c = 46
  · subst h6
    by_cases he : e = j
    · subst he; simp
    · simp [he, show (e < j + 1) = (e < j) by simp; omega]
  · by_cases h7 : c = 47
    · subst h7
      by_cases he : e = j
      · subst he; simp
      · simp [he, show (e < j + 1) = (e < j) by simp; omega]
    · by_cases h8 : c = 48
      · subst h8
        by_cases he : e = j
        · subst he; simp
        · simp [he, show (e < j + 1) = (e < j) by simp; omega]
      · simp [h6, h7, h8]
def mfr (x y : mj_X) : Prop := (∀ i, i ≠ 19 → y 37 i = x 37 i) ∧ ∀ k, k ≠ 37 → (k < 46 ∨ 54 < k) → y k = x k
theorem mfr.rf (x : mj_X) : mfr x x := ⟨fun _ _ => rfl, fun _ _ _ => rfl⟩
theorem mfr.tr {x y z : mj_X} (h : mfr x y) (g : mfr y z) : mfr x z := ⟨fun i a => by rw [g.1 i a, h.1 i a], fun k a b => by rw [g.2 k a b, h.2 k a b]⟩
theorem mfr_up {x : mj_X} {c i : Nat} {v : Int32} (h : 46 ≤ c ∧ c ≤ 54) : mfr x (mj_up x c i v) := ⟨fun i _ => by rw [up_ne (by omega)], fun k _ b => by rw [up_ne (by omega)]⟩
theorem mfr_19 {x : mj_X} {v : Int32} : mfr x (mj_up x 37 19 v) := ⟨fun i a => by rw [up_eq, upd_ne a], fun k a _ => by rw [up_ne a]⟩
theorem mfr_mg {x : mj_X} {n : Nat} {d f z e g : Int32} : mfr x (mg x n d f z e g) := by
  unfold mg
  exact (((((((mfr_up (by decide)).tr (mfr_up (by decide))).tr (mfr_up (by decide))).tr (mfr_up (by decide))).tr (mfr_up (by decide))).tr (mfr_up (by decide))).tr mfr_19)
theorem mfr_msp {x : mj_X} {d : Int32} {u : Nat} : mfr x (msp x d u) := ⟨fun i _ => by rw [msp_ne (by decide)], fun k _ b => by rw [msp_ne (by omega)]⟩
theorem mfr_c1 {x : mj_X} {e : Nat} : mfr x (mc1 x e) := mfr_up (by decide)
theorem mfr_c2 {x : mj_X} {e : Nat} : mfr x (mc2 x e) := by
  unfold mc2; split
  · exact mfr_c1.tr mfr_mg
  · exact mfr_c1
theorem mfr_cv {x : mj_X} {e : Nat} : mfr x (mcv x e) := by
  unfold mcv; split
  · exact mfr.rf x
  · split
    · exact mfr_c2
    · unfold mgr; exact (mfr_c2.tr mfr_mg).tr mfr_msp
theorem mfr_sh {x : mj_X} {e : Nat} : mfr x (msh x e) := by
  unfold msh; split
  · exact mfr_up (by decide)
  · exact ((mfr_up (by decide)).tr (mfr_up (by decide))).tr (mfr_up (by decide))
theorem mfr_nx {x : mj_X} {e : Nat} : mfr x (mnx x e) := by
  unfold mnx; split
  · exact mfr_cv
  · split
    · exact mfr_sh
    · exact mfr.rf x
theorem mfr_clr {x : mj_X} {n : Nat} : mfr x (mclr x n) := ⟨fun i a => by unfold mclr; rw [if_neg (by omega), up_eq, upd_ne a], fun k a b => by unfold mclr; rw [if_neg (by omega), up_ne a]⟩
theorem mfr_it {x : mj_X} {n : Nat} : ∀ e, mfr x (m_it x n e)
  | 0 => mfr_clr
  | e + 1 => (mfr_it e).tr mfr_nx
theorem mfr.E {x y : mj_X} (h : mfr x y) (e w : Nat) : mE y e w = mE x e w := by unfold mE; rw [h.2 39 (by decide) (by omega)]
/-! counters -/
theorem mb_mg {x : mj_X} {n : Nat} {d f z e g : Int32} : mg x n d f z e g 37 19 = nI (n + 1) := by unfold mg; rw [up_eq, upd_eq]
theorem by_mg {x : mj_X} {n e : Nat} {d f z g : Int32} (he : e < 41) (h : m_by x n) : m_by (mg x n d f z (nI e) g) (n + 1) := by
  intro b hb
  by_cases hbe : b = n
  · subst hbe
    exact ⟨e, he, by unfold mg; simp [up_at]⟩
  · obtain ⟨e9, h1, h2⟩ := h b (by omega)
    exact ⟨e9, h1, by unfold mg; simp [up_at, hbe, h2]⟩
def mok (x : mj_X) (m : Nat) : Prop := x 37 19 = nI m ∧ m_by x m
theorem mok_c2 {x : mj_X} {e nb : Nat} (he : e < 41) (hb : nb ≤ 82) (h : mok x nb) : ∃ m, m ≤ nb + 1 ∧ nb ≤ m ∧ mok (mc2 x e) m := by
  unfold mc2; split
  · exact ⟨nb + 1, by omega, by omega, mb_mg.trans (by rw [mbN_eq hb h.1]), by rw [mbN_eq hb h.1]; exact by_mg he h.2⟩
  · exact ⟨nb, by omega, by omega, h.1, h.2⟩
theorem mok_cv {x : mj_X} {e nb : Nat} (he : e < 41) (hb : nb < 82) (h : mok x nb) : ∃ m, m ≤ nb + 2 ∧ nb ≤ m ∧ mok (mcv x e) m := by
  obtain ⟨m, h1, h3, h2⟩ := mok_c2 he (by omega) h
  unfold mcv; split
  · exact ⟨nb, by omega, by omega, h⟩
  · split
    · exact ⟨m, by omega, h3, h2⟩
    · refine ⟨m + 1, by omega, by omega, ?_⟩
      unfold mgr
      rw [mbN_eq (by omega) h2.1]
      exact ⟨by rw [msp_ne (by decide)]; exact mb_mg, fun b hb => by rw [msp_ne (by decide)]; exact by_mg he h2.2 b hb⟩
theorem mok_sh {x : mj_X} {e nb : Nat} (h : mok x nb) : mok (msh x e) nb := by
  unfold msh; split
  · exact h
  · exact h
theorem mok_nx {x : mj_X} {e nb : Nat} (he : e < 41) (hb : nb < 82) (h : mok x nb) : ∃ m, m ≤ nb + 2 ∧ nb ≤ m ∧ mok (mnx x e) m := by
  unfold mnx; split
  · exact mok_cv he hb h
  · split
    · exact ⟨nb, by omega, by omega, mok_sh h⟩
    · exact ⟨nb, by omega, by omega, h⟩
theorem mok_it (x : mj_X) (n : Nat) : ∀ e, e ≤ 41 → ∃ nb, nb ≤ 2 * e ∧ mok (m_it x n e) nb
  | 0, _ => ⟨0, by omega, by unfold m_it mclr; rfl, fun b hb => absurd hb (Nat.not_lt_zero b)⟩
  | e + 1, h => by
    obtain ⟨nb, h2, h3⟩ := mok_it x n e (by omega)
    obtain ⟨m, h4, _, h5⟩ := mok_nx (e := e) (by omega) (by omega) h3
    exact ⟨m, by omega, h5⟩
/-- what the reckoning asks of the events -/
def mvd (x : mj_X) (n : Nat) : Prop := (∃ w, w ≤ 999 ∧ x 39 328 = nI w) ∧ ∀ e, e < n → mE x e 2 = 0 → (∃ o, o ≤ 9999 ∧ mE x e 3 = nI o) ∧ ∃ kc, kc < 6 ∧ mE x e 4 = nI kc
set_option maxHeartbeats 1000000 in
theorem c_mreckon (x : mj_X) (n : Nat) (hn : n ≤ 41) (hs : x 39 334 = nI n) (hvd : mvd x n) : mj_CV mX7_reckon (shX ++ shM) [.ref 37] x (fun y => y = m_it x n n) := by
  refine mj_startV (ls := [some (.ref 37), none]) (by decide) rfl rfl (fun Q hQ => ?_)
  have loop2 : ∀ (k j : Nat), j ≤ n → n < j + k → mj_V mX7_reckon (shX ++ shM) Q (m_it x n j) 48 [some (.ref 37), some (.int (nI j))] [] := by
    intro k
    induction k with
    | zero => intro j h1 h2; omega
    | succ k ih =>
      intro j h1 h2
      obtain ⟨nb, s2, s3, s4⟩ := mok_it x n j (by omega)
      have hf := mfr_it (x := x) (n := n) j
      have hz : m_it x n j 39 334 = nI n := by rw [hf.2 39 (by decide) (by omega)]; exact hs
      obtain ⟨⟨w, hw1, hw2⟩, hv⟩ := hvd
      have hw3 : m_it x n j 39 328 = nI w := by rw [hf.2 39 (by decide) (by omega)]; exact hw2
      refine mj_ildn dX7_reckon_48 rfl ?_
      refine mj_aldn dX7_reckon_49 rfl ?_
      refine mj_getr fkX7_13 dX7_reckon_50 rfl rfl ?_
      refine mj_sipush dX7_reckon_53 ns_334 ?_
      refine mj_iald dX7_reckon_56 rfl 334 (by decide) rfl (by decide) ?_
      refine mj_ic_ge (tgt := 95) dX7_reckon_57 rfl (fun h_57 => ?_) (fun h_57 => ?_)
      · have hj : j = n := by rw [hz, nI_leI (by omega) (by omega)] at h_57; omega
        subst hj
        refine mj_retv rfl dX7_reckon_95 ?_
        exact hQ _ rfl
      · have hlt : j < n := by rw [hz, nI_leI (by omega) (by omega)] at h_57; omega
        refine mj_aldn dX7_reckon_60 rfl ?_
        refine mj_ildn dX7_reckon_61 rfl ?_
        refine mj_iconst dX7_reckon_62 ni_2 ?_
        refine mj_cvp (K := mX7_of) (c_of (m_it x n j) j 2 (by omega)) ckX7_of lkX7_164 ⟨Nat.le_of_ble_eq_true rfl, Nat.le_of_ble_eq_true rfl⟩ rfl dX7_reckon_63 rfl rfl (Nat.le_of_ble_eq_true rfl) ?_
        refine mj_if_ne (tgt := 74) dX7_reckon_66 rfl (fun h_66 => ?_) (fun h_66 => ?_)
        · rw [hf.E] at h_66
          refine mj_aldn dX7_reckon_74 rfl ?_
          refine mj_ildn dX7_reckon_75 rfl ?_
          refine mj_iconst dX7_reckon_76 ni_2 ?_
          refine mj_cvp (K := mX7_of) (c_of (m_it x n j) j 2 (by omega)) ckX7_of lkX7_164 ⟨Nat.le_of_ble_eq_true rfl, Nat.le_of_ble_eq_true rfl⟩ rfl dX7_reckon_77 rfl rfl (Nat.le_of_ble_eq_true rfl) ?_
          refine mj_iconst dX7_reckon_80 ni_2 ?_
          refine mj_ic_ne (tgt := 89) dX7_reckon_81 rfl (fun h_81 => ?_) (fun h_81 => ?_)
          · rw [hf.E] at h_81
            refine mj_inc1 dX7_reckon_89 ni_1 rfl ?_
            refine mj_goto (tgt := 48) dX7_reckon_92 rfl ?_
            exact mj_xl (ih (j + 1) (by omega) (by omega)) (by rw [m_it, mnx, if_neg (by rw [hf.E]; exact h_66), if_neg (by rw [hf.E]; exact h_81)]) (by rw [nI_1])
          · rw [hf.E] at h_81
            refine mj_aldn dX7_reckon_84 rfl ?_
            refine mj_ildn dX7_reckon_85 rfl ?_
            refine mj_cvv (K := mX7_shortens) (c_mshort (m_it x n j) j (by omega) nb (by omega) s3) ckX7_shortens lkX7_229 ⟨Nat.le_of_ble_eq_true rfl, Nat.le_of_ble_eq_true rfl⟩ rfl dX7_reckon_86 rfl rfl (Nat.le_of_ble_eq_true rfl) (fun x_86 q_86 => ?_)
            refine mj_inc1 dX7_reckon_89 ni_1 rfl ?_
            refine mj_goto (tgt := 48) dX7_reckon_92 rfl ?_
            exact mj_xl (ih (j + 1) (by omega) (by omega)) (by rw [q_86, m_it, mnx, if_neg (by rw [hf.E]; exact h_66), if_pos (by rw [hf.E]; exact h_81)]) (by rw [nI_1])
        · rw [hf.E] at h_66
          obtain ⟨⟨o, ho1, ho2⟩, kc, hk1, hk2⟩ := hv j hlt h_66
          refine mj_aldn dX7_reckon_69 rfl ?_
          refine mj_ildn dX7_reckon_70 rfl ?_
          refine mj_cvv (K := mX7_convicts) (c_mconv (m_it x n j) j (by omega) nb (by omega) s3 s4 o w kc ho1 (by rw [hf.E]; exact ho2) hw1 hw3 hk1 (by rw [hf.E]; exact hk2)) ckX7_convicts lkX7_225 ⟨Nat.le_of_ble_eq_true rfl, Nat.le_of_ble_eq_true rfl⟩ rfl dX7_reckon_71 rfl rfl (Nat.le_of_ble_eq_true rfl) (fun x_71 q_71 => ?_)
          have e71 : x_71 = m_it x n (j + 1) := by rw [q_71, m_it, mnx, if_pos (by rw [hf.E]; exact h_66)]
          have e72 : mE x_71 j 2 = 0 := by rw [e71, (mfr_it (j + 1)).E]; exact h_66
          refine mj_aldn dX7_reckon_74 rfl ?_
          refine mj_ildn dX7_reckon_75 rfl ?_
          refine mj_iconst dX7_reckon_76 ni_2 ?_
          refine mj_cvp (K := mX7_of) (c_of x_71 j 2 (by omega)) ckX7_of lkX7_164 ⟨Nat.le_of_ble_eq_true rfl, Nat.le_of_ble_eq_true rfl⟩ rfl dX7_reckon_77 rfl rfl (Nat.le_of_ble_eq_true rfl) ?_
          refine mj_iconst dX7_reckon_80 ni_2 ?_
          refine mj_ic_ne (tgt := 89) dX7_reckon_81 rfl (fun h_81 => ?_) (fun h_81 => False.elim (by rw [e72] at h_81; exact absurd h_81 (by decide)))
          refine mj_inc1 dX7_reckon_89 ni_1 rfl ?_
          refine mj_goto (tgt := 48) dX7_reckon_92 rfl ?_
          exact mj_xl (ih (j + 1) (by omega) (by omega)) e71 (by rw [nI_1])
  have loop1 : ∀ (k j : Nat), j ≤ n → n < j + k → mj_V mX7_reckon (shX ++ shM) Q (mclr x j) 7 [some (.ref 37), some (.int (nI j))] [] := by
    intro k
    induction k with
    | zero => intro j h1 h2; omega
    | succ k ih =>
      intro j h1 h2
      have hz : mclr x j 39 334 = nI n := by rw [mfr_clr.2 39 (by decide) (by omega)]; exact hs
      refine mj_ildn dX7_reckon_7 rfl ?_
      refine mj_aldn dX7_reckon_8 rfl ?_
      refine mj_getr fkX7_13 dX7_reckon_9 rfl rfl ?_
      refine mj_sipush dX7_reckon_12 ns_334 ?_
      refine mj_iald dX7_reckon_15 rfl 334 (by decide) rfl (by decide) ?_
      refine mj_ic_ge (tgt := 46) dX7_reckon_16 rfl (fun h_16 => ?_) (fun h_16 => ?_)
      · have hj : j = n := by rw [hz, nI_leI (by omega) (by omega)] at h_16; omega
        subst hj
        refine mj_iconst dX7_reckon_46 ni_0 ?_
        refine mj_istn1 dX7_reckon_47 rfl ?_
        exact loop2 (j + 1) 0 (by omega) (by omega)
      · have hlt : j < n := by rw [hz, nI_leI (by omega) (by omega)] at h_16; omega
        refine mj_aldn dX7_reckon_19 rfl ?_
        refine mj_getr fkX7_34 dX7_reckon_20 rfl rfl ?_
        refine mj_ildn dX7_reckon_23 rfl ?_
        refine mj_iconst dX7_reckon_24 ni_0 ?_
        refine mj_iast dX7_reckon_25 rfl j (by omega) rfl (by decide) ?_
        refine mj_aldn dX7_reckon_26 rfl ?_
        refine mj_getr fkX7_37 dX7_reckon_27 rfl rfl ?_
        refine mj_ildn dX7_reckon_30 rfl ?_
        refine mj_iconst dX7_reckon_31 ni_0 ?_
        refine mj_iast dX7_reckon_32 rfl j (by omega) rfl (by decide) ?_
        refine mj_aldn dX7_reckon_33 rfl ?_
        refine mj_getr fkX7_40 dX7_reckon_34 rfl rfl ?_
        refine mj_ildn dX7_reckon_37 rfl ?_
        refine mj_iconst dX7_reckon_38 ni_0 ?_
        refine mj_iast dX7_reckon_39 rfl j (by omega) rfl (by decide) ?_
        refine mj_inc1 dX7_reckon_40 ni_1 rfl ?_
        refine mj_goto (tgt := 7) dX7_reckon_43 rfl ?_
        exact mj_xl (ih (j + 1) (by omega) (by omega)) (mclr_s x j) (by rw [nI_1])
  refine mj_aldn dX7_reckon_0 rfl ?_
  refine mj_iconst dX7_reckon_1 ni_0 ?_
  refine mj_puti fkX7_199 pkX7_19 dX7_reckon_2 rfl rfl ?_
  refine mj_iconst dX7_reckon_5 ni_0 ?_
  refine mj_istn1 dX7_reckon_6 rfl ?_
  exact mj_xl (loop1 (n + 1) 0 (by omega) (by omega)) (mclr_0 x).symm rfl
def mkn (x : mj_X) (n : Nat) : mj_X := if x 37 15 = 0 then mj_up (m_it x n n) 37 15 1 else x
set_option maxHeartbeats 1000000 in
theorem c_mknow (x : mj_X) (n : Nat) (hn : n ≤ 41) (hs : x 39 334 = nI n) (hvd : mvd x n) : mj_CV mX7_know (shX ++ shM) [.ref 37] x (fun y => y = mkn x n) := by
  refine mj_startV (ls := [some (.ref 37)]) (by decide) rfl rfl (fun Q hQ => ?_)
  refine mj_aldn dX7_know_0 rfl ?_
  refine mj_geti fkX7_133 dX7_know_1 rfl rfl ?_
  refine mj_if_ne (tgt := 16) dX7_know_4 rfl (fun h_4 => ?_) (fun h_4 => ?_)
  · refine mj_retv rfl dX7_know_16 ?_
    first
    | (rw [q_8]; exact hQ _ (by unfold mkn; rw [if_pos h_4]))
    | exact hQ _ (by unfold mkn; rw [if_neg h_4])
  · refine mj_aldn dX7_know_7 rfl ?_
    refine mj_cvv (K := mX7_reckon) (c_mreckon x n hn hs hvd) ckX7_reckon lkX7_232 ⟨Nat.le_of_ble_eq_true rfl, Nat.le_of_ble_eq_true rfl⟩ rfl dX7_know_8 rfl rfl (Nat.le_of_ble_eq_true rfl) (fun x_8 q_8 => ?_)
    refine mj_aldn dX7_know_11 rfl ?_
    refine mj_iconst dX7_know_12 ni_1 ?_
    refine mj_putz fkX7_133 pkX7_15 (by decide) dX7_know_13 rfl rfl ?_
    refine mj_retv rfl dX7_know_16 ?_
    first
    | (rw [q_8]; exact hQ _ (by unfold mkn; rw [if_pos h_4]))
    | exact hQ _ (by unfold mkn; rw [if_neg h_4])
def mdfF (x : mj_X) (nb : Nat) (d : Int32) (a j : Nat) (r : Int32) : Int32 := r + bi (lp_any (mn_has x d (nI (a + j))) nb)
set_option maxHeartbeats 1000000 in
theorem c_mdf (x : mj_X) (nb : Nat) (hb : nb ≤ 82) (hs : x 37 19 = nI nb) (d to : Int32) (a K : Nat) (h1 : ∀ j, j < K → nI (a + j) ≤ to) (h2 : to < nI (a + K)) : mj_CP mX7_daysFrom (shX ++ shM) [.ref 37, .int d, .int (nI a), .int to] x (lp_f (mdfF x nb d a) 0 K) := by
  refine mj_startP (ls := [some (.ref 37), some (.int d), some (.int (nI a)), some (.int to), none, none]) (by decide) rfl rfl (fun Q hQ => ?_)
  have loop : ∀ (k j : Nat), j ≤ K → K < j + k → mj_V mX7_daysFrom (shX ++ shM) Q x 6 [some (.ref 37), some (.int d), some (.int (nI a)), some (.int to), some (.int (lp_f (mdfF x nb d a) 0 j)), some (.int (nI (a + j)))] [] := by
    intro k
    induction k with
    | zero => intro j h1 h2; omega
    | succ k ih =>
      intro j g1 g2
      refine mj_ild dX7_daysFrom_6 rfl ?_
      refine mj_ildn dX7_daysFrom_8 rfl ?_
      refine mj_ic_gt (tgt := 38) dX7_daysFrom_9 rfl (fun h_9 => ?_) (fun h_9 => ?_)
      · have hj : j = K := by
          rcases Nat.lt_or_ge j K with h | h
          · have := h1 j h
            exfalso
            grind
          · omega
        subst hj
        refine mj_ild dX7_daysFrom_38 rfl ?_
        refine mj_ret rfl dX7_daysFrom_40 ?_
        exact hQ
      · have hlt : j < K := by
          rcases Nat.lt_or_ge j K with h | h
          · exact h
          · have : j = K := by omega
            subst this
            exfalso
            grind
        refine mj_ild dX7_daysFrom_12 rfl ?_
        refine mj_aldn dX7_daysFrom_14 rfl ?_
        refine mj_ildn dX7_daysFrom_15 rfl ?_
        refine mj_ild dX7_daysFrom_16 rfl ?_
        refine mj_cvp (K := mX7_isBanned) (c_mban x nb hb hs d (nI (a + j))) ckX7_isBanned lkX7_209 ⟨Nat.le_of_ble_eq_true rfl, Nat.le_of_ble_eq_true rfl⟩ rfl dX7_daysFrom_18 rfl rfl (Nat.le_of_ble_eq_true rfl) ?_
        refine mj_if_eq (tgt := 28) dX7_daysFrom_21 rfl (fun h_21 => ?_) (fun h_21 => ?_)
        · rw [bi_z] at h_21
          refine mj_iconst dX7_daysFrom_28 ni_0 ?_
          refine mj_iadd dX7_daysFrom_29 ?_
          refine mj_ist4 dX7_daysFrom_30 rfl ?_
          refine mj_inc5 dX7_daysFrom_32 ni_1 rfl ?_
          refine mj_goto (tgt := 6) dX7_daysFrom_35 rfl ?_
          exact mj_ls (ih (j + 1) (by omega) (by omega)) (by rw [nI_1, lp_f, mdfF, h_21]; rfl)
        · rw [bi_nz] at h_21
          refine mj_iconst dX7_daysFrom_24 ni_1 ?_
          refine mj_goto (tgt := 29) dX7_daysFrom_25 rfl ?_
          refine mj_iadd dX7_daysFrom_29 ?_
          refine mj_ist4 dX7_daysFrom_30 rfl ?_
          refine mj_inc5 dX7_daysFrom_32 ni_1 rfl ?_
          refine mj_goto (tgt := 6) dX7_daysFrom_35 rfl ?_
          exact mj_ls (ih (j + 1) (by omega) (by omega)) (by rw [nI_1, lp_f, mdfF, h_21]; rfl)
  refine mj_iconst dX7_daysFrom_0 ni_0 ?_
  refine mj_ist4 dX7_daysFrom_1 rfl ?_
  refine mj_ildn dX7_daysFrom_3 rfl ?_
  refine mj_ist5 dX7_daysFrom_4 rfl ?_
  exact loop (K + 1) 0 (by omega) (by omega)
set_option maxHeartbeats 1000000 in
theorem c_mdays (x : mj_X) (n : Nat) (hn : n ≤ 41) (hs : x 39 334 = nI n) (hvd : mvd x n) (nb : Nat) (hb : nb ≤ 82) (hbs : mkn x n 37 19 = nI nb) (d : Int32) (K : Nat) (h1 : ∀ j, j < K → nI (0 + j) ≤ lp_f (menF (mkn x n) d) (-1) nb) (h2 : lp_f (menF (mkn x n) d) (-1) nb < nI (0 + K)) : mj_CI mX7_daysOf (shX ++ shM) [.ref 37, .int d] x (fun z y => z = lp_f (mdfF (mkn x n) nb d 0) 0 K ∧ y = mkn x n) := by
  refine mj_startI (ls := [some (.ref 37), some (.int d)]) (by decide) rfl rfl (fun Q hQ => ?_)
  refine mj_aldn dX7_daysOf_0 rfl ?_
  refine mj_cvv (K := mX7_know) (c_mknow x n hn hs hvd) ckX7_know lkX7_167 ⟨Nat.le_of_ble_eq_true rfl, Nat.le_of_ble_eq_true rfl⟩ rfl dX7_daysOf_1 rfl rfl (Nat.le_of_ble_eq_true rfl) (fun x_1 q_1 => ?_)
  subst q_1
  refine mj_aldn dX7_daysOf_4 rfl ?_
  refine mj_ildn dX7_daysOf_5 rfl ?_
  refine mj_iconst dX7_daysOf_6 ni_0 ?_
  refine mj_aldn dX7_daysOf_7 rfl ?_
  refine mj_ildn dX7_daysOf_8 rfl ?_
  refine mj_cvp (K := mX7_endOf) (c_mend (mkn x n) nb hb hbs d) ckX7_endOf lkX7_235 ⟨Nat.le_of_ble_eq_true rfl, Nat.le_of_ble_eq_true rfl⟩ rfl dX7_daysOf_9 rfl rfl (Nat.le_of_ble_eq_true rfl) ?_
  refine mj_cvp (K := mX7_daysFrom) (c_mdf (mkn x n) nb hb hbs d (lp_f (menF (mkn x n) d) (-1) nb) 0 K h1 h2) ckX7_daysFrom lkX7_238 ⟨Nat.le_of_ble_eq_true rfl, Nat.le_of_ble_eq_true rfl⟩ rfl dX7_daysOf_12 rfl rfl (Nat.le_of_ble_eq_true rfl) ?_
  refine mj_ret rfl dX7_daysOf_15 ?_
  exact hQ _ _ ⟨rfl, rfl⟩
