theorem lp_find_lt {p : Nat → Bool} : ∀ (k j i : Nat), lp_find p k j = some i → j ≤ i ∧ i < j + k
  | 0, _, _, h => by rw [lp_find] at h; cases h
  | k + 1, j, i, h => by
    rw [lp_find] at h
    by_cases hp : p j = true
    · rw [if_pos hp] at h; injection h with h; omega
    · rw [if_neg hp] at h
      have := lp_find_lt k (j + 1) i h; omega
theorem opI_congr {p q : Nat → Bool} {f g : Nat → Int32} {z : Int32} {n : Nat} (h : ∀ i, i < n → p i = q i) (h2 : ∀ i, i < n → f i = g i) : opI (lp_find p n 0) f z = opI (lp_find q n 0) g z := by
  rw [lp_find_congr n 0 (fun i _ hi => h i (by omega))]
  cases hq : lp_find q n 0 with
  | none => rfl
  | some i => exact h2 i (by have := lp_find_lt n 0 i hq; omega)
theorem i_ban {x : mj_X} (h : Inv x) (d i w : Int32) : PAIR mX6_ban mX7_ban [.int d, .int i, .int w] x := by
  obtain ⟨len, t, k, n, s, T, O, h⟩ := h
  obtain ⟨nb, hk⟩ := IV_kr h
  have hn := h.2.2.2.1.2.2.1
  have hb := hk.1
  refine (p_ban shM x n nb s k (IV_CW h hk) d i w).mI (fun z y q => ?_)
  obtain ⟨q1, q2⟩ := q
  subst q2
  refine (q_ban y n hn h.2.2.2.1.2.1 (IV_mvd h) nb (by omega) hk.2.1.2.1 d i w).mono (fun z' y' q => ?_)
  by_cases hc : dr d = true ∧ -1 ≤ i ∧ 0 ≤ w ∧ w ≤ 4
  · rw [if_pos hc] at q q1
    obtain ⟨r1, r2⟩ := q
    subst r2
    refine ⟨?_, len, t, k, n, s, T, O, IV_know h⟩
    have hcn : ∀ m, m ≤ nb → lp_f (mctF (mkn y n) d) 0 m = lp_f (bn_cntF y d) 0 m := fun m hm => lp_f_congr (fun j a hj => by
      unfold mctF bn_cntF
      rw [(hk.2.1.2.2 j (by omega)).1]
      split
      · rfl
      · exact Int32.add_zero a)
    rw [r1, q1, hcn nb (Nat.le_refl nb)]
    congr 1
    refine opI_congr (fun j hj => ?_) (fun j hj => ?_)
    · unfold m_atP bn_placeP
      rw [hcn j (by omega), (hk.2.1.2.2 j hj).1]
    · obtain ⟨b1, b2, b3, b4, b5, b6, -⟩ := hk.2.1.2.2 j hj
      unfold m_btell bn_tell
      rw [b2, b3, b4, b5, b6]
      unfold mL
      rw [show mkn y n 50 j + mkn y n 51 j - 1 - mkn y n 50 j + 1 = mkn y n 51 j by grind]
  · rw [if_neg hc] at q q1
    obtain ⟨r1, r2⟩ := q
    subst r2
    exact ⟨by rw [r1, q1], len, t, k, n, s, T, O, h⟩
theorem i_seen {x : mj_X} (h : Inv x) (a d w : Int32) : PAIR mX6_seen mX7_seen [.int a, .int d, .int w] x := by
  obtain ⟨len, t, k, n, s, T, O, h⟩ := h
  obtain ⟨nb, hk⟩ := IV_kr h
  have hn := h.2.2.2.1.2.2.1
  have hb := hk.1
  refine (p_seen shM x n nb s k (IV_CW h hk) a d w).mI (fun z y q => ?_)
  obtain ⟨q1, q2⟩ := q
  subst q2
  refine (q_seen y n hn h.2.2.2.1.2.1 (IV_mvd h) nb (by omega) hk.2.1.2.1 a d w).mono (fun z' y' q => ?_)
  by_cases hc : 0 ≤ a ∧ a ≤ 3 ∧ dr d = true ∧ 0 ≤ w ∧ w ≤ 2
  · rw [if_pos hc] at q q1
    obtain ⟨r1, r2⟩ := q
    subst r2
    refine ⟨?_, len, t, k, n, s, T, O, IV_know h⟩
    have hf : lp_f (m_seenF (mkn y n) a d) (0, 0, -4) n = lp_f (seenF y a d) (0, 0, -4) n := by
      refine lp_f_congr (fun j r hj => ?_)
      obtain ⟨a1, a2, a3, a4, a5, a6, a7, a8, a9⟩ := h.2.2.2.1.2.2.2.1.1 j hj
      obtain ⟨m1, m2, m3, m4⟩ := hk.2.2 j hj
      unfold m_seenF seenF seenP
      rw [mkn_E, mkn_E, mkn_E, ← a1, ← a5]
      simp only [decide_eq_true_eq]
      by_cases h0 : y 14 j = 0
      · obtain ⟨-, -, -, b4, -, -, -, -, b7, b8⟩ := a9.resolve_right (fun q => by
          rw [h0] at q
          rcases q.1 with q | q <;> exact absurd q (by decide))
        have b3 : mE y j 3 = y 15 j := by unfold mon at a7; rw [if_pos (by rw [← a5, h0])] at a7; rw [a7, a6]
        have hs : m_see (mkn y n) a j = sees y a j := by
          unfold m_see sees
          rw [mkn_E, mkn_E, mkn_E, mkn_37 (by decide) (by decide), mkn_k (k := 39) (by decide) (by omega), ← b7, b3, a3, ← a2, ← m2, h.2.1.2.1, ← h.2.1.1, show y 39 332 = y 4 4 from (h.2.2.2.1.2.2.2.2.1 4 (by decide)).1, show y 39 333 = y 4 5 from (h.2.2.2.1.2.2.2.2.1 5 (by decide)).1]
          obtain ⟨i, hi, rfl⟩ := lit_le (m := 3) (by decide) hc.1 hc.2.1
          have hi2 : i = 0 ∨ i = 1 ∨ i = 2 ∨ i = 3 := by omega
          rcases hi2 with e | e | e | e <;> subst e
          · rw [if_pos (by decide), if_pos (by decide)]
          · rw [if_neg (show ¬ nI 1 = 0 by decide), if_neg (show ¬ nI 1 = 0 by decide), if_pos (show nI 1 = 1 by decide), if_neg (show ¬ nI 1 = 2 by decide), if_neg (show ¬ nI 1 = 3 by decide)]
          · rw [if_neg (show ¬ nI 2 = 0 by decide), if_neg (show ¬ nI 2 = 0 by decide), if_neg (show ¬ nI 2 = 1 by decide), if_pos (show nI 2 = 2 by decide), if_pos (show nI 2 = 2 by decide)]
          · rw [if_neg (show ¬ nI 3 = 0 by decide), if_neg (show ¬ nI 3 = 0 by decide), if_neg (show ¬ nI 3 = 1 by decide), if_neg (show ¬ nI 3 = 2 by decide), if_neg (show ¬ nI 3 = 2 by decide), if_pos (show nI 3 = 3 by decide)]
        rw [hs, ← b4]
        by_cases hq : y 14 j = 0 ∧ y 12 j = d ∧ sees y a j = true
        · rw [if_pos hq, if_pos ⟨hq.2.1, hq.1, hq.2.2⟩]
        · rw [if_neg hq, if_neg (fun q => hq ⟨q.2.1, q.1, q.2.2⟩)]
      · rw [if_neg (fun q => h0 q.2.1), if_neg (fun q => h0 q.1)]
    rw [r1, q1, hf]
  · rw [if_neg hc] at q q1
    obtain ⟨r1, r2⟩ := q
    subst r2
    exact ⟨by rw [r1, q1], len, t, k, n, s, T, O, h⟩
theorem i_count {x : mj_X} (h : Inv x) (w : Int32) : PAIR mX6_count mX7_count [.int w] x := by
  obtain ⟨len, t, k, n, s, T, O, h⟩ := h
  obtain ⟨nb, hk⟩ := IV_kr h
  have hn := h.2.2.2.1.2.2.1
  have hb := hk.1
  refine (p_count shM x n nb s k (IV_CW h hk) w).mI (fun z y q => ?_)
  obtain ⟨q1, q2⟩ := q
  subst q2
  refine (q_count y n hn h.2.2.2.1.2.1 (IV_mvd h) nb (by omega) hk.2.1.2.1 w).mono (fun z' y' q => ?_)
  obtain ⟨r1, r2⟩ := q
  have hru := h.2.2.2.1.2.2.2.2.1
  refine ⟨?_, len, t, k, n, s, T, O, ?_⟩
  · rw [r1, q1, h.2.2.1.2.1, h.2.1.2.1, ← h.2.1.1, h.2.2.2.2.2.2.2.1, h.1.2.1, ← h.1.1, show y 39 328 = y 4 0 from (hru 0 (by decide)).1, show y 39 329 = y 4 1 from (hru 1 (by decide)).1, show y 39 330 = y 4 2 from (hru 2 (by decide)).1, show y 39 331 = y 4 3 from (hru 3 (by decide)).1, show y 39 332 = y 4 4 from (hru 4 (by decide)).1, show y 39 333 = y 4 5 from (hru 5 (by decide)).1]
  · rw [r2]; split
    · exact IV_know h
    · exact h
/-- a change that touches neither events nor rules nor codes nor what was reckoned -/
theorem IV_re {x y : mj_X} {len t k n s len' t' : Nat} {T O : Nat → Nat} (h : IV x len t k n s T O) (ht : t ≤ t')
    (hc : ∀ c, (3 ≤ c ∧ c ≤ 6) ∨ (11 ≤ c ∧ c ≤ 36) ∨ (39 ≤ c ∧ c ≤ 42) ∨ (46 ≤ c ∧ c ≤ 54) → y c = x c) (h37 : ∀ i, i = 4 ∨ i = 6 ∨ i = 15 ∨ i = 19 → y 37 i = x 37 i) (hTX : TX y len') (hTD : TD y t') : IV y len' t' k n s T O := by
  obtain ⟨-, -, h3, h4, h5, h6, h7⟩ := h
  have f39 := hc 39 (by omega)
  have hsm : sm x y n := sm.cells (hc 4 (by omega)) (fun c a b => hc c (by omega))
  refine ⟨hTX, hTD, ?_, ?_, ?_, ?_, ?_⟩
  · unfold CD; rw [hc 3 (by omega), h37 6 (by omega)]
    exact ⟨h3.1, h3.2.1, h3.2.2.1, CO_fr (hc 5 (by omega)) (hc 6 (by omega)) (hc 41 (by omega)) (hc 42 (by omega)) h3.2.2.2⟩
  · unfold EN; rw [hc 11 (by omega), f39]
    exact ⟨h4.1, h4.2.1, h4.2.2.1, EV_fr (fun c a b => hc c (by omega)) f39 h4.2.2.2.1, RU_fr (hc 4 (by omega)) f39 h4.2.2.2.2.1, fun j hj => Nat.le_trans (h4.2.2.2.2.2 j hj) ht⟩
  · refine ⟨by rw [hc 32 (by omega)]; exact h5.1, fun M e1 e2 e3 => ?_⟩
    obtain ⟨m, q⟩ := h5.2 M (EV_fr (fun c a b => (hc c (by omega)).symm) rfl e1) (RU_fr (hc 4 (by omega)).symm rfl e2) (CO_fr (hc 5 (by omega)).symm (hc 6 (by omega)).symm rfl rfl e3)
    exact ⟨m, KR_fr (fun c a b => hc c (by omega)) rfl (fun _ _ => rfl) (fun _ _ _ => rfl) q⟩
  · intro h0
    obtain ⟨m, q⟩ := h6 (by rw [← h37 15 (by omega)]; exact h0)
    exact ⟨m, KR_fr (fun c a b => hc c (by omega)) (h37 19 (by omega)) (fun i _ => by rw [f39]) (fun c a b => hc c (by omega)) q⟩
  · refine ⟨by rw [hc 33 (by omega)]; exact h7.1, by rw [h37 4 (by omega)]; exact h7.2.1, h7.2.2.1, ?_⟩
    refine UN_tr (h := 0) ht s x _ n (fun i _ => ?_) (fun j i _ _ => ?_) hsm h7.2.2.2
    · rw [hc 34 (by omega), hc 35 (by omega), hc 36 (by omega)]; exact ⟨rfl, rfl, rfl⟩
    · rw [hc 40 (by omega)]; rfl
theorem i_write {x : mj_X} (h : Inv x) (a : Int32) : PAIR mX6_write mX7_write [.int a] x := by
  obtain ⟨len, t, k, n, s, T, O, h⟩ := h
  obtain ⟨l1, l2, l3, l4⟩ := h.1
  refine (p_write shM x len l3 l1 a).mono (fun z y q => ?_)
  by_cases hc : ¬ (32 ≤ a ∧ a ≤ 126)
  · rw [if_pos hc] at q
    obtain ⟨q1, q2⟩ := q
    subst q2
    refine (q_write y len l3 l2 a).mono (fun z' y' q => ?_)
    rw [if_pos hc] at q
    obtain ⟨r1, r2⟩ := q
    subst r2
    exact ⟨by rw [r1, q1], len, t, k, n, s, T, O, h⟩
  · rw [if_neg hc] at q
    by_cases hl : len = 200
    · rw [if_pos hl] at q
      obtain ⟨q1, q2⟩ := q
      subst q2
      refine (q_write y len l3 l2 a).mono (fun z' y' q => ?_)
      rw [if_neg hc, if_pos hl] at q
      obtain ⟨r1, r2⟩ := q
      subst r2
      exact ⟨by rw [r1, q1], len, t, k, n, s, T, O, h⟩
    · rw [if_neg hl] at q
      obtain ⟨q1, q2⟩ := q
      subst q2
      refine (q_write _ len l3 (by rw [up_ne (by decide), up_ne (by decide)]; exact l2) a).mono (fun z' y' q => ?_)
      rw [if_neg hc, if_neg hl] at q
      obtain ⟨r1, r2⟩ := q
      subst r2
      refine ⟨by rw [r1, q1], len + 1, t, k, n, s, T, O, IV_re h (Nat.le_refl t) (fun c hc => ?_) (fun i hi => ?_) ?_ ?_⟩
      · rw [up_ne (by omega), up_ne (by omega), up_ne (by omega), up_ne (by omega)]
      · rw [up_eq, upd_ne (by omega), up_ne (by decide), up_ne (by decide), up_ne (by decide)]
      · refine ⟨?_, ?_, by omega, fun i hi => ?_⟩
        · simp [up_at]
        · simp [up_at]
        · simp only [up_at]
          by_cases e : i = len
          · subst e; simp
          · have := l4 i (by omega)
            simp [e]; exact this
      · unfold TD; simp only [up_at]; simp; exact h.2.1
theorem i_wipe {x : mj_X} (h : Inv x) : PAIR mX6_wipe mX7_wipe [] x := by
  obtain ⟨len, t, k, n, s, T, O, h⟩ := h
  obtain ⟨l1, l2, l3, l4⟩ := h.1
  refine (p_wipe shM x).mono (fun z y q => ?_)
  obtain ⟨q1, q2⟩ := q
  subst q2
  refine (q_wipe _).mono (fun z' y' q => ?_)
  obtain ⟨r1, r2⟩ := q
  subst r2
  refine ⟨by rw [r1, q1, up_ne (by decide), l1, l2], 0, t, k, n, s, T, O, IV_re h (Nat.le_refl t) (fun c hc => ?_) (fun i hi => ?_) ?_ ?_⟩
  · rw [up_ne (by omega), up_ne (by omega)]
  · rw [up_eq, upd_ne (by omega), up_ne (by decide)]
  · refine ⟨?_, ?_, by omega, fun i hi => absurd hi (Nat.not_lt_zero i)⟩
    · rw [up_ne (by decide), up_eq, upd_eq]; decide
    · rw [up_eq, upd_eq]; decide
  · unfold TD; simp only [up_at]; simp; exact h.2.1
theorem i_pass {x : mj_X} (h : Inv x) (a : Int32) : PAIR mX6_pass mX7_pass [.int a] x := by
  obtain ⟨len, t, k, n, s, T, O, h⟩ := h
  obtain ⟨t1, t2, t3⟩ := h.2.1
  refine (p_pass shM x a).mono (fun z y q => ?_)
  by_cases hc : ¬ (0 ≤ a ∧ a ≤ 9999)
  · rw [if_pos hc] at q
    obtain ⟨q1, q2⟩ := q
    subst q2
    refine (q_pass y a).mono (fun z' y' q => ?_)
    rw [if_pos hc] at q
    obtain ⟨r1, r2⟩ := q
    subst r2
    exact ⟨by rw [r1, q1], len, t, k, n, s, T, O, h⟩
  · rw [if_neg hc] at q
    have hc2 : 0 ≤ a ∧ a ≤ 9999 := Classical.not_not.mp hc
    by_cases hl : 9999 < x 0 7 + a
    · rw [if_pos hl] at q
      obtain ⟨q1, q2⟩ := q
      subst q2
      refine (q_pass y a).mono (fun z' y' q => ?_)
      rw [if_neg hc, if_pos (by rw [t2, ← t1]; exact hl)] at q
      obtain ⟨r1, r2⟩ := q
      subst r2
      exact ⟨by rw [r1, q1], len, t, k, n, s, T, O, h⟩
    · rw [if_neg hl] at q
      obtain ⟨q1, q2⟩ := q
      obtain ⟨i, hi, rfl⟩ := lit_le (m := 9999) (by decide) hc2.1 hc2.2
      subst q2
      have e37 : mj_up x 0 7 (x 0 7 + nI i) 37 = x 37 := up_ne (by decide)
      refine (q_pass _ _).mono (fun z' y' q => ?_)
      rw [e37, if_neg hc, if_neg (by rw [t2, ← t1]; exact hl)] at q
      obtain ⟨r1, r2⟩ := q
      subst r2
      rw [t1, nI_add, show (9999 : Int32) = nI 9999 by decide, nI_ltI (by decide) (by omega)] at hl
      refine ⟨by rw [r1, q1, t1, t2], len, t + i, k, n, s, T, O, IV_re h (by omega) (fun c hc => ?_) (fun i hi => ?_) ?_ ?_⟩
      · rw [up_ne (by omega), up_ne (by omega)]
      · rw [up_eq, upd_ne (by omega), up_ne (by decide)]
      · unfold TX; simp only [up_at]; simp; exact h.1
      · refine ⟨?_, ?_, by omega⟩
        · rw [up_ne (by decide), up_eq, upd_eq, t1, nI_add]
        · rw [up_eq, upd_eq, t2, nI_add]
theorem A_fr {x y : mj_X} {r : (Nat × Int32) ⊕ tx_P} (h : tx_A x y 7 r) : tx_fr x y 7 := by
  cases r with
  | inl e => exact h.2.2.2
  | inr s =>
    obtain ⟨pl, h⟩ := h
    exact h.2.2.2.2.2.2.2
theorem mA_fr {x y : mj_X} {z : Int32} {r : (Nat × Int32) ⊕ tx_P} (h : mt_A x y z r) : mt_fw x y := by
  cases r with
  | inl e => exact h.2.2
  | inr s => exact h.2.2.2.2.2.2
theorem IV_read {x y y' : mj_X} {len t k n s : Nat} {T O : Nat → Nat} (h : IV x len t k n s T O) (h1 : tx_fr x y 7) (h2 : mt_fw y y') : IV y' len t k n s T O := by
  have f : ∀ c, c ≠ 1 → c ≠ 7 → c ≠ 8 → c ≠ 9 → c ≠ 10 → c ≠ 37 → c ≠ 43 → c ≠ 44 → c ≠ 45 → y' c = x c := fun c a b c1 d e f g i j => by rw [h2.2 c f g i j, h1.2 c a b c1 d e]
  have g : ∀ i, i ≠ 10 → i ≠ 13 → i ≠ 14 → y' 37 i = x 37 i := fun i a b c => by rw [h2.1 i a b c, h1.2 37 (by decide) (by decide) (by decide) (by decide) (by decide)]
  have h11 : y' 1 1 = x 1 1 := by rw [h2.2 1 (by decide) (by decide) (by decide) (by decide), h1.1]
  refine IV_re h (Nat.le_refl t) (fun c hc => f c (by omega) (by omega) (by omega) (by omega) (by omega) (by omega) (by omega) (by omega) (by omega)) (fun i hi => g i (by omega) (by omega) (by omega)) ?_ ?_
  · unfold TX
    rw [h11, g 0 (by decide) (by decide) (by decide), f 2 (by decide) (by decide) (by decide) (by decide) (by decide) (by decide) (by decide) (by decide) (by decide), f 38 (by decide) (by decide) (by decide) (by decide) (by decide) (by decide) (by decide) (by decide) (by decide)]
    exact h.1
  · unfold TD
    rw [g 5 (by decide) (by decide) (by decide), f 0 (by decide) (by decide) (by decide) (by decide) (by decide) (by decide) (by decide) (by decide) (by decide)]
    exact h.2.1
theorem pkx_eq {x y : mj_X} {len : Nat} (h : TX x len) (h1 : tx_fr x y 7) : tx_pk (y 38) len = tx_pk (x 2) len ∧ y 37 0 = nI len := by
  constructor
  · funext a
    unfold tx_pk
    rw [h1.2 38 (by decide) (by decide) (by decide) (by decide) (by decide)]
    split
    · rename_i ha; exact (h.2.2.2 a ha).symm
    · rfl
  · rw [h1.2 37 (by decide) (by decide) (by decide) (by decide) (by decide)]; exact h.2.1
theorem i_fault {x : mj_X} (h : Inv x) : PAIR mX6_fault mX7_fault [] x := by
  obtain ⟨len, t, k, n, s, T, O, h⟩ := h
  obtain ⟨l1, l2, l3, l4⟩ := id h.1
  refine (p_fault shM x len l3 l1).mono (fun z y q => ?_)
  obtain ⟨q1, q2⟩ := q
  have pe := pkx_eq h.1 (A_fr q2)
  refine (q_fault y len l3 pe.2).mono (fun z' y' q => ?_)
  refine ⟨?_, len, t, k, n, s, T, O, IV_read h (A_fr q2) (mA_fr q)⟩
  rw [pe.1] at q
  rw [q1]
  generalize tx_all (tx_pk (x 2) len) len 200 tx_in = r at *
  cases r with
  | inl e => exact q.1
  | inr e => exact q.1
theorem i_reason {x : mj_X} (h : Inv x) : PAIR mX6_reason mX7_reason [] x := by
  obtain ⟨len, t, k, n, s, T, O, h⟩ := h
  obtain ⟨l1, l2, l3, l4⟩ := id h.1
  refine (p_reason shM x len l3 l1).mono (fun z y q => ?_)
  obtain ⟨q1, q2⟩ := q
  have pe := pkx_eq h.1 (A_fr q2)
  refine (q_reason y len l3 pe.2).mono (fun z' y' q => ?_)
  obtain ⟨q3, z0, q⟩ := q
  refine ⟨?_, len, t, k, n, s, T, O, IV_read h (A_fr q2) (mA_fr q)⟩
  rw [pe.1] at q
  rw [q1, q3]
  generalize tx_all (tx_pk (x 2) len) len 200 tx_in = r at *
  cases r with
  | inl e => exact q.2.1
  | inr e => exact q.2.1
