/-! the questions: answers alike -/
theorem mj_CP.mI {M : mj_M} {sh : List mj_S} {av : List Value} {x : mj_X} {z : Int32} {Q : Int32 → mj_X → Prop} (h : mj_CP M sh av x z) (hw : ∀ z' y, z' = z ∧ y = x → Q z' y) : mj_CI M sh av x Q := mj_CI.mono h hw
theorem IV_wq {x : mj_X} {len t k n s nb : Nat} {T O : Nat → Nat} (h : IV x len t k n s T O) (hk : KR x (mkn x n) T n nb) : wq x (mkn x n) O n := by
  intro j hj
  have f39 : mkn x n 39 = x 39 := mkn_k (by decide) (by omega)
  have hh : E1 x (mkn x n) T O k j := E1_fr (fun _ _ _ => rfl) f39 (h.2.2.2.1.2.2.2.1.1 j hj)
  have bd := mcnt_bd hh
  obtain ⟨c1, c2, c3, c4, c5, c6, c7, c8, c9⟩ := hh
  refine ⟨c1, c5, c6, c7, by omega, fun q => ?_, (hk.2.2 j hj).2.2.2, bd.1, bd.2.1, bd.2.2.1, bd.2.2.2⟩
  rcases c9 with c9 | c9
  · exact absurd c9.1 q
  · rw [c2, c9.2.1]
theorem most_bd {X M : mj_X} {o : Nat → Nat} {d : Int32} {t w n : Nat} (ht : t ≤ 9999) (hw : w ≤ 999) (hM : M 39 328 = nI w) (hn : n ≤ 41) (h : wq X M o n) : -99999 ≤ (most M d (nI t) n w).toInt ∧ (most M d (nI t) n w).toInt ≤ 738 := by
  have tt := nI_toInt (n := t) (by omega)
  have tw := nI_toInt (n := w) (by omega)
  have e9 : (-99999 : Int32).toInt = -99999 := by decide
  have ef : ∀ j, j < w → (nI t - M 39 328 + 1 + nI j).toInt = (t : Int) - w + 1 + j := by
    intro j hj
    have tj := nI_toInt (n := j) (by omega)
    have e2 : (nI t - M 39 328 + 1).toInt = (t : Int) - w + 1 := by
      have e1 : (nI t - M 39 328).toInt = (t : Int) - w := by rw [ti_sub (by rw [hM, tt, tw]; omega) (by rw [hM, tt, tw]; omega), hM, tt, tw]
      rw [ti_add (by rw [e1, tl_1]; omega) (by rw [e1, tl_1]; omega), e1, tl_1]
    rw [ti_add (by rw [e2, tj]; omega) (by rw [e2, tj]; omega), e2, tj]
  obtain ⟨⟨R1, -⟩, R3⟩ := lp_max (F := moF M d (nI t) n) (ok := fun _ => True) (v := fun j => msum M d (nI t - M 39 328 + 1 + nI j) n) (a := -99999) (n := w)
    (fun i r hi => ⟨fun q => rfl, fun q => absurd trivial q⟩)
  unfold most
  refine ⟨by rw [e9] at R1; exact R1, ?_⟩
  rcases R3 with R3 | ⟨j, hj, -, R3⟩
  · rw [R3, e9]; decide
  · rw [R3, msum_eq hw hM (by rw [ef j hj]; omega) (by rw [ef j hj]; omega) n hn h]
    have bd := (sI_bd (wT_bd h d w (nI t - M 39 328 + 1 + nI j).toInt)).2
    have : wS (wdv X d) (wo o) (wg M) w n (nI t - M 39 328 + 1 + nI j).toInt ≤ ((n * 18 : Nat) : Int) := bd
    omega
theorem lit_le {w : Int32} {m : Nat} (hm : m < 2 ^ 31) (h0 : 0 ≤ w) (h : w ≤ nI m) : ∃ i, i ≤ m ∧ w = nI i := by
  rw [Int32.le_iff_toInt_le, tl_0] at h0
  rw [Int32.le_iff_toInt_le, nI_toInt hm] at h
  exact ⟨w.toInt.toNat, by omega, nI_ofT h0⟩
theorem tell_eq {x M : mj_X} {T O : Nat → Nat} {k j : Nat} {w : Int32} (h0 : 0 ≤ w) (h1 : w ≤ 10) (hE : E1 x M T O k j) (hM : MR x M j) : m_ev M j w = ev_tell x j w := by
  obtain ⟨i, hi, rfl⟩ := lit_le (m := 10) (by decide) h0 h1
  obtain ⟨a1, a2, a3, a4, a5, a6, a7, a8, a9⟩ := hE
  obtain ⟨m1, m2, m3, m4⟩ := hM
  have hi2 : i = 0 ∨ i = 1 ∨ i = 2 ∨ i = 3 ∨ i = 4 ∨ i = 5 ∨ i = 6 ∨ i = 7 ∨ i = 8 ∨ i = 9 ∨ i = 10 := by omega
  unfold m_ev ev_tell ev_tellC
  rw [nI_clamp (by omega), ← a5]
  by_cases hk : x 14 j = 0
  · obtain ⟨-, b2, -, b4, -, -, b6, -, b7, -⟩ := a9.resolve_right (fun q => by
      rw [hk] at q
      rcases q.1 with q | q <;> exact absurd q (by decide))
    have b3 : mE M j 3 = x 15 j := by unfold mon at a7; rw [if_pos (by rw [← a5, hk])] at a7; rw [a7, a6]
    rw [hk]
    rcases hi2 with e | e | e | e | e | e | e | e | e | e | e <;> subst e
    · rw [if_pos (by decide), if_pos (by decide), a1]
    · rw [if_pos (by decide), if_neg (by decide), if_pos (by decide), a2, a3]
    · rw [if_pos (by decide), if_neg (by decide), if_neg (by decide), if_pos (by decide), ← a5, hk]
    · rw [if_neg (by decide), if_neg (by decide), if_neg (by decide), if_neg (by decide), if_neg (by decide), if_neg (by decide), if_neg (by decide), if_neg (by decide), if_neg (by decide), if_neg (by decide), if_pos rfl, if_pos (by decide), b3]
    · rw [if_neg (by decide), if_neg (by decide), if_neg (by decide), if_neg (by decide), if_neg (by decide), if_neg (by decide), if_neg (by decide), if_neg (by decide), if_neg (by decide), if_neg (by decide), if_pos rfl, if_neg (by decide), if_pos (by decide), b2]
    · rw [if_neg (by decide), if_neg (by decide), if_neg (by decide), if_neg (by decide), if_neg (by decide), if_neg (by decide), if_neg (by decide), if_neg (by decide), if_neg (by decide), if_neg (by decide), if_pos rfl, if_neg (by decide), if_neg (by decide), if_pos (by decide), b4]
    · rw [if_neg (by decide), if_neg (by decide), if_neg (by decide), if_neg (by decide), if_neg (by decide), if_neg (by decide), if_neg (by decide), if_neg (by decide), if_neg (by decide), if_neg (by decide), if_pos rfl, if_neg (by decide), if_neg (by decide), if_neg (by decide), if_pos (by decide), b6]
    · rw [if_neg (by decide), if_neg (by decide), if_neg (by decide), if_neg (by decide), if_neg (by decide), if_neg (by decide), if_neg (by decide), if_neg (by decide), if_neg (by decide), if_neg (by decide), if_pos rfl, if_neg (by decide), if_neg (by decide), if_neg (by decide), if_neg (by decide), if_pos (by decide), b7]
    · rw [if_neg (by decide), if_neg (by decide), if_neg (by decide), if_neg (by decide), if_pos (by decide), if_neg (by decide), if_neg (by decide), if_neg (by decide), if_neg (by decide), if_neg (by decide), if_pos rfl, if_neg (by decide), if_neg (by decide), if_neg (by decide), if_neg (by decide), if_neg (by decide), if_pos (by decide), m1]
    · rw [if_neg (by decide), if_pos (by decide), if_neg (by decide), if_neg (by decide), if_neg (by decide), if_pos (by decide), m2]
    · rw [if_neg (by decide), if_neg (by decide), if_pos (by decide), if_neg (by decide), if_neg (by decide), if_neg (by decide), if_neg (by decide), if_pos (by decide), if_neg (by decide)]
  · rw [if_neg hk]
    rcases hi2 with e | e | e | e | e | e | e | e | e | e | e <;> subst e
    · rw [if_pos (by decide), if_pos (by decide), a1]
    · rw [if_pos (by decide), if_neg (by decide), if_pos (by decide), a2, a3]
    · rw [if_pos (by decide), if_neg (by decide), if_neg (by decide), if_pos (by decide), a5]
    iterate 6 (rw [if_neg (by decide), if_neg (by decide), if_pos (by rw [if_neg (by decide)]; exact hk), if_neg (by decide), if_neg (by decide), if_neg (by decide), if_neg (by decide), if_neg (by decide)])
    · rw [if_neg (by decide), if_pos (by decide), if_neg (by decide), if_neg (by decide), if_neg (by decide), if_pos (by decide), m2]
    · by_cases hk2 : x 14 j = 2
      · rw [if_neg (by decide), if_neg (by decide), if_neg (by rw [if_pos (by decide)]; exact fun q => q hk2), if_pos (by decide), if_neg (by decide), if_neg (by decide), if_neg (by decide), if_neg (by decide), if_pos (by decide), if_pos hk2, m3]
      · rw [if_neg (by decide), if_neg (by decide), if_pos (by rw [if_pos (by decide)]; exact hk2), if_neg (by decide), if_neg (by decide), if_neg (by decide), if_neg (by decide), if_pos (by decide), if_neg hk2]
theorem i_event {x : mj_X} (h : Inv x) (e w : Int32) : PAIR mX6_event mX7_event [.int e, .int w] x := by
  obtain ⟨len, t, k, n, s, T, O, h⟩ := h
  obtain ⟨nb, hk⟩ := IV_kr h
  have hn := h.2.2.2.1.2.2.1
  have hb := hk.1
  refine (p_event shM x n nb s k (IV_CW h hk) e w).mI (fun z y q => ?_)
  obtain ⟨q1, q2⟩ := q
  subst q2
  refine (q_event y n hn h.2.2.2.1.2.1 (IV_mvd h) nb (by omega) hk.2.1.2.1 e w).mono (fun z' y' q => ?_)
  by_cases hc : 0 ≤ e ∧ e < nI n ∧ 0 ≤ w ∧ w ≤ 10
  · rw [if_pos hc] at q q1
    obtain ⟨r1, r2⟩ := q
    subst r2
    obtain ⟨j, hj, rfl⟩ := nI_of (x := e) (by rw [Int32.not_lt]; exact hc.1)
    have hjn : j < n := (nI_ltI hj (by omega)).mp hc.2.1
    rw [nI_clamp hj] at q1 r1
    refine ⟨?_, len, t, k, n, s, T, O, IV_know h⟩
    rw [r1, q1]
    exact tell_eq hc.2.2.1 hc.2.2.2 (E1_fr (fun _ _ _ => rfl) (mkn_k (by decide) (by omega)) (h.2.2.2.1.2.2.2.1.1 j hjn)) (hk.2.2 j hjn)
  · rw [if_neg hc] at q q1
    obtain ⟨r1, r2⟩ := q
    subst r2
    exact ⟨by rw [r1, q1], len, t, k, n, s, T, O, h⟩
theorem i_sum {x : mj_X} (h : Inv x) (d a : Int32) : PAIR mX6_sum mX7_sum [.int d, .int a] x := by
  obtain ⟨len, t, k, n, s, T, O, h⟩ := h
  obtain ⟨nb, hk⟩ := IV_kr h
  have hn := h.2.2.2.1.2.2.1
  have hb := hk.1
  obtain ⟨w, w1, w2, w3, w4⟩ := ru_w h.2.2.2.1.2.2.2.2.1
  refine (p_sum shM x n nb s k (IV_CW h hk) d a).mI (fun z y q => ?_)
  obtain ⟨q1, q2⟩ := q
  subst q2
  refine (q_sum y n hn h.2.2.2.1.2.1 (IV_mvd h) nb (by omega) hk.2.1.2.1 w w2 w4 d a).mono (fun z' y' q => ?_)
  by_cases hc : dr d = true ∧ 0 ≤ a ∧ a ≤ 9999
  · rw [if_pos hc] at q q1
    obtain ⟨r1, r2⟩ := q
    subst r2
    refine ⟨?_, len, t, k, n, s, T, O, IV_know h⟩
    obtain ⟨i, hi, rfl⟩ := lit_le (m := 9999) (by decide) hc.2.1 hc.2.2
    rw [hv_most hi w1 w2 w3 (by rw [mkn_k (by decide) (by omega)]; exact w4) (by omega) (IV_wq h hk)] at q1
    rw [r1, q1]
    generalize most (mkn y n) d (nI i) n w = v
    by_cases hv : v < 0
    · rw [if_pos hv, if_neg (fun r => by rw [Int32.lt_iff_toInt_lt] at r hv; omega)]
    · rw [if_neg hv]
      by_cases hv2 : 0 < v
      · rw [if_pos hv2]
      · rw [if_neg hv2]
        rw [Int32.lt_iff_toInt_lt, tl_0] at hv hv2
        rw [← Int32.toInt_inj, tl_0]; omega
  · rw [if_neg hc] at q q1
    obtain ⟨r1, r2⟩ := q
    subst r2
    exact ⟨by rw [r1, q1], len, t, k, n, s, T, O, h⟩
theorem i_need {x : mj_X} (h : Inv x) (d : Int32) : PAIR mX6_need mX7_need [.int d] x := by
  obtain ⟨len, t, k, n, s, T, O, h⟩ := h
  obtain ⟨nb, hk⟩ := IV_kr h
  have hn := h.2.2.2.1.2.2.1
  have hb := hk.1
  obtain ⟨w, w1, w2, w3, w4⟩ := ru_w h.2.2.2.1.2.2.2.2.1
  obtain ⟨t1, t2, t3⟩ := h.2.1
  refine (p_need shM x n nb s k (IV_CW h hk) d).mI (fun z y q => ?_)
  obtain ⟨q1, q2⟩ := q
  subst q2
  refine (q_need y n hn h.2.2.2.1.2.1 (IV_mvd h) nb (by omega) hk.2.1.2.1 w w2 w4 t t3 t2 d).mono (fun z' y' q => ?_)
  by_cases hc : dr d = true
  · rw [if_pos hc] at q q1
    obtain ⟨r1, r2⟩ := q
    subst r2
    refine ⟨?_, len, t, k, n, s, T, O, IV_know h⟩
    rw [r1, q1]
    congr 1
    have w5 : mkn y n 39 328 = nI w := by rw [mkn_k (by decide) (by omega)]; exact w4
    have hmo := hv_most (d := d) t3 w1 w2 w3 w5 (by omega) (IV_wq h hk)
    have hbd := most_bd (d := d) t3 w2 w5 (by omega) (IV_wq h hk)
    obtain ⟨l1, l2, l3⟩ := h.2.2.2.1.2.2.2.2.1 1 (by decide)
    have e0 : (mj_st0 1).toInt = 1 := by decide
    have e1 : (mj_st1 1).toInt = 99 := by decide
    rw [e0] at l2; rw [e1] at l3
    refine lp_find_congr 99 0 (fun j _ hj => ?_)
    unfold m_needP needP
    rw [t1, hmo, mkn_k (by decide) (by omega), show y 39 329 = y 4 1 from l1, any_eq d (nI t) hk.2.1, decide_eq_decide]
    have tj := nI_toInt (n := j + 1) (by omega)
    generalize most (mkn y n) d (nI t) n w = v at *
    have hs : (y 4 1 - v).toInt = (y 4 1).toInt - v.toInt := ti_sub (by omega) (by omega)
    cases lp_any (mn_has (mkn y n) d (nI t)) nb with
    | true =>
      rw [if_pos rfl]
      have m1 : (2 * nI (j + 1)).toInt = 2 * ((j + 1 : Nat) : Int) := by rw [ti_mul (by rw [tl_2, tj]; omega) (by rw [tl_2, tj]; omega), tl_2, tj]
      have m2 : (nI (j + 1) * 2).toInt = 2 * ((j + 1 : Nat) : Int) := by rw [Int32.mul_comm]; exact m1
      have m3 : (v + 2 * nI (j + 1)).toInt = v.toInt + 2 * ((j + 1 : Nat) : Int) := by rw [ti_add (by omega) (by omega), m1]
      rw [Int32.le_iff_toInt_le, Int32.le_iff_toInt_le, m3, m2, hs]
      omega
    | false =>
      rw [if_neg (by decide), Int32.mul_one, Int32.one_mul]
      have m3 : (v + nI (j + 1)).toInt = v.toInt + ((j + 1 : Nat) : Int) := by rw [ti_add (by omega) (by omega), tj]
      rw [Int32.le_iff_toInt_le, Int32.le_iff_toInt_le, m3, tj, hs]
      omega
  · rw [if_neg hc] at q q1
    obtain ⟨r1, r2⟩ := q
    subst r2
    exact ⟨by rw [r1, q1], len, t, k, n, s, T, O, h⟩
theorem i_banned {x : mj_X} (h : Inv x) (d a : Int32) : PAIR mX6_banned mX7_banned [.int d, .int a] x := by
  obtain ⟨len, t, k, n, s, T, O, h⟩ := h
  obtain ⟨nb, hk⟩ := IV_kr h
  have hn := h.2.2.2.1.2.2.1
  have hb := hk.1
  refine (p_banned shM x n nb s k (IV_CW h hk) d a).mI (fun z y q => ?_)
  obtain ⟨q1, q2⟩ := q
  subst q2
  refine (q_banned y n hn h.2.2.2.1.2.1 (IV_mvd h) nb (by omega) hk.2.1.2.1 d a).mono (fun z' y' q => ?_)
  by_cases hc : dr d = true ∧ 0 ≤ a ∧ a ≤ 99999
  · rw [if_pos hc] at q q1
    obtain ⟨r1, r2⟩ := q
    subst r2
    exact ⟨by rw [r1, q1, any_eq d a hk.2.1], len, t, k, n, s, T, O, IV_know h⟩
  · rw [if_neg hc] at q q1
    obtain ⟨r1, r2⟩ := q
    subst r2
    exact ⟨by rw [r1, q1], len, t, k, n, s, T, O, h⟩
theorem i_code {x : mj_X} (h : Inv x) (a w : Int32) : PAIR mX6_code mX7_code [.int a, .int w] x := by
  obtain ⟨len, t, k, n, s, T, O, h⟩ := h
  obtain ⟨nb, hk⟩ := IV_kr h
  refine (p_code shM x n nb s k (IV_CW h hk) a w).mI (fun z y q => ?_)
  obtain ⟨q1, q2⟩ := q
  subst q2
  refine (q_code y k h.2.2.1.2.2.2.1 h.2.2.1.2.1 a w).mI (fun z' y' q => ?_)
  obtain ⟨r1, r2⟩ := q
  subst r2
  refine ⟨?_, len, t, k, n, s, T, O, h⟩
  rw [r1, q1]
  by_cases hc : 0 ≤ a ∧ a < nI k ∧ 0 ≤ w ∧ w ≤ 1
  · rw [if_pos hc, if_pos hc]
    have hk6 := h.2.2.1.2.2.2.1
    obtain ⟨j, hj, rfl⟩ := nI_of (x := a) (by rw [Int32.not_lt]; exact hc.1)
    have hjn : j < k := (nI_ltI hj (by omega)).mp hc.2.1
    rw [nI_clamp hj, (h.2.2.1.2.2.2.2 j hjn).1, (h.2.2.1.2.2.2.2 j hjn).2.1]
  · rw [if_neg hc, if_neg hc]
theorem i_free {x : mj_X} (h : Inv x) (d : Int32) : PAIR mX6_free mX7_free [.int d] x := by
  obtain ⟨len, t, k, n, s, T, O, h⟩ := h
  obtain ⟨nb, hk⟩ := IV_kr h
  have hn := h.2.2.2.1.2.2.1
  have hb := hk.1
  obtain ⟨t1, t2, t3⟩ := h.2.1
  refine (p_free shM x n nb s k (IV_CW h hk) d).mI (fun z y q => ?_)
  obtain ⟨q1, q2⟩ := q
  subst q2
  obtain ⟨K, k1, k2, k3, k4⟩ := free_ok (KB_BF (by omega) hk.2.1) (d := d) 83 t (by omega) (Nat.lt_of_le_of_lt (cN_le _ nb) (by omega))
  refine (q_free y n hn h.2.2.2.1.2.1 (IV_mvd h) nb (by omega) hk.2.1.2.1 t t2 d K (fun j hj => by rw [← any_eq d _ hk.2.1]; exact k3 j hj) (by rw [← any_eq d _ hk.2.1]; exact k4)).mono (fun z' y' q => ?_)
  by_cases hc : dr d = true
  · rw [if_pos hc] at q q1
    obtain ⟨r1, r2⟩ := q
    subst r2
    exact ⟨by rw [r1, q1, t1, k1], len, t, k, n, s, T, O, IV_know h⟩
  · rw [if_neg hc] at q q1
    obtain ⟨r1, r2⟩ := q
    subst r2
    exact ⟨by rw [r1, q1], len, t, k, n, s, T, O, h⟩
theorem i_days {x : mj_X} (h : Inv x) (d a b : Int32) : PAIR mX6_days mX7_days [.int d, .int a, .int b] x := by
  obtain ⟨len, t, k, n, s, T, O, h⟩ := h
  obtain ⟨nb, hk⟩ := IV_kr h
  have hn := h.2.2.2.1.2.2.1
  have hb := hk.1
  refine (p_days shM x n nb s k (IV_CW h hk) d a b).mI (fun z y q => ?_)
  obtain ⟨q1, q2⟩ := q
  subst q2
  obtain ⟨w, v1, v2, v3⟩ := end_ok (d := d) nb (by omega) hk.2.1.2.2
  have hA : (a.toNatClampNeg : Int) < 2 ^ 31 := by
    have := a.toInt_lt
    have e : a.toNatClampNeg = a.toInt.toNat := rfl
    omega
  generalize hE : lp_f (menF (mkn y n) d) (-1) nb = E at *
  have hm : ∃ m : Int, m ≤ 50000 ∧ -2147483648 ≤ m ∧ (if b < E then b else E).toInt = m := by
    refine ⟨_, ?_, ?_, rfl⟩
    · by_cases hq : b < E
      · rw [if_pos hq]; rw [Int32.lt_iff_toInt_lt] at hq; omega
      · rw [if_neg hq]; omega
    · exact Int32.le_toInt _
  obtain ⟨m, m1, m0, m2⟩ := hm
  refine (q_days y n hn h.2.2.2.1.2.1 (IV_mvd h) nb (by omega) hk.2.1.2.1 d a b (m + 1 - a.toNatClampNeg).toNat (fun j hj => by
      rw [hE, Int32.le_iff_toInt_le, m2, nI_toInt (by omega)]; omega) (by
      rw [hE, Int32.lt_iff_toInt_lt, m2, nI_toInt (by omega)]; omega)).mono (fun z' y' q => ?_)
  by_cases hc : dr d = true ∧ 0 ≤ a ∧ b ≤ 99999 ∧ a ≤ b
  · rw [if_pos hc] at q1
    have hc2 : dr d = true ∧ 0 ≤ a ∧ a ≤ 99999 ∧ a ≤ b ∧ b ≤ 99999 := ⟨hc.1, hc.2.1, Int32.le_trans hc.2.2.2 hc.2.2.1, hc.2.2.2, hc.2.2.1⟩
    rw [if_pos hc2] at q
    obtain ⟨r1, r2⟩ := q
    subst r2
    refine ⟨?_, len, t, k, n, s, T, O, IV_know h⟩
    obtain ⟨A, hA1, rfl⟩ := lit_le (m := 99999) (by decide) hc2.2.1 hc2.2.2.1
    obtain ⟨B, hB1, rfl⟩ := lit_le (m := 99999) (by decide) (Int32.le_trans hc2.2.1 hc2.2.2.2.1) hc2.2.2.2.2
    have hAB : A ≤ B := (nI_leI (by omega) (by omega)).mp hc.2.2.2
    rw [nI_clamp (by omega)] at r1
    rw [r1, q1, mdf_eq hk.2.1, show (0 : Int32) = nI 0 by decide, days_ok (by omega) (KB_BF (by omega) hk.2.1) hB1 84 A 0 (by omega) (by
      rw [if_neg (by omega)]; exact Nat.le_trans (Nat.add_le_add_right (cN_le _ nb) 2) (by omega)), Nat.zero_add]
    congr 1
    have tb := nI_toInt (n := B) (by omega)
    by_cases hq : nI B < E
    · rw [if_pos hq, tb] at m2
      rw [show (m + 1 - A).toNat = B + 1 - A by omega]
    · rw [if_neg hq] at m2
      rw [Int32.lt_iff_toInt_lt, tb] at hq
      have hle : (m + 1 - A).toNat ≤ B + 1 - A := by omega
      rw [show B + 1 - A = (m + 1 - A).toNat + (B + 1 - A - (m + 1 - A).toNat) by omega, cN_add, cN_none (n := B + 1 - A - (m + 1 - A).toNat) (fun j hj => after_end (by omega) hk.2.1 v3 (by omega) (by omega)), Nat.add_zero]
  · rw [if_neg hc] at q1
    rw [if_neg (fun r => hc ⟨r.1, r.2.1, r.2.2.2.2, r.2.2.2.1⟩)] at q
    obtain ⟨r1, r2⟩ := q
    subst r2
    exact ⟨by rw [r1, q1], len, t, k, n, s, T, O, h⟩
