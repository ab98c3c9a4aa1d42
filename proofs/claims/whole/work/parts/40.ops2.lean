/-! rule, undo, would, lay -/
theorem i_rule {x : mj_X} (h : Inv x) (a v : Int32) : PAIR mX6_rule mX7_rule [.int a, .int v] x := by
  obtain ⟨len, t, k, n, s, T, O, h⟩ := h
  obtain ⟨nb, hk⟩ := IV_kr h
  have hn := h.2.2.2.1.2.2.1
  have hs6 := h.2.2.2.2.2.2.2.2.1
  have hst := h.2.2.2.2.2.2.2.1
  have hru := h.2.2.2.1.2.2.2.2.1
  refine (p_rule shM x n nb s k (IV_CW h hk) a v).mono (fun z y q => ?_)
  by_cases hR : ru_ok a v = false
  · rw [if_pos hR] at q
    obtain ⟨q1, q2⟩ := q
    subst q2
    refine (q_rule y s hs6 hst a v).mono (fun z' y' q => ?_)
    rw [m_rok_eq, if_pos hR] at q
    obtain ⟨r1, r2⟩ := q
    subst r2
    exact ⟨by rw [r1, q1], len, t, k, n, s, T, O, h⟩
  · rw [if_neg hR] at q
    have hR2 : ru_ok a v = true := by simpa using hR
    unfold ru_ok at hR2
    rw [decide_eq_true_eq] at hR2
    obtain ⟨g1, g2, g3, g4⟩ := hR2
    obtain ⟨i, hi, rfl⟩ := nI_of (x := a) (by rw [Int32.not_lt]; exact g1)
    have hi6 : i < 6 := by
      rw [show (6 : Int32) = nI 6 by decide] at g2
      exact (nI_ltI hi (by decide)).mp g2
    rw [nI_clamp hi] at q g3 g4
    by_cases hB : x 4 i = v
    · rw [if_pos hB] at q
      obtain ⟨q1, q2⟩ := q
      subst q2
      refine (q_rule y s hs6 hst (nI i) v).mono (fun z' y' q => ?_)
      rw [m_rok_eq, if_neg hR, nI_clamp hi, (hru i hi6).1, if_pos hB] at q
      obtain ⟨r1, r2⟩ := q
      subst r2
      exact ⟨by rw [r1, q1], len, t, k, n, s, T, O, h⟩
    · rw [if_neg hB] at q
      obtain ⟨q0, w, q1, q2⟩ := q
      have hyx : ∀ c, 37 ≤ c → y c = x c := fun c hc => by rw [q2, fr_it (Or.inr (by omega)), no_hi q1 (by omega), up_ne (by omega)]
      refine (q_rule y s hs6 (by rw [hyx 37 (by decide)]; exact hst) (nI i) v).mono (fun z' y' q => ?_)
      rw [m_rok_eq, if_neg hR, nI_clamp hi, hyx 39 (by decide), (hru i hi6).1, if_neg hB] at q
      obtain ⟨r0, v1, r1, r2⟩ := q
      obtain ⟨m1, m2, m3, m4, m5, m6⟩ := r1
      obtain ⟨c1, c2, c3, c4⟩ := q1
      have h39 : v1 39 = x 39 := by rw [m6 39 (by decide) (by decide), hyx 39 (by decide)]
      have g : ∀ c, c ≠ 37 → c ≠ 39 → c ≠ 40 → y' c = y c := fun c a b e => by rw [r2, up_ne b, m6 c a e]
      have lo : ∀ c, c < 20 → y' c = mj_up x 4 i v c := fun c hc => by rw [g c (by omega) (by omega) (by omega), q2, fr_it (Or.inl hc), c4 c (by omega) (by omega) (by omega) (by omega)]
      have lo2 : ∀ c, c < 20 → c ≠ 4 → y' c = x c := fun c hc h4 => by rw [lo c hc, up_ne h4]
      have hi3 : ∀ c, 33 ≤ c → c < 37 → y' c = w c := fun c a b => by rw [g c (by omega) (by omega) (by omega), q2, fr_it (Or.inr (by omega))]
      have e34 : y' 34 (mn_u s) = 5 := by rw [hi3 34 (by decide) (by decide)]; exact c3.1
      have e35 : y' 35 (mn_u s) = nI i := by rw [hi3 35 (by decide) (by decide)]; exact c3.2.1
      have e36 : y' 36 (mn_u s) = x 4 i := by rw [hi3 36 (by decide) (by decide)]; exact c3.2.2
      have g37 : ∀ i, i ≠ 4 → i ≠ 15 → y' 37 i = x 37 i := fun i a b => by rw [r2, up_ne (by decide), m5 i a b, hyx 37 (by decide)]
      have g39 : ∀ b, b ≠ 328 + i → y' 39 b = x 39 b := fun b hb => by rw [r2, up_eq, upd_ne hb, h39]
      have hev : EV y' y' T O k n := EV_ev (fun c a b j _ => by rw [lo2 c (by omega) (by omega)]) (fun b hb => g39 b (by omega)) (fun _ _ => ⟨rfl, rfl⟩) h.2.2.2.1.2.2.2.1
      refine ⟨by rw [r0, q0], len, t, k, n, mn_u s + 1, T, O, ?_⟩
      refine IV_gen h (Nat.le_refl t) (fun c hc => ?_) (g37 0 (by decide) (by decide)) (g37 6 (by decide) (by decide)) ⟨?_, ?_, h.2.1.2.2⟩ ⟨?_, ?_, hn, hev, ?_, h.2.2.2.1.2.2.2.2.2⟩ (KN_all (w := w) (by omega) (fun c hc => ?_)) ?_ ?_ ?_ (fun b hb => ?_) (fun j b hj hb => ?_) (fun b hb => ?_) ?_ ?_ ?_
      · by_cases hc7 : c < 37
        · exact lo2 c (by omega) (by omega)
        · rw [g c (by omega) (by omega) (by omega), hyx c (by omega)]
      · rw [lo2 0 (by decide) (by decide)]; exact h.2.1.1
      · rw [g37 5 (by decide) (by decide)]; exact h.2.1.2.1
      · rw [lo2 11 (by decide) (by decide)]; exact h.2.2.2.1.1
      · rw [g39 334 (by omega)]; exact h.2.2.2.1.2.1
      · intro b hb
        rw [lo 4 (by decide), up_eq]
        by_cases e : b = i
        · subst e
          rw [r2, up_eq, upd_eq, upd_eq]
          exact ⟨rfl, Int32.le_iff_toInt_le.mp g3, Int32.le_iff_toInt_le.mp g4⟩
        · rw [g39 (328 + b) (by omega), upd_ne e]; exact hru b hb
      · rw [g c (by omega) (by omega) (by omega), q2]
      · rw [r2, up_ne (by decide)]; exact m4
      · rw [hi3 33 (by decide) (by decide)]; exact c1
      · rw [r2, up_ne (by decide)]; exact m1
      · have := c2 b hb
        rw [up_ne (by decide), up_ne (by decide), up_ne (by decide)] at this
        rw [hi3 34 (by decide) (by decide), hi3 35 (by decide) (by decide), hi3 36 (by decide) (by decide)]; exact this
      · rw [r2, up_ne (by decide), m2 j b hj hb, hyx 40 (by decide)]
      · rw [r2, up_ne (by decide), m3 b hb, hyx 39 (by decide)]
      · exact Or.inr (Or.inl ⟨e34, i, hi6, e35⟩)
      · unfold ud_n; rw [e34, if_neg (by decide)]
      · have : udc y' (mn_u s) = mj_up y' 4 i (x 4 i) := by
          unfold udc; rw [e34, if_neg (by decide), if_pos rfl, e35, e36, nI_clamp hi]
        rw [this]
        refine ⟨fun b hb => ?_, fun c a b j hj => by rw [up_ne (by omega), lo2 c (by omega) (by omega)]⟩
        rw [up_at]
        by_cases e : b = i
        · subst e; rw [if_pos ⟨rfl, rfl⟩]
        · rw [if_neg (fun q => e q.2), lo 4 (by decide), up_eq, upd_ne e]
theorem ud_eq {x : mj_X} {s n c : Nat} (h1 : c ≠ 11) (h2 : c ≠ 33) : ud x s n c = udc x s c := by
  have hd : ∀ c, c ≠ 33 → ch_dr x s c = x c := fun c hc => by unfold ch_dr; rw [up_ne hc, up_ne hc, up_ne hc, up_ne hc]
  unfold ud udc
  split
  · rw [up_ne h1, hd c h2]
  · split
    · unfold mj_up
      by_cases e : c = 4
      · rw [if_pos e, if_pos e, hd 4 (by decide)]
      · rw [if_neg e, if_neg e, hd c h2]
    · have := tc_in (v := x 34 s)
      unfold mj_up
      by_cases e : c = ev_tc (x 34 s)
      · rw [if_pos e, if_pos e, hd _ (by omega)]
      · rw [if_neg e, if_neg e, hd c h2]
theorem udc_lo {x : mj_X} {s c : Nat} (h1 : c ≠ 4) (h2 : c < 12 ∨ 19 < c) : udc x s c = x c := by
  have := tc_in (v := x 34 s)
  unfold udc
  split
  · rfl
  · split
    · rw [up_ne h1]
    · rw [up_ne (by omega)]
theorem i_undo {x : mj_X} (h : Inv x) : PAIR mX6_undo mX7_undo [] x := by
  obtain ⟨len, t, k, n, s, T, O, h⟩ := h
  obtain ⟨nb, hk⟩ := IV_kr h
  have hn := h.2.2.2.1.2.2.1
  have hcw := IV_CW h hk
  obtain ⟨s1, s2, s3, s4⟩ := id h.2.2.2.2.2.2
  cases s with
  | zero =>
    refine (p_undo0 shM x s1).mI (fun z y q => ?_)
    obtain ⟨q1, q2⟩ := q
    subst q2
    refine (c_mundo0 y s2).mI (fun z' y' q => ?_)
    obtain ⟨r1, r2⟩ := q
    subst r2
    exact ⟨by rw [r1, q1], len, t, k, n, 0, T, O, h⟩
  | succ s =>
    obtain ⟨u1, ⟨T', O', u2, u3, u4, u5, u6⟩, u7⟩ := s4
    refine (p_undo shM x n nb s k hcw u1).mono (fun z y q => ?_)
    obtain ⟨q1, q2⟩ := q
    have tc := tc_in (v := x 34 s)
    have hyx : ∀ c, 37 ≤ c → y c = x c := fun c hc => by rw [q2, fr_it (Or.inr (by omega)), ud_eq (by omega) (by omega), udc_lo (by omega) (by omega)]
    refine (c_mundo y s (by omega) (by rw [hyx 37 (by decide)]; exact s2)).mono (fun z' y' q => ?_)
    obtain ⟨r0, m1, m2, m3, m4, m5⟩ := q
    have g : ∀ c, c ≠ 37 → c ≠ 39 → y' c = y c := fun c a b => m5 c a b
    have lo : ∀ c, (c < 20 ∨ 32 < c) → c ≠ 37 → c ≠ 39 → c ≠ 11 → c ≠ 33 → y' c = udc x s c := fun c a b e f i => by rw [g c b e, q2, fr_it a, ud_eq f i]
    have lo2 : ∀ c, (c < 12 ∨ 32 < c) → c ≠ 37 → c ≠ 39 → c ≠ 11 → c ≠ 33 → c ≠ 4 → y' c = x c := fun c a b e f i j => by rw [lo c (by omega) b e f i, udc_lo j (by omega)]
    have g37 : ∀ i, i ≠ 4 → i ≠ 15 → y' 37 i = x 37 i := fun i a b => by rw [m4 i a b, hyx 37 (by decide)]
    have g39 : ∀ i, i < 335 → y' 39 i = x 40 (335 * s + i) := fun i hi => by rw [m2 i hi, hyx 40 (by decide)]
    have hsm : sm (udc x s) y' (ud_n x s n) := ⟨fun i hi => by rw [lo 4 (by omega) (by decide) (by decide) (by decide) (by decide)], fun c a b j hj => by rw [lo c (by omega) (by omega) (by omega) (by omega) (by omega)]⟩
    refine ⟨by rw [r0, q1], len, t, k, ud_n x s n, s, T', O', ?_, ⟨?_, ?_, h.2.1.2.2⟩, ⟨?_, ?_, h.2.2.1.2.2.1, ?_⟩, ⟨?_, ?_, u5, ?_, ?_, u6⟩, KN_all (w := ud x s n) (by omega) (fun c hc => ?_), fun q => absurd m3 q, ⟨?_, m1, by omega, ?_⟩⟩
    · unfold TX
      rw [lo2 1 (by omega) (by decide) (by decide) (by decide) (by decide) (by decide), lo2 2 (by omega) (by decide) (by decide) (by decide) (by decide) (by decide), lo2 38 (by omega) (by decide) (by decide) (by decide) (by decide) (by decide), g37 0 (by decide) (by decide)]
      exact h.1
    · rw [lo2 0 (by omega) (by decide) (by decide) (by decide) (by decide) (by decide)]; exact h.2.1.1
    · rw [g37 5 (by decide) (by decide)]; exact h.2.1.2.1
    · rw [lo2 3 (by omega) (by decide) (by decide) (by decide) (by decide) (by decide)]; exact h.2.2.1.1
    · rw [g37 6 (by decide) (by decide)]; exact h.2.2.1.2.1
    · exact CO_fr (lo2 5 (by omega) (by decide) (by decide) (by decide) (by decide) (by decide)) (lo2 6 (by omega) (by decide) (by decide) (by decide) (by decide) (by decide)) (lo2 41 (by omega) (by decide) (by decide) (by decide) (by decide) (by decide)) (lo2 42 (by omega) (by decide) (by decide) (by decide) (by decide) (by decide)) h.2.2.1.2.2.2
    · rw [g 11 (by decide) (by decide), q2, fr_it (Or.inl (by decide))]
      have e11 : ch_dr x s 11 = x 11 := by unfold ch_dr; rw [up_ne (by decide), up_ne (by decide), up_ne (by decide), up_ne (by decide)]
      unfold ud ud_n
      split
      · rw [up_eq, upd_eq]
      · split
        · rw [up_ne (by decide), e11]; exact h.2.2.2.1.1
        · rw [up_ne (by omega), e11]; exact h.2.2.2.1.1
    · rw [g39 334 (by decide)]; exact u4
    · exact EV_sm (M := hz (fun i => x 40 (335 * s + i))) hsm (fun i hi => g39 i (by omega)) (fun _ _ => ⟨rfl, rfl⟩) u2
    · exact RU_sm (M := hz (fun i => x 40 (335 * s + i))) hsm (fun i hi => g39 (328 + i) (by omega)) u3
    · rw [g c (by omega) (by omega), q2]
    · rw [g 33 (by decide) (by decide), q2, fr_it (Or.inr (by decide))]
      have e33 : ch_dr x s 33 3 = nI s := by unfold ch_dr; simp [up_at]
      unfold ud
      split
      · rw [up_ne (by decide)]; exact e33
      · split
        · rw [up_ne (by decide)]; exact e33
        · rw [up_ne (by omega)]; exact e33
    · refine UN_tr (h := 0) (Nat.le_refl t) s (udc x s) _ _ (fun i _ => ?_) (fun j i _ _ => ?_) hsm u7
      · rw [lo 34 (by omega) (by decide) (by decide) (by decide) (by decide), lo 35 (by omega) (by decide) (by decide) (by decide) (by decide), lo 36 (by omega) (by decide) (by decide) (by decide) (by decide)]; exact ⟨rfl, rfl, rfl⟩
      · rw [g 40 (by decide) (by decide), hyx 40 (by decide)]; rfl
theorem i_would {x : mj_X} (h : Inv x) (d o c : Int32) : PAIR mX6_would mX7_would [.int d, .int o, .int c] x := by
  obtain ⟨len, t, k, n, s, T, O, h⟩ := h
  obtain ⟨nb, hk⟩ := IV_kr h
  have hn := h.2.2.2.1.2.2.1
  have hb := hk.1
  obtain ⟨t1, t2, t3⟩ := h.2.1
  obtain ⟨k1, k2, k3, k4⟩ := h.2.2.1
  have hk6 := k4.1
  have hsn := h.2.2.2.1.2.1
  refine (p_would shM x n nb s k (IV_CW h hk) d o c).mono (fun z y q => ?_)
  have ho : ∀ y : mj_X, y 37 = x 37 → m_ofok y k d o c = of_ok x k d o c := fun y hy => by unfold m_ofok of_ok; rw [hy, t1, t2]
  by_cases hc : of_ok x k d o c = false
  · rw [if_pos hc] at q
    obtain ⟨q1, q2⟩ := q
    subst q2
    refine (q_would y n hn hsn k hk6 k2 d o c (fun r => ?_) (fun r => ?_)).mono (fun z' y' q => ?_)
    · rw [ho y rfl, hc] at r; cases r
    · rw [ho y rfl, hc] at r; cases r
    · rw [ho y rfl, if_pos hc] at q
      obtain ⟨r1, r2⟩ := q
      subst r2
      exact ⟨by rw [r1, q1], len, t, k, n, s, T, O, h⟩
  · rw [if_neg hc] at q
    obtain ⟨v, q1, q2, q3⟩ := q
    have hok : of_ok x k d o c = true := by simpa using hc
    unfold of_ok at hok
    rw [decide_eq_true_eq] at hok
    obtain ⟨-, o0, o1, c0, c1⟩ := hok
    rw [t1] at o1
    obtain ⟨oN, hoN, rfl⟩ := lit_le (m := t) (by omega) o0 o1
    obtain ⟨cN, hcN, rfl⟩ := nI_of (x := c) (by rw [Int32.not_lt]; exact c0)
    have hck : cN < k := (nI_ltI hcN (by omega)).mp c1
    rw [nI_clamp hcN] at q1
    obtain ⟨g1, g2, g3, g4, g5, g6⟩ := k4.2 cN hck
    have hv : ∀ c, fr_k c → v c = ev_addC x n d (x 0 7) (nI oN) (nI cN) (x 5 cN) 0 c := fun c hc => by rw [q1, fr_next hc]
    have hyv : ∀ c, fr_k c → c ≠ 11 → y c = v c := fun c hc h11 => by rw [q3, fr_it hc, up_ne h11]
    have hyx : ∀ c, 37 ≤ c → y c = x c := fun c hc => by rw [hyv c (Or.inr (by omega)) (by omega), hv c (Or.inr (by omega)), addC_ne (by omega)]
    have e37 := hyx 37 (by decide)
    have e39 := hyx 39 (by decide)
    obtain ⟨nb2, hk2⟩ := IV_oth h hyx
    have := KR_nb (by omega) (by omega) hk hk2
    subst this
    -- the reference, with the conviction
    generalize hM2 : mcm (mkn y n) n d 0 (nI oN) (nI cN) 0 (mkn y n 41 (nI cN).toNatClampNeg) = M2
    have m41 : mkn y n 41 = x 41 := by rw [mkn_k (by decide) (by omega), hyx 41 (by decide)]
    rw [nI_clamp hcN] at hM2
    have z15 : M2 37 15 = 0 := by rw [← hM2, mcm_15]
    have z39 : ∀ i, (i < 8 * n ∨ 8 * n + 7 < i) → i ≠ 334 → M2 39 i = x 39 i := fun i a b => by rw [← hM2, mcm_39 a b, mkn_k (by decide) (by omega), e39]
    have zc : ∀ c, c ≠ 37 → c ≠ 39 → c < 46 → M2 c = y c := fun c a b e => by rw [← hM2, mcm_ne a b, mkn_k a (by omega)]
    have z37 : ∀ i, i ≠ 15 → i ≠ 19 → M2 37 i = x 37 i := fun i a b => by rw [← hM2, mcm_37 a, mkn_37 b a, e37]
    obtain ⟨a12, a13, a14, a15, a16, a17, a18, a19, a11⟩ := addC_n (x := x) (n := n) (d := d) (t := x 0 7) (o := nI oN) (k := nI cN) (p := x 5 cN) (r := 0)
    obtain ⟨b0, b1, b2, b3, b4, b5, b6, b7⟩ := mcm_E (x := mkn y n) (n := n) (d := d) (w := 0) (o := nI oN) (k := nI cN) (r := 0) (p := mkn y n 41 cN) hn
    rw [hM2] at b0 b1 b2 b3 b4 b5 b6 b7
    have hs1 : sm x (ev_addC x n d (x 0 7) (nI oN) (nI cN) (x 5 cN) 0) n := ⟨fun i _ => by rw [addC_ne (by omega)], fun c a b j hj => addC_j (by omega) (by omega)⟩
    have hEV1 : EV (ev_addC x n d (x 0 7) (nI oN) (nI cN) (x 5 cN) 0) M2 (fun j => if j = n then t else T j) (fun j => if j = n then oN else O j) k (n + 1) := by
      refine ⟨fun j hj => ?_, fun i j hij hj => ?_⟩
      · by_cases e : j = n
        · subst e
          refine ⟨by rw [a12, b0], by rw [a13, t1]; simp, by rw [b1, mkn_37 (by decide) (by decide), e37, t2]; simp, by simp; exact t3, by rw [a14, b2], by rw [a15]; simp, by unfold mon; rw [if_pos b2, b3]; simp, by simp; exact hoN, Or.inl ⟨a14, by rw [a16, b4], ⟨cN, hck, a16⟩, by rw [a17, b5, m41, g1], by rw [a17]; exact g3, by rw [a17]; exact g4, by rw [a18, b6], Or.inl a18, by rw [a19, b7], Or.inl a19⟩⟩
        · exact (EV_ev (O' := fun j => if j = n then oN else O j) (T' := fun j => if j = n then t else T j) hs1.2 (fun i hi => z39 i (Or.inl hi) (by omega)) (fun j hj => ⟨if_neg (by omega), if_neg (by omega)⟩) h.2.2.2.1.2.2.2.1).1 j (by omega)
      · show (if i = n then t else T i) ≤ (if j = n then t else T j)
        by_cases e : j = n
        · rw [if_pos e]
          by_cases e2 : i = n
          · rw [if_pos e2]; exact Nat.le_refl t
          · rw [if_neg e2]; exact h.2.2.2.1.2.2.2.2.2 i (by omega)
        · rw [if_neg e, if_neg (by omega)]; exact h.2.2.2.1.2.2.2.1.2 i j hij (by omega)
    have hRU1 : RU (ev_addC x n d (x 0 7) (nI oN) (nI cN) (x 5 cN) 0) M2 := RU_sm hs1 (fun i hi => z39 (328 + i) (by omega) (by omega)) h.2.2.2.1.2.2.2.2.1
    have hCO1 : CO (ev_addC x n d (x 0 7) (nI oN) (nI cN) (x 5 cN) 0) M2 k := CO_fr (addC_ne (by omega)) (addC_ne (by omega)) (by rw [zc 41 (by decide) (by decide) (by decide), hyx 41 (by decide)]) (by rw [zc 42 (by decide) (by decide) (by decide), hyx 42 (by decide)]) k4
    obtain ⟨m, hm⟩ := CAME hn h.2.2.2.2.1 hs1 (addC_ne (by omega)) (addC_ne (by omega)) (fun c a b => addC_ne (by omega)) (fun j hj => ⟨if_neg (by omega), if_neg (by omega)⟩) hEV1 hRU1 hCO1
    rw [← q1] at hm
    have hmb := hm.1
    have hm2 : KR v (mkn M2 (n + 1)) (fun j => if j = n then t else T j) (n + 1) m := by
      unfold mkn
      rw [if_pos z15]
      refine KR_fr (fun _ _ _ => rfl) ?_ (fun i _ => ?_) (fun c a b => ?_) hm
      · rw [up_eq, upd_ne (by decide)]
      · rw [up_ne (by decide)]
      · rw [up_ne (by omega)]
    have hvd2 : mvd M2 (n + 1) := by
      obtain ⟨w, w1, w2, w3, w4⟩ := ru_w hRU1
      refine ⟨⟨w, w2, w4⟩, fun e he h0 => ?_⟩
      obtain ⟨d1, d2, d3, d4, d5, d6, d7, d8, d9⟩ := hEV1.1 e he
      refine ⟨⟨(fun j => if j = n then oN else O j) e, by omega, ?_⟩, ?_⟩
      · unfold mon at d7; rw [if_pos h0] at d7; exact d7
      · obtain ⟨-, f2, ⟨c, hc, f3⟩, -⟩ := d9.resolve_right (fun q => by
          rw [d5, h0] at q
          rcases q.1 with q | q <;> exact absurd q (by decide))
        exact ⟨c, by omega, by rw [← f2]; exact f3⟩
    refine (q_would y n hn (by rw [e39]; exact hsn) k hk6 (by rw [e37]; exact k2) d (nI oN) (nI cN) (fun _ => mdok_of d (mvd_oth (IV_mvd h) e39) (by omega) hk2.2.1) (fun _ => by rw [nI_clamp hcN, hM2]; exact mdok_of d hvd2 (by omega) hm2.2.1)).mono (fun z' y' q => ?_)
    rw [ho y e37, if_neg hc, nI_clamp hcN, hM2] at q
    obtain ⟨a, b, r1, r2, r3, r4⟩ := q
    have ea := mdays_eq (by omega) hk2.2.1 r1
    have eb := mdays_eq (by omega) hm2.2.1 r2
    refine ⟨by rw [r3, q2, ea, eb, bnN_eq (by omega) hm2.2.1.1], len, t, k, n, s, T, O, ?_⟩
    have f : ∀ c, c ≠ 37 → c ≠ 39 → c < 46 → y' c = y c := fun c a b e => by rw [r4, up_ne a, up_ne b, mkn_k a (by omega), zc c a b e]
    have f37 : ∀ i, i ≠ 15 → i ≠ 19 → y' 37 i = x 37 i := fun i a b => by rw [r4, up_eq, upd_ne a, up_ne (by decide), mkn_37 b a, z37 i a b]
    have f39 : ∀ i, (i < 8 * n ∨ 8 * n + 7 < i) → i ≠ 334 → y' 39 i = x 39 i := fun i a b => by rw [r4, up_ne (by decide), up_eq, upd_ne b, mkn_k (by decide) (by omega), z39 i a b]
    have lo : ∀ c, fr_k c → c < 46 → c ≠ 37 → c ≠ 39 → c ≠ 11 → y' c = ev_addC x n d (x 0 7) (nI oN) (nI cN) (x 5 cN) 0 c := fun c a b e g i => by rw [f c e g b, hyv c a i, hv c a]
    have lo2 : ∀ c, (c < 11 ∨ 32 < c) → c < 46 → c ≠ 37 → c ≠ 39 → y' c = x c := fun c a b e g => by rw [lo c (by unfold fr_k; omega) b e g (by omega), addC_ne (by omega)]
    have hsm : sm x y' n := ⟨fun i _ => by rw [lo2 4 (by omega) (by decide) (by decide) (by decide)], fun c a b j hj => by rw [lo c (Or.inl (by omega)) (by omega) (by omega) (by omega) (by omega)]; exact addC_j (by omega) (by omega)⟩
    refine ⟨?_, ⟨?_, ?_, t3⟩, ⟨?_, ?_, k3, ?_⟩, ⟨?_, ?_, hn, ?_, ?_, h.2.2.2.1.2.2.2.2.2⟩, KN_all (w := mj_up v 11 12 (nI n)) (by omega) (fun c hc => ?_), fun q => absurd ?_ q, ⟨?_, ?_, h.2.2.2.2.2.2.2.2.1, ?_⟩⟩
    · unfold TX
      rw [lo2 1 (by omega) (by decide) (by decide) (by decide), lo2 2 (by omega) (by decide) (by decide) (by decide), lo2 38 (by omega) (by decide) (by decide) (by decide), f37 0 (by decide) (by decide)]
      exact h.1
    · rw [lo2 0 (by omega) (by decide) (by decide) (by decide)]; exact t1
    · rw [f37 5 (by decide) (by decide)]; exact t2
    · rw [lo2 3 (by omega) (by decide) (by decide) (by decide)]; exact k1
    · rw [f37 6 (by decide) (by decide)]; exact k2
    · exact CO_fr (lo2 5 (by omega) (by decide) (by decide) (by decide)) (lo2 6 (by omega) (by decide) (by decide) (by decide)) (lo2 41 (by omega) (by decide) (by decide) (by decide)) (lo2 42 (by omega) (by decide) (by decide) (by decide)) k4
    · rw [f 11 (by decide) (by decide) (by decide), q3, fr_it (Or.inl (by decide)), up_eq, upd_eq]
    · rw [r4, up_ne (by decide), up_eq, upd_eq]
    · exact EV_ev hsm.2 (fun i hi => f39 i (Or.inl hi) (by omega)) (fun _ _ => ⟨rfl, rfl⟩) h.2.2.2.1.2.2.2.1
    · exact RU_sm hsm (fun i hi => f39 (328 + i) (by omega) (by omega)) h.2.2.2.1.2.2.2.2.1
    · rw [f c (by omega) (by omega) (by omega), q3]
    · rw [r4, up_eq, upd_eq]
    · rw [lo2 33 (by omega) (by decide) (by decide) (by decide)]; exact h.2.2.2.2.2.2.1
    · rw [f37 4 (by decide) (by decide)]; exact h.2.2.2.2.2.2.2.1
    · refine UN_tr (h := 0) (Nat.le_refl t) s x _ n (fun i _ => ?_) (fun j i _ _ => ?_) hsm h.2.2.2.2.2.2.2.2.2
      · rw [lo2 34 (by omega) (by decide) (by decide) (by decide), lo2 35 (by omega) (by decide) (by decide) (by decide), lo2 36 (by omega) (by decide) (by decide) (by decide)]; exact ⟨rfl, rfl, rfl⟩
      · rw [lo2 40 (by omega) (by decide) (by decide) (by decide)]; rfl
