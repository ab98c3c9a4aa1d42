/-! the changes: answers alike, the invariant again -/
theorem addC_ne {x : mj_X} {n c : Nat} {d t o k p r : Int32} (h : c < 11 ∨ 19 < c) : ev_addC x n d t o k p r c = x c := by
  unfold ev_addC; rw [up_ne (by omega), up_ne (by omega), up_ne (by omega), up_ne (by omega), up_ne (by omega), up_ne (by omega), up_ne (by omega), up_ne (by omega), up_ne (by omega)]
theorem addC_j {x : mj_X} {n c j : Nat} {d t o k p r : Int32} (h : c ≠ 11) (hj : j ≠ n) : ev_addC x n d t o k p r c j = x c j := by
  unfold ev_addC; simp only [up_at]; simp [h, hj]
theorem addC_n {x : mj_X} {n : Nat} {d t o k p r : Int32} : ev_addC x n d t o k p r 12 n = d ∧ ev_addC x n d t o k p r 13 n = t ∧ ev_addC x n d t o k p r 14 n = 0 ∧ ev_addC x n d t o k p r 15 n = o ∧ ev_addC x n d t o k p r 16 n = k ∧ ev_addC x n d t o k p r 17 n = p ∧ ev_addC x n d t o k p r 18 n = r ∧ ev_addC x n d t o k p r 19 n = 0 ∧ ev_addC x n d t o k p r 11 12 = nI (n + 1) := by
  unfold ev_addC; simp only [up_at]; simp
theorem addK_ne {x : mj_X} {n c : Nat} {d t w : Int32} (h : c < 11 ∨ 15 < c) : ev_addK x n d t w c = x c := by
  unfold ev_addK; rw [up_ne (by omega), up_ne (by omega), up_ne (by omega), up_ne (by omega), up_ne (by omega)]
theorem addK_j {x : mj_X} {n c j : Nat} {d t w : Int32} (h : c ≠ 11) (hj : j ≠ n) : ev_addK x n d t w c j = x c j := by
  unfold ev_addK; simp only [up_at]; simp [h, hj]
theorem addK_n {x : mj_X} {n : Nat} {d t w : Int32} : ev_addK x n d t w 12 n = d ∧ ev_addK x n d t w 13 n = t ∧ ev_addK x n d t w 14 n = w ∧ ev_addK x n d t w 15 n = t ∧ ev_addK x n d t w 11 12 = nI (n + 1) := by
  unfold ev_addK; simp only [up_at]; simp
theorem mcm_ne {x : mj_X} {n c : Nat} {d w o k r p : Int32} (h : c ≠ 37) (h2 : c ≠ 39) : mcm x n d w o k r p c = x c := by
  unfold mcm; rw [up_ne (by omega), up_ne (by omega), up_ne (by omega), up_ne (by omega), up_ne (by omega), up_ne (by omega), up_ne (by omega), up_ne (by omega), up_ne (by omega), up_ne (by omega)]
theorem mcm_37 {x : mj_X} {n i : Nat} {d w o k r p : Int32} (h : i ≠ 15) : mcm x n d w o k r p 37 i = x 37 i := by
  unfold mcm; simp only [up_at]; simp [h]
theorem mcm_15 {x : mj_X} {n : Nat} {d w o k r p : Int32} : mcm x n d w o k r p 37 15 = 0 := by
  unfold mcm; simp only [up_at]; simp
theorem mcm_39 {x : mj_X} {n i : Nat} {d w o k r p : Int32} (h : i < 8 * n ∨ 8 * n + 7 < i) (h2 : i ≠ 334) : mcm x n d w o k r p 39 i = x 39 i := by
  unfold mcm; simp only [up_at]
  rw [if_neg (by omega), if_neg (by omega), if_neg (by omega), if_neg (by omega), if_neg (by omega), if_neg (by omega), if_neg (by omega), if_neg (by omega), if_neg (by omega), if_neg (by omega)]
theorem mcm_E {x : mj_X} {n : Nat} {d w o k r p : Int32} (hn : n ≤ 40) : mE (mcm x n d w o k r p) n 0 = d ∧ mE (mcm x n d w o k r p) n 1 = x 37 5 ∧ mE (mcm x n d w o k r p) n 2 = w ∧ mE (mcm x n d w o k r p) n 3 = o ∧ mE (mcm x n d w o k r p) n 4 = k ∧ mE (mcm x n d w o k r p) n 5 = p ∧ mE (mcm x n d w o k r p) n 6 = r ∧ mE (mcm x n d w o k r p) n 7 = 0 := by
  unfold mE mcm; simp only [up_at]
  have e0 : ∀ i, i < 8 → ¬ 8 * n + i = 334 := fun i hi => by omega
  simp [e0 0 (by decide), e0 1 (by decide), e0 2 (by decide), e0 3 (by decide), e0 4 (by decide), e0 5 (by decide), e0 6 (by decide), e0 7 (by decide)]
  omega
theorem no_hi {x w : mj_X} {s c : Nat} {a b v : Int32} (h : ch_no x w s a b v) (hc : c < 33 ∨ 36 < c) : w c = x c := h.2.2.2 c (by omega) (by omega) (by omega) (by omega)
theorem mno_ne {x w : mj_X} {u c : Nat} (h : mno x w u) (h1 : c ≠ 37) (h2 : c ≠ 40) : w c = x c := h.2.2.2.2.2 c h1 h2
theorem E1_conv {v : mj_X} {T O : Nat → Nat} {k n oN cN tN : Nat} (hT : T n = tN) (hO : O n = oN) (ht : tN ≤ 9999) (ho : oN ≤ tN) (hc : cN < k)
    (x12 : v 12 n = mE v n 0) (x13 : v 13 n = nI tN) (m1 : mE v n 1 = nI tN) (x14 : v 14 n = 0) (m2 : mE v n 2 = 0) (x15 : v 15 n = nI oN) (m3 : mE v n 3 = nI oN) (x16 : v 16 n = nI cN) (m4 : mE v n 4 = nI cN)
    (x17 : v 17 n = mE v n 5) (p0 : 0 ≤ (v 17 n).toInt) (p9 : (v 17 n).toInt ≤ 9) (x18 : v 18 n = mE v n 6) (r01 : v 18 n = 0 ∨ v 18 n = 1) (x19 : v 19 n = 0) (m7 : mE v n 7 = 0) : E1 v v T O k n :=
  ⟨x12, by rw [hT]; exact x13, by rw [hT]; exact m1, by omega, by rw [x14, m2], by rw [hO]; exact x15, by unfold mon; rw [if_pos m2, hO]; exact m3, by omega,
    Or.inl ⟨x14, by rw [x16, m4], ⟨cN, hc, x16⟩, x17, p0, p9, x18, r01, by rw [x19, m7], Or.inl x19⟩⟩
theorem E1_crs {v : mj_X} {T O : Nat → Nat} {k n tN : Nat} (hT : T n = tN) (hO : O n = tN) (ht : tN ≤ 9999)
    (x12 : v 12 n = mE v n 0) (x13 : v 13 n = nI tN) (m1 : mE v n 1 = nI tN) (x14 : v 14 n = mE v n 2) (h12 : v 14 n = 1 ∨ v 14 n = 2) (x15 : v 15 n = nI tN) (m7 : mE v n 7 = 0) : E1 v v T O k n :=
  ⟨x12, by rw [hT]; exact x13, by rw [hT]; exact m1, by omega, x14, by rw [hO]; exact x15, by unfold mon; rw [if_neg (by rw [← x14]; rcases h12 with q | q <;> rw [q] <;> decide), hO]; exact m1, by omega, Or.inr ⟨h12, by omega, m7⟩⟩
/-- a new event, behind the class's and the reference's doing -/
theorem IV_ev {x x1 w y xr v1 : mj_X} {len t k n s t' : Nat} {T O T' O' : Nat → Nat} {d kd o c r p : Int32} (h : IV x len t k n s T O) (hn : n < 40) (ht : t ≤ t') (ht' : t' ≤ 9999)
    (hx : ∀ c, c ≠ 0 → (c < 11 ∨ 19 < c) → x1 c = x c) (hx0 : x1 0 7 = nI t') (hx11 : x1 11 12 = nI (n + 1)) (hxe : ∀ c, 12 ≤ c → c ≤ 19 → ∀ j, j < n → x1 c j = x c j)
    (hch : ch_no x1 w s 0 (nI n) 0) (hy : y = rc_next w n) (hxr : ∀ c, c ≠ 37 → c < 46 → xr c = y c) (h370 : xr 37 0 = x 37 0) (h376 : xr 37 6 = x 37 6) (h375 : xr 37 5 = nI t') (hmn : mno xr v1 s)
    (hT : ∀ j, j < n → T' j = T j ∧ O' j = O j) (hTn : T' n = t') (hE1 : E1 (mcm v1 n d kd o c r p) (mcm v1 n d kd o c r p) T' O' k n) : IV (mcm v1 n d kd o c r p) len t' k (n + 1) (mn_u s + 1) T' O' := by
  have hyx : ∀ c, 37 ≤ c → y c = x c := fun c hc => by rw [hy, fr_next (Or.inr (by omega)), no_hi hch (by omega), hx c (by omega) (by omega)]
  obtain ⟨m1, m2, m3, m4, m5, m6⟩ := hmn
  have h39 : v1 39 = x 39 := by rw [m6 39 (by decide) (by decide), hxr 39 (by decide) (by decide), hyx 39 (by decide)]
  have h40 : xr 40 = x 40 := by rw [hxr 40 (by decide) (by decide), hyx 40 (by decide)]
  have h39r : xr 39 = x 39 := by rw [hxr 39 (by decide) (by decide), hyx 39 (by decide)]
  refine IV_came (x1 := x1) (w := w) h hn ht ht' (fun c _ a b => hx c a b) hx0 hx11 hxe hch (fun c hc => ?_) hT hTn hE1 ?_ ?_ ?_ ?_ ?_ ?_ (fun i hi => ?_) (fun i hi => ?_) mcm_many mcm_15 ?_ (fun j i hj hi => ?_) (fun i hi => ?_)
  · rw [mcm_ne (by omega) (by omega), m6 c (by omega) (by omega), hxr c (by omega) (by omega), hy]
  · rw [mcm_ne (by decide) (by decide), m6 38 (by decide) (by decide), hxr 38 (by decide) (by decide), hyx 38 (by decide)]
  · rw [mcm_ne (by decide) (by decide), m6 41 (by decide) (by decide), hxr 41 (by decide) (by decide), hyx 41 (by decide)]
  · rw [mcm_ne (by decide) (by decide), m6 42 (by decide) (by decide), hxr 42 (by decide) (by decide), hyx 42 (by decide)]
  · rw [mcm_37 (by decide), m5 0 (by decide) (by decide), h370]
  · rw [mcm_37 (by decide), m5 6 (by decide) (by decide), h376]
  · rw [mcm_37 (by decide), m5 5 (by decide) (by decide), h375]
  · rw [mcm_39 (by omega) (by omega), h39]
  · rw [mcm_39 (by omega) (by omega), h39]
  · rw [mcm_37 (by decide)]; exact m1
  · rw [mcm_ne (by decide) (by decide), m2 j i hj hi, h40]
  · rw [mcm_ne (by decide) (by decide), m3 i hi, h39r]
theorem i_convict {x : mj_X} (h : Inv x) (d o c r : Int32) : PAIR mX6_convict mX7_convict [.int d, .int o, .int c, .int r] x := by
  obtain ⟨len, t, k, n, s, T, O, h⟩ := h
  obtain ⟨nb, hk⟩ := IV_kr h
  have hn := h.2.2.2.1.2.2.1
  obtain ⟨t1, t2, t3⟩ := h.2.1
  obtain ⟨k1, k2, k3, k4⟩ := h.2.2.1
  have hk6 := k4.1
  refine (p_convict shM x n nb s k (IV_CW h hk) d o c r).mono (fun z y q => ?_)
  have ho : m_ofok x k d o c = of_ok x k d o c := by unfold m_ofok of_ok; rw [t1, t2]
  by_cases hc : ¬ (of_ok x k d o c = true ∧ 0 ≤ r ∧ r ≤ 1)
  · rw [if_pos hc] at q
    obtain ⟨q1, q2⟩ := q
    subst q2
    refine (q_convict y n hn h.2.2.2.1.2.1 s h.2.2.2.2.2.2.2.2.1 h.2.2.2.2.2.2.2.1 k hk6 k2 d o c r).mono (fun z' y' q => ?_)
    rw [ho, if_pos hc] at q
    obtain ⟨r1, r2⟩ := q
    subst r2
    exact ⟨by rw [r1, q1], len, t, k, n, s, T, O, h⟩
  · rw [if_neg hc] at q
    by_cases hl : n = 40
    · rw [if_pos hl] at q
      obtain ⟨q1, q2⟩ := q
      subst q2
      refine (q_convict y n hn h.2.2.2.1.2.1 s h.2.2.2.2.2.2.2.2.1 h.2.2.2.2.2.2.2.1 k hk6 k2 d o c r).mono (fun z' y' q => ?_)
      rw [ho, if_neg hc, if_pos hl] at q
      obtain ⟨r1, r2⟩ := q
      subst r2
      exact ⟨by rw [r1, q1], len, t, k, n, s, T, O, h⟩
    · rw [if_neg hl] at q
      obtain ⟨q1, w, q2, q3⟩ := q
      have hyx : ∀ c, 37 ≤ c → y c = x c := fun c hc => by rw [q3, fr_next (Or.inr (by omega)), no_hi q2 (by omega), addC_ne (by omega)]
      have e37 := hyx 37 (by decide)
      refine (q_convict y n hn (by rw [hyx 39 (by decide)]; exact h.2.2.2.1.2.1) s h.2.2.2.2.2.2.2.2.1 (by rw [e37]; exact h.2.2.2.2.2.2.2.1) k hk6 (by rw [e37]; exact k2) d o c r).mono (fun z' y' q => ?_)
      have ho2 : m_ofok y k d o c = of_ok x k d o c := by rw [← ho]; unfold m_ofok; rw [e37]
      rw [ho2, if_neg hc, if_neg hl] at q
      obtain ⟨r1, v1, r2, r3⟩ := q
      rw [if_pos rfl] at r3
      have hcc := Classical.not_not.mp hc
      have hok := hcc.1
      unfold of_ok at hok
      rw [decide_eq_true_eq] at hok
      obtain ⟨-, o0, o1, c0, c1⟩ := hok
      rw [t1] at o1
      obtain ⟨oN, hoN, rfl⟩ := lit_le (m := t) (by omega) o0 o1
      obtain ⟨cN, hcN, rfl⟩ := nI_of (x := c) (by rw [Int32.not_lt]; exact c0)
      have hck : cN < k := (nI_ltI hcN (by omega)).mp c1
      rw [nI_clamp hcN] at r3 q2
      have hr01 : r = 0 ∨ r = 1 := by
        have a := hcc.2.1
        have b := hcc.2.2
        obtain ⟨i, hi, rfl⟩ := lit_le (m := 1) (by decide) a b
        have : i = 0 ∨ i = 1 := by omega
        rcases this with e | e <;> subst e
        · left; decide
        · right; decide
      have v41 : v1 41 = x 41 := by rw [mno_ne r2 (by decide) (by decide), hyx 41 (by decide)]
      have v375 : v1 37 5 = nI t := by rw [r2.2.2.2.2.1 5 (by decide) (by decide), e37, t2]
      obtain ⟨g1, g2, g3, g4, g5, g6⟩ := k4.2 cN hck
      have lv : ∀ c, 12 ≤ c → c ≤ 19 → y' c = ev_addC x n d (x 0 7) (nI oN) (nI cN) (x 5 cN) r c := fun c a b => by
        rw [r3, mcm_ne (by omega) (by omega), mno_ne r2 (by omega) (by omega), q3, fr_next (Or.inl (by omega)), no_hi q2 (by omega)]
      obtain ⟨a12, a13, a14, a15, a16, a17, a18, a19, a11⟩ := addC_n (x := x) (n := n) (d := d) (t := x 0 7) (o := nI oN) (k := nI cN) (p := x 5 cN) (r := r)
      obtain ⟨b0, b1, b2, b3, b4, b5, b6, b7⟩ := mcm_E (x := v1) (n := n) (d := d) (w := 0) (o := nI oN) (k := nI cN) (r := r) (p := v1 41 cN) (by omega)
      refine ⟨by rw [r1, q1], len, t, k, n + 1, mn_u s + 1, fun j => if j = n then t else T j, fun j => if j = n then oN else O j, ?_⟩
      have hE : E1 y' y' (fun j => if j = n then t else T j) (fun j => if j = n then oN else O j) k n := by
        refine E1_conv (oN := oN) (cN := cN) (tN := t) (by simp) (by simp) t3 hoN hck ?_ ?_ ?_ ?_ ?_ ?_ ?_ ?_ ?_ ?_ ?_ ?_ ?_ ?_ ?_ ?_
        · rw [lv 12 (by decide) (by decide), a12, r3, b0]
        · rw [lv 13 (by decide) (by decide), a13, t1]
        · rw [r3, b1, v375]
        · rw [lv 14 (by decide) (by decide), a14]
        · rw [r3, b2]
        · rw [lv 15 (by decide) (by decide), a15]
        · rw [r3, b3]
        · rw [lv 16 (by decide) (by decide), a16]
        · rw [r3, b4]
        · rw [lv 17 (by decide) (by decide), a17, r3, b5, v41, g1]
        · rw [lv 17 (by decide) (by decide), a17]; exact g3
        · rw [lv 17 (by decide) (by decide), a17]; exact g4
        · rw [lv 18 (by decide) (by decide), a18, r3, b6]
        · rw [lv 18 (by decide) (by decide), a18]; exact hr01
        · rw [lv 19 (by decide) (by decide), a19]
        · rw [r3, b7]
      subst r3
      exact IV_ev h (by omega) (Nat.le_refl t) t3 (fun c _ b => addC_ne b) (by rw [addC_ne (by omega)]; exact t1) a11 (fun c a b j hj => addC_j (by omega) (by omega)) q2 q3 (fun _ _ _ => rfl) (by rw [e37]) (by rw [e37]) (by rw [e37]; exact t2) r2 (fun j hj => ⟨if_neg (by omega), if_neg (by omega)⟩) (if_pos rfl) hE
theorem i_course {x : mj_X} (h : Inv x) (d w0 : Int32) : PAIR mX6_course mX7_course [.int d, .int w0] x := by
  obtain ⟨len, t, k, n, s, T, O, h⟩ := h
  obtain ⟨nb, hk⟩ := IV_kr h
  have hn := h.2.2.2.1.2.2.1
  have hb := hk.1
  obtain ⟨t1, t2, t3⟩ := h.2.1
  refine (p_course shM x n nb s k (IV_CW h hk) d w0).mono (fun z y q => ?_)
  by_cases hc : ¬ (dr d = true ∧ 0 ≤ w0 ∧ w0 ≤ 1)
  · rw [if_pos hc] at q
    obtain ⟨q1, q2⟩ := q
    subst q2
    refine (q_course y n hn h.2.2.2.1.2.1 s h.2.2.2.2.2.2.2.2.1 h.2.2.2.2.2.2.2.1 (IV_mvd h) nb (by omega) hk.2.1.2.1 d w0).mono (fun z' y' q => ?_)
    rw [if_pos hc] at q
    obtain ⟨r1, r2⟩ := q
    subst r2
    exact ⟨by rw [r1, q1], len, t, k, n, s, T, O, h⟩
  · rw [if_neg hc] at q
    by_cases hl : n = 40
    · rw [if_pos hl] at q
      obtain ⟨q1, q2⟩ := q
      subst q2
      refine (q_course y n hn h.2.2.2.1.2.1 s h.2.2.2.2.2.2.2.2.1 h.2.2.2.2.2.2.2.1 (IV_mvd h) nb (by omega) hk.2.1.2.1 d w0).mono (fun z' y' q => ?_)
      rw [if_neg hc, if_pos hl] at q
      obtain ⟨r1, r2⟩ := q
      subst r2
      exact ⟨by rw [r1, q1], len, t, k, n, s, T, O, h⟩
    · rw [if_neg hl] at q
      have hcc := Classical.not_not.mp hc
      obtain ⟨w, w1, w2, w3, w4⟩ := ru_w h.2.2.2.1.2.2.2.2.1
      have tt := nI_toInt (n := t) (by omega)
      have tw := nI_toInt (n := w) (by omega)
      have hno : ∀ y, (∀ c, 37 ≤ c → y c = x c) → (m_cno (mkn y n) nb n d w0 ↔ crs_no x nb n d w0) := fun y hy => by
        obtain ⟨nb2, hk2⟩ := IV_oth h hy
        have := KR_nb (by omega) (by omega) hk hk2
        subst this
        have y5 : mkn y n 37 5 = nI t := by rw [mkn_37 (by decide) (by decide), hy 37 (by decide), t2]
        unfold m_cno crs_no
        rw [y5, t1]
        by_cases h0 : w0 = 0
        · rw [if_pos h0, if_pos h0]
          rw [lp_any_congr (p := mwl (mkn y n) d) (q := ev_light x d (nI t - x 4 0)) (fun j hj => ?_)]
          unfold mwl ev_light
          obtain ⟨a1, a2, a3, a4, a5, -⟩ := h.2.2.2.1.2.2.2.1.1 j hj
          have hE : ∀ i, mE (mkn y n) j i = mE x j i := fun i => by rw [mkn_E]; unfold mE; rw [hy 39 (by decide)]
          rw [hE, hE, hE, ← a1, ← a5, a3, a2, y5, mkn_k (by decide) (by omega), hy 39 (by decide), w4, w3, decide_eq_decide]
          have hT := h.2.2.2.1.2.2.2.2.2 j hj
          have tj := nI_toInt (n := T j) (by omega)
          have e1 : (nI t - nI (T j)).toInt = (t : Int) - T j := by rw [ti_sub (by omega) (by omega), tt, tj]
          have e2 : (nI t - nI w).toInt = (t : Int) - w := by rw [ti_sub (by omega) (by omega), tt, tw]
          rw [Int32.lt_iff_toInt_lt, Int32.lt_iff_toInt_lt, e1, e2, tw, tj]
          constructor
          · rintro ⟨p1, p2, p3⟩; exact ⟨p1, p2, by omega⟩
          · rintro ⟨p1, p2, p3⟩; exact ⟨p1, p2, by omega⟩
        · rw [if_neg h0, if_neg h0]
          rcases sh_eq (d := d) (t := nI t) nb (by omega) hk2.2.1.2.2 with ⟨s1, s2⟩ | ⟨j, hj, s1, s2, s3, s4⟩
          · rw [s1, s2]
            exact ⟨fun _ => by show (-1 : Int32) < 0; decide, fun _ => rfl⟩
          · rw [s1, s2]
            have tj := nI_toInt (n := j) (by omega)
            constructor
            · intro q
              have := congrArg Int32.toInt q
              rw [tj, tl_m4] at this
              omega
            · intro q
              have q : nI j < 0 := q
              rw [Int32.lt_iff_toInt_lt, tj, tl_0] at q
              omega
      by_cases hq : crs_no x nb n d w0
      · obtain ⟨q1, q2⟩ := q.1 hq
        subst q2
        refine (q_course y n hn h.2.2.2.1.2.1 s h.2.2.2.2.2.2.2.2.1 h.2.2.2.2.2.2.2.1 (IV_mvd h) nb (by omega) hk.2.1.2.1 d w0).mono (fun z' y' q => ?_)
        rw [if_neg hc, if_neg hl] at q
        obtain ⟨r1, r2⟩ := q.1 ((hno y (fun _ _ => rfl)).mpr hq)
        subst r2
        exact ⟨by rw [r1, q1], len, t, k, n, s, T, O, IV_know h⟩
      · obtain ⟨q1, w, q2, q3⟩ := q.2 hq
        have hyx : ∀ c, 37 ≤ c → y c = x c := fun c hc => by rw [q3, fr_next (Or.inr (by omega)), no_hi q2 (by omega), addK_ne (by omega)]
        have e37 := hyx 37 (by decide)
        obtain ⟨nb2, hk2⟩ := IV_oth h hyx
        have := KR_nb (by omega) (by omega) hk hk2
        subst this
        refine (q_course y n hn (by rw [hyx 39 (by decide)]; exact h.2.2.2.1.2.1) s h.2.2.2.2.2.2.2.2.1 (by rw [e37]; exact h.2.2.2.2.2.2.2.1) (mvd_oth (IV_mvd h) (hyx 39 (by decide))) nb (by omega) hk2.2.1.2.1 d w0).mono (fun z' y' q => ?_)
        rw [if_neg hc, if_neg hl] at q
        obtain ⟨r1, v1, r2, r3⟩ := q.2 (fun r => hq ((hno y hyx).mp r))
        have v375 : v1 37 5 = nI t := by rw [r2.2.2.2.2.1 5 (by decide) (by decide), mkn_37 (by decide) (by decide), e37, t2]
        have hw12 : w0 + 1 = 1 ∨ w0 + 1 = 2 := by
          obtain ⟨i, hi, rfl⟩ := lit_le (m := 1) (by decide) hcc.2.1 hcc.2.2
          have : i = 0 ∨ i = 1 := by omega
          rcases this with e | e <;> subst e
          · left; decide
          · right; decide
        have hw0 : ¬ w0 + 1 = 0 := by rcases hw12 with e | e <;> rw [e] <;> decide
        rw [if_neg hw0] at r3
        have lv : ∀ c, 12 ≤ c → c ≤ 19 → y' c = ev_addK x n d (x 0 7) (w0 + 1) c := fun c a b => by
          rw [r3, mcm_ne (by omega) (by omega), mno_ne r2 (by omega) (by omega), mkn_k (by omega) (by omega), q3, fr_next (Or.inl (by omega)), no_hi q2 (by omega)]
        obtain ⟨a12, a13, a14, a15, a11⟩ := addK_n (x := x) (n := n) (d := d) (t := x 0 7) (w := w0 + 1)
        obtain ⟨b0, b1, b2, b3, b4, b5, b6, b7⟩ := mcm_E (x := v1) (n := n) (d := d) (w := w0 + 1) (o := 0) (k := 0) (r := 0) (p := 0) (by omega)
        refine ⟨by rw [r1, q1], len, t, k, n + 1, mn_u s + 1, fun j => if j = n then t else T j, fun j => if j = n then t else O j, ?_⟩
        have hE : E1 y' y' (fun j => if j = n then t else T j) (fun j => if j = n then t else O j) k n := by
          refine E1_crs (tN := t) (by simp) (by simp) t3 ?_ ?_ ?_ ?_ ?_ ?_ ?_
          · rw [lv 12 (by decide) (by decide), a12, r3, b0]
          · rw [lv 13 (by decide) (by decide), a13, t1]
          · rw [r3, b1, v375]
          · rw [lv 14 (by decide) (by decide), a14, r3, b2]
          · rw [lv 14 (by decide) (by decide), a14]; exact hw12
          · rw [lv 15 (by decide) (by decide), a15, t1]
          · rw [r3, b7]
        subst r3
        exact IV_ev h (by omega) (Nat.le_refl t) t3 (fun c _ b => addK_ne (by omega)) (by rw [addK_ne (by omega)]; exact t1) a11 (fun c a b j hj => addK_j (by omega) (by omega)) q2 q3 (fun c a b => mkn_k a (by omega)) (by rw [mkn_37 (by decide) (by decide), e37]) (by rw [mkn_37 (by decide) (by decide), e37]) (by rw [mkn_37 (by decide) (by decide), e37]; exact t2) r2 (fun j hj => ⟨if_neg (by omega), if_neg (by omega)⟩) (if_pos rfl) hE
