/-! convictions told anew -/
theorem RET {x w y v1 : mj_X} {len t k n s j wS : Nat} {T O O' : Nat → Nat} {ch val : Int32} (h : IV x len t k n s T O) (hj : j < n) (hch4 : ch = 1 ∨ ch = 2 ∨ ch = 3 ∨ ch = 4) (hwS : wS < 8)
    (hch : ch_no (mj_up x (ev_tc ch) j val) w s ch (nI j) (x (ev_tc ch) j)) (hy : y = rc_it w n) (hmn : mno (mkn y n) v1 s) (hO : ∀ i, i < n → i ≠ j → O' i = O i) (hE : E1 (mj_up v1 39 (8 * j + wS) val) (mj_up v1 39 (8 * j + wS) val) T O' k j) :
    IV (mj_up v1 39 (8 * j + wS) val) len t k n (mn_u s + 1) T O' := by
  have tc := tc_in (v := ch)
  have hyx : ∀ c, 37 ≤ c → y c = x c := fun c hc => by rw [hy, fr_it (Or.inr (by omega)), no_hi hch (by omega), up_ne (by omega)]
  obtain ⟨m1, m2, m3, m4, m5, m6⟩ := hmn
  have h39 : v1 39 = x 39 := by rw [m6 39 (by decide) (by decide), mkn_k (by decide) (by omega), hyx 39 (by decide)]
  have g : ∀ c, c ≠ 37 → c ≠ 39 → c ≠ 40 → c < 46 → mj_up v1 39 (8 * j + wS) val c = y c := fun c a b e f => by rw [up_ne b, m6 c a e, mkn_k a (by omega)]
  have g37 : ∀ i, i ≠ 4 → i ≠ 15 → i ≠ 19 → mj_up v1 39 (8 * j + wS) val 37 i = x 37 i := fun i a b e => by rw [up_ne (by decide), m5 i a b, mkn_37 e b, hyx 37 (by decide)]
  refine IV_told (w := w) h hj hch4 hwS hch (fun c hc => ?_) hO hE ?_ ?_ ?_ (g37 0 (by decide) (by decide) (by decide)) (g37 6 (by decide) (by decide) (by decide)) (g37 5 (by decide) (by decide) (by decide)) (fun i _ hi => ?_) ?_ ?_ (fun a i ha hi => ?_) (fun i hi => ?_)
  · rw [g c (by omega) (by omega) (by omega) (by omega), hy]
  · rw [g 38 (by decide) (by decide) (by decide) (by decide), hyx 38 (by decide)]
  · rw [g 41 (by decide) (by decide) (by decide) (by decide), hyx 41 (by decide)]
  · rw [g 42 (by decide) (by decide) (by decide) (by decide), hyx 42 (by decide)]
  · rw [up_eq, upd_ne hi, h39]
  · rw [up_ne (by decide)]; exact m4
  · rw [up_ne (by decide)]; exact m1
  · rw [up_ne (by decide), m2 a i ha hi, mkn_k (by decide) (by omega), hyx 40 (by decide)]
  · rw [up_ne (by decide), m3 i hi, mkn_k (by decide) (by omega), hyx 39 (by decide)]
theorem TOLD {x w y : mj_X} {len t k n s j wS nb : Nat} {T O O' : Nat → Nat} {ch val : Int32} (h : IV x len t k n s T O) (hk : KR x (mkn x n) T n nb) (hj : j < n) (hch4 : ch = 1 ∨ ch = 2 ∨ ch = 3 ∨ ch = 4) (hwS : wS < 8)
    (hch : ch_no (mj_up x (ev_tc ch) j val) w s ch (nI j) (x (ev_tc ch) j)) (hy : y = rc_it w n) (hO : ∀ i, i < n → i ≠ j → O' i = O i)
    (hE : ∀ v : mj_X, (∀ c, 12 ≤ c → c ≤ 19 → v c j = if c = ev_tc ch then val else x c j) → (∀ i, i < 8 → mE v j i = if i = wS then val else mE x j i) → E1 v v T O' k j) (d : Int32) :
    mdok y n d ∧ ∀ v1, mno (mkn y n) v1 s → mdok (mj_up v1 39 (8 * j + wS) val) n d ∧ IV (mkn (mj_up v1 39 (8 * j + wS) val) n) len t k n (mn_u s + 1) T O' ∧ ∀ a b, mdays y n d a → mdays (mj_up v1 39 (8 * j + wS) val) n d b → a = dall x nb d ∧ b = dall y (bnN y) d := by
  have tc := tc_in (v := ch)
  have hn := h.2.2.2.1.2.2.1
  have hyx : ∀ c, 37 ≤ c → y c = x c := fun c hc => by rw [hy, fr_it (Or.inr (by omega)), no_hi hch (by omega), up_ne (by omega)]
  obtain ⟨nb2, hk2⟩ := IV_oth h hyx
  have := KR_nb (by omega) (by omega) hk hk2
  subst this
  have hb := hk.1
  refine ⟨mdok_of d (mvd_oth (IV_mvd h) (hyx 39 (by decide))) (by omega) hk2.2.1, fun v1 hmn => ?_⟩
  have hcl : ∀ c, c < 37 → mj_up v1 39 (8 * j + wS) val c = y c := fun c hc => by rw [up_ne (by omega), mno_ne hmn (by omega) (by omega), mkn_k (by omega) (by omega)]
  have hv := RET h hj hch4 hwS hch hy hmn hO (hE _ (fun c a b => by
      rw [hcl c (by omega), hy, fr_it (Or.inl (by omega)), no_hi hch (by omega), up_at]
      by_cases e : c = ev_tc ch
      · rw [if_pos e, if_pos ⟨e, rfl⟩]
      · rw [if_neg e, if_neg (fun q => e q.1)]) (fun i hi => by
      unfold mE
      rw [up_eq]
      by_cases e : i = wS
      · subst e; rw [if_pos rfl, upd_eq]
      · rw [if_neg e, upd_ne (by omega), mno_ne hmn (by decide) (by decide), mkn_k (by decide) (by omega), hyx 39 (by decide)]))
  obtain ⟨nb3, hk3⟩ := IV_kr hv
  have hb3 := hk3.1
  have hk4 : KR y (mkn (mj_up v1 39 (8 * j + wS) val) n) T n nb3 := KR_fr (fun c a b => (hcl c (by omega)).symm) rfl (fun _ _ => rfl) (fun _ _ _ => rfl) hk3
  refine ⟨mdok_of d (IV_mvd hv) (by omega) hk4.2.1, IV_know hv, fun a b ha hb' => ⟨mdays_eq (by omega) hk2.2.1 ha, ?_⟩⟩
  rw [bnN_eq (by omega) hk4.2.1.1]
  exact mdays_eq (by omega) hk4.2.1 hb'
theorem isC_eq {x y : mj_X} {len t k n s : Nat} {T O : Nat → Nat} (h : IV x len t k n s T O) (hy : y 39 = x 39) (e : Int32) : m_isC y n e = ev_isC x n e := by
  have hn := h.2.2.2.1.2.2.1
  unfold m_isC ev_isC
  rw [decide_eq_decide]
  constructor
  · rintro ⟨a, b, c⟩
    obtain ⟨j, hj, rfl⟩ := nI_of (x := e) (by rw [Int32.not_lt]; exact a)
    rw [nI_clamp hj] at c ⊢
    have hjn := (nI_ltI hj (by omega)).mp b
    refine ⟨a, b, ?_⟩
    rw [(h.2.2.2.1.2.2.2.1.1 j hjn).2.2.2.2.1]; unfold mE at c ⊢; rw [← hy]; exact c
  · rintro ⟨a, b, c⟩
    obtain ⟨j, hj, rfl⟩ := nI_of (x := e) (by rw [Int32.not_lt]; exact a)
    rw [nI_clamp hj] at c ⊢
    have hjn := (nI_ltI hj (by omega)).mp b
    refine ⟨a, b, ?_⟩
    rw [(h.2.2.2.1.2.2.2.1.1 j hjn).2.2.2.2.1] at c; unfold mE at c ⊢; rw [hy]; exact c
theorem isC_j {x : mj_X} {n : Nat} {e : Int32} (hn : n ≤ 40) (h : ev_isC x n e = true) : ∃ j, j < n ∧ e = nI j ∧ x 14 j = 0 := by
  unfold ev_isC at h
  rw [decide_eq_true_eq] at h
  obtain ⟨a, b, c⟩ := h
  obtain ⟨j, hj, rfl⟩ := nI_of (x := e) (by rw [Int32.not_lt]; exact a)
  rw [nI_clamp hj] at c
  exact ⟨j, (nI_ltI hj (by omega)).mp b, rfl, c⟩
theorem E1_c {x M : mj_X} {T O : Nat → Nat} {k j : Nat} (h : E1 x M T O k j) (h0 : x 14 j = 0) : x 16 j = mE M j 4 ∧ (∃ c, c < k ∧ x 16 j = nI c) ∧ x 17 j = mE M j 5 ∧ 0 ≤ (x 17 j).toInt ∧ (x 17 j).toInt ≤ 9 ∧ x 18 j = mE M j 6 ∧ (x 18 j = 0 ∨ x 18 j = 1) ∧ x 19 j = mE M j 7 ∧ (x 19 j = 0 ∨ x 19 j = 1) ∧ mE M j 3 = nI (O j) := by
  obtain ⟨a1, a2, a3, a4, a5, a6, a7, a8, a9⟩ := h
  obtain ⟨-, q⟩ := a9.resolve_right (fun q => by
    rw [h0] at q
    rcases q.1 with q | q <;> exact absurd q (by decide))
  have b3 : mE M j 3 = nI (O j) := by unfold mon at a7; rw [if_pos (by rw [← a5, h0])] at a7; exact a7
  exact ⟨q.1, q.2.1, q.2.2.1, q.2.2.2.1, q.2.2.2.2.1, q.2.2.2.2.2.1, q.2.2.2.2.2.2.1, q.2.2.2.2.2.2.2.1, q.2.2.2.2.2.2.2.2, b3⟩
theorem E1_strike {x v : mj_X} {T O : Nat → Nat} {k j : Nat} {val : Int32} (h : E1 x x T O k j) (h0 : x 14 j = 0) (hv : val = 1) (hc : ∀ c, 12 ≤ c → c ≤ 19 → v c j = if c = ev_tc 1 then val else x c j) (hm : ∀ i, i < 8 → mE v j i = if i = 7 then val else mE x j i) : E1 v v T O k j := by
  obtain ⟨c16, ⟨cc, hcc, c16b⟩, c17, c17a, c17b, c18, c18b, c19, c19b, c3⟩ := E1_c h h0
  obtain ⟨a1, a2, a3, a4, a5, a6, a7, a8, a9⟩ := h
  have e : ev_tc 1 = 19 := by decide
  rw [e] at hc
  have g12 : v 12 j = x 12 j := by rw [hc 12 (by decide) (by decide), if_neg (by decide)]
  have g13 : v 13 j = x 13 j := by rw [hc 13 (by decide) (by decide), if_neg (by decide)]
  have g14 : v 14 j = x 14 j := by rw [hc 14 (by decide) (by decide), if_neg (by decide)]
  have g15 : v 15 j = x 15 j := by rw [hc 15 (by decide) (by decide), if_neg (by decide)]
  have g16 : v 16 j = x 16 j := by rw [hc 16 (by decide) (by decide), if_neg (by decide)]
  have g17 : v 17 j = x 17 j := by rw [hc 17 (by decide) (by decide), if_neg (by decide)]
  have g18 : v 18 j = x 18 j := by rw [hc 18 (by decide) (by decide), if_neg (by decide)]
  have g19 : v 19 j = val := by rw [hc 19 (by decide) (by decide), if_pos rfl]
  have m0 : mE v j 0 = mE x j 0 := by rw [hm 0 (by decide), if_neg (by decide)]
  have m1 : mE v j 1 = mE x j 1 := by rw [hm 1 (by decide), if_neg (by decide)]
  have m2 : mE v j 2 = mE x j 2 := by rw [hm 2 (by decide), if_neg (by decide)]
  have m3 : mE v j 3 = mE x j 3 := by rw [hm 3 (by decide), if_neg (by decide)]
  have m4 : mE v j 4 = mE x j 4 := by rw [hm 4 (by decide), if_neg (by decide)]
  have m5 : mE v j 5 = mE x j 5 := by rw [hm 5 (by decide), if_neg (by decide)]
  have m6 : mE v j 6 = mE x j 6 := by rw [hm 6 (by decide), if_neg (by decide)]
  have m7 : mE v j 7 = val := by rw [hm 7 (by decide), if_pos rfl]
  have hmon : mon v j = nI (O j) := by unfold mon; rw [m2, if_pos (by rw [← a5, h0]), m3]; exact c3
  exact ⟨by rw [g12, m0]; exact a1, by rw [g13]; exact a2, by rw [m1]; exact a3, a4, by rw [g14, m2]; exact a5, by rw [g15]; exact a6, hmon, a8, Or.inl ⟨by rw [g14]; exact h0, by rw [g16, m4]; exact c16, ⟨cc, hcc, by rw [g16]; exact c16b⟩, by rw [g17, m5]; exact c17, by rw [g17]; exact c17a, by rw [g17]; exact c17b, by rw [g18, m6]; exact c18, by rw [g18]; exact c18b, by rw [g19, m7], Or.inr (by rw [g19]; exact hv)⟩⟩
theorem E1_lower {x v : mj_X} {T O : Nat → Nat} {k j : Nat} {val : Int32} (h : E1 x x T O k j) (h0 : x 14 j = 0) (hv0 : 0 ≤ val.toInt) (hv9 : val.toInt ≤ 9) (hc : ∀ c, 12 ≤ c → c ≤ 19 → v c j = if c = ev_tc 2 then val else x c j) (hm : ∀ i, i < 8 → mE v j i = if i = 5 then val else mE x j i) : E1 v v T O k j := by
  obtain ⟨c16, ⟨cc, hcc, c16b⟩, c17, c17a, c17b, c18, c18b, c19, c19b, c3⟩ := E1_c h h0
  obtain ⟨a1, a2, a3, a4, a5, a6, a7, a8, a9⟩ := h
  have e : ev_tc 2 = 17 := by decide
  rw [e] at hc
  have g12 : v 12 j = x 12 j := by rw [hc 12 (by decide) (by decide), if_neg (by decide)]
  have g13 : v 13 j = x 13 j := by rw [hc 13 (by decide) (by decide), if_neg (by decide)]
  have g14 : v 14 j = x 14 j := by rw [hc 14 (by decide) (by decide), if_neg (by decide)]
  have g15 : v 15 j = x 15 j := by rw [hc 15 (by decide) (by decide), if_neg (by decide)]
  have g16 : v 16 j = x 16 j := by rw [hc 16 (by decide) (by decide), if_neg (by decide)]
  have g17 : v 17 j = val := by rw [hc 17 (by decide) (by decide), if_pos rfl]
  have g18 : v 18 j = x 18 j := by rw [hc 18 (by decide) (by decide), if_neg (by decide)]
  have g19 : v 19 j = x 19 j := by rw [hc 19 (by decide) (by decide), if_neg (by decide)]
  have m0 : mE v j 0 = mE x j 0 := by rw [hm 0 (by decide), if_neg (by decide)]
  have m1 : mE v j 1 = mE x j 1 := by rw [hm 1 (by decide), if_neg (by decide)]
  have m2 : mE v j 2 = mE x j 2 := by rw [hm 2 (by decide), if_neg (by decide)]
  have m3 : mE v j 3 = mE x j 3 := by rw [hm 3 (by decide), if_neg (by decide)]
  have m4 : mE v j 4 = mE x j 4 := by rw [hm 4 (by decide), if_neg (by decide)]
  have m5 : mE v j 5 = val := by rw [hm 5 (by decide), if_pos rfl]
  have m6 : mE v j 6 = mE x j 6 := by rw [hm 6 (by decide), if_neg (by decide)]
  have m7 : mE v j 7 = mE x j 7 := by rw [hm 7 (by decide), if_neg (by decide)]
  have hmon : mon v j = nI (O j) := by unfold mon; rw [m2, if_pos (by rw [← a5, h0]), m3]; exact c3
  exact ⟨by rw [g12, m0]; exact a1, by rw [g13]; exact a2, by rw [m1]; exact a3, a4, by rw [g14, m2]; exact a5, by rw [g15]; exact a6, hmon, a8, Or.inl ⟨by rw [g14]; exact h0, by rw [g16, m4]; exact c16, ⟨cc, hcc, by rw [g16]; exact c16b⟩, by rw [g17, m5], by rw [g17]; exact hv0, by rw [g17]; exact hv9, by rw [g18, m6]; exact c18, by rw [g18]; exact c18b, by rw [g19, m7]; exact c19, by rw [g19]; exact c19b⟩⟩
theorem E1_redate {x v : mj_X} {T O : Nat → Nat} {k j vN : Nat} {val : Int32} (h : E1 x x T O k j) (h0 : x 14 j = 0) (hv : val = nI vN) (hvT : vN ≤ T j) (hc : ∀ c, 12 ≤ c → c ≤ 19 → v c j = if c = ev_tc 3 then val else x c j) (hm : ∀ i, i < 8 → mE v j i = if i = 3 then val else mE x j i) : E1 v v T (fun i => if i = j then vN else O i) k j := by
  obtain ⟨c16, ⟨cc, hcc, c16b⟩, c17, c17a, c17b, c18, c18b, c19, c19b, c3⟩ := E1_c h h0
  obtain ⟨a1, a2, a3, a4, a5, a6, a7, a8, a9⟩ := h
  have e : ev_tc 3 = 15 := by decide
  rw [e] at hc
  have g12 : v 12 j = x 12 j := by rw [hc 12 (by decide) (by decide), if_neg (by decide)]
  have g13 : v 13 j = x 13 j := by rw [hc 13 (by decide) (by decide), if_neg (by decide)]
  have g14 : v 14 j = x 14 j := by rw [hc 14 (by decide) (by decide), if_neg (by decide)]
  have g15 : v 15 j = val := by rw [hc 15 (by decide) (by decide), if_pos rfl]
  have g16 : v 16 j = x 16 j := by rw [hc 16 (by decide) (by decide), if_neg (by decide)]
  have g17 : v 17 j = x 17 j := by rw [hc 17 (by decide) (by decide), if_neg (by decide)]
  have g18 : v 18 j = x 18 j := by rw [hc 18 (by decide) (by decide), if_neg (by decide)]
  have g19 : v 19 j = x 19 j := by rw [hc 19 (by decide) (by decide), if_neg (by decide)]
  have m0 : mE v j 0 = mE x j 0 := by rw [hm 0 (by decide), if_neg (by decide)]
  have m1 : mE v j 1 = mE x j 1 := by rw [hm 1 (by decide), if_neg (by decide)]
  have m2 : mE v j 2 = mE x j 2 := by rw [hm 2 (by decide), if_neg (by decide)]
  have m3 : mE v j 3 = val := by rw [hm 3 (by decide), if_pos rfl]
  have m4 : mE v j 4 = mE x j 4 := by rw [hm 4 (by decide), if_neg (by decide)]
  have m5 : mE v j 5 = mE x j 5 := by rw [hm 5 (by decide), if_neg (by decide)]
  have m6 : mE v j 6 = mE x j 6 := by rw [hm 6 (by decide), if_neg (by decide)]
  have m7 : mE v j 7 = mE x j 7 := by rw [hm 7 (by decide), if_neg (by decide)]
  have hmon : mon v j = nI ((fun i => if i = j then vN else O i) j) := by unfold mon; rw [m2, if_pos (by rw [← a5, h0]), m3]; exact (by rw [show (fun i => if i = j then vN else O i) j = vN by simp]; exact hv)
  exact ⟨by rw [g12, m0]; exact a1, by rw [g13]; exact a2, by rw [m1]; exact a3, a4, by rw [g14, m2]; exact a5, by rw [g15]; exact (by rw [show (fun i => if i = j then vN else O i) j = vN by simp]; exact hv), hmon, (by rw [show (fun i => if i = j then vN else O i) j = vN by simp]; exact hvT), Or.inl ⟨by rw [g14]; exact h0, by rw [g16, m4]; exact c16, ⟨cc, hcc, by rw [g16]; exact c16b⟩, by rw [g17, m5]; exact c17, by rw [g17]; exact c17a, by rw [g17]; exact c17b, by rw [g18, m6]; exact c18, by rw [g18]; exact c18b, by rw [g19, m7]; exact c19, by rw [g19]; exact c19b⟩⟩
theorem E1_excuse {x v : mj_X} {T O : Nat → Nat} {k j : Nat} {val : Int32} (h : E1 x x T O k j) (h0 : x 14 j = 0) (hv : val = 0 ∨ val = 1) (hc : ∀ c, 12 ≤ c → c ≤ 19 → v c j = if c = ev_tc 4 then val else x c j) (hm : ∀ i, i < 8 → mE v j i = if i = 6 then val else mE x j i) : E1 v v T O k j := by
  obtain ⟨c16, ⟨cc, hcc, c16b⟩, c17, c17a, c17b, c18, c18b, c19, c19b, c3⟩ := E1_c h h0
  obtain ⟨a1, a2, a3, a4, a5, a6, a7, a8, a9⟩ := h
  have e : ev_tc 4 = 18 := by decide
  rw [e] at hc
  have g12 : v 12 j = x 12 j := by rw [hc 12 (by decide) (by decide), if_neg (by decide)]
  have g13 : v 13 j = x 13 j := by rw [hc 13 (by decide) (by decide), if_neg (by decide)]
  have g14 : v 14 j = x 14 j := by rw [hc 14 (by decide) (by decide), if_neg (by decide)]
  have g15 : v 15 j = x 15 j := by rw [hc 15 (by decide) (by decide), if_neg (by decide)]
  have g16 : v 16 j = x 16 j := by rw [hc 16 (by decide) (by decide), if_neg (by decide)]
  have g17 : v 17 j = x 17 j := by rw [hc 17 (by decide) (by decide), if_neg (by decide)]
  have g18 : v 18 j = val := by rw [hc 18 (by decide) (by decide), if_pos rfl]
  have g19 : v 19 j = x 19 j := by rw [hc 19 (by decide) (by decide), if_neg (by decide)]
  have m0 : mE v j 0 = mE x j 0 := by rw [hm 0 (by decide), if_neg (by decide)]
  have m1 : mE v j 1 = mE x j 1 := by rw [hm 1 (by decide), if_neg (by decide)]
  have m2 : mE v j 2 = mE x j 2 := by rw [hm 2 (by decide), if_neg (by decide)]
  have m3 : mE v j 3 = mE x j 3 := by rw [hm 3 (by decide), if_neg (by decide)]
  have m4 : mE v j 4 = mE x j 4 := by rw [hm 4 (by decide), if_neg (by decide)]
  have m5 : mE v j 5 = mE x j 5 := by rw [hm 5 (by decide), if_neg (by decide)]
  have m6 : mE v j 6 = val := by rw [hm 6 (by decide), if_pos rfl]
  have m7 : mE v j 7 = mE x j 7 := by rw [hm 7 (by decide), if_neg (by decide)]
  have hmon : mon v j = nI (O j) := by unfold mon; rw [m2, if_pos (by rw [← a5, h0]), m3]; exact c3
  exact ⟨by rw [g12, m0]; exact a1, by rw [g13]; exact a2, by rw [m1]; exact a3, a4, by rw [g14, m2]; exact a5, by rw [g15]; exact a6, hmon, a8, Or.inl ⟨by rw [g14]; exact h0, by rw [g16, m4]; exact c16, ⟨cc, hcc, by rw [g16]; exact c16b⟩, by rw [g17, m5]; exact c17, by rw [g17]; exact c17a, by rw [g17]; exact c17b, by rw [g18, m6], by rw [g18]; exact hv, by rw [g19, m7]; exact c19, by rw [g19]; exact c19b⟩⟩
