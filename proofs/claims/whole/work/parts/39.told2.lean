theorem i_strike {x : mj_X} (h : Inv x) (e : Int32) : PAIR mX6_strike mX7_strike [.int e] x := by
  obtain ⟨len, t, k, n, s, T, O, h⟩ := h
  obtain ⟨nb, hk⟩ := IV_kr h
  have hn := h.2.2.2.1.2.2.1
  have hb := hk.1
  have hs6 := h.2.2.2.2.2.2.2.2.1
  have hst := h.2.2.2.2.2.2.2.1
  have hsn := h.2.2.2.1.2.1
  refine (p_strike shM x n nb s k (IV_CW h hk) e).mono (fun z y q => ?_)
  by_cases hC : ev_isC x n e = true
  · obtain ⟨j, hj, rfl, h0⟩ := isC_j hn hC
    have hE := h.2.2.2.1.2.2.2.1.1 j hj
    obtain ⟨c16, ⟨cc, hcc, c16b⟩, c17, c17a, c17b, c18, c18b, c19, c19b, c3⟩ := E1_c hE h0
    obtain ⟨a1, a2, a3, a4, a5, a6, a7, a8, a9⟩ := id hE
    have hcj : (nI j).toNatClampNeg = j := nI_clamp (by omega)
    rw [hcj] at q
    rw [if_neg (by rw [hC]; decide)] at q
    by_cases hB : x 19 j = 1
    · rw [if_pos hB] at q
      obtain ⟨q1, q2⟩ := q
      subst q2
      have ic := isC_eq h rfl (nI j)
      refine (q_strike y n hn hsn s hs6 hst (nI j) ?_ ?_).mono (fun z' y' q => ?_)
      · intro r; rw [hcj, ← c19] at r; exact absurd hB r.2
      · intro r; rw [hcj, ← c19] at r; exact absurd hB r.2
      · rw [hcj, ic, if_neg (by rw [hC]; decide), ← c19, if_pos hB] at q
        obtain ⟨r1, r2⟩ := q
        subst r2
        exact ⟨by rw [r1, q1], len, t, k, n, s, T, O, h⟩
    · rw [if_neg hB] at q
      obtain ⟨w, q1, q2, q3⟩ := q
      have tc := tc_in (v := 1)
      have hyx : ∀ c, 37 ≤ c → y c = x c := fun c hc => by rw [q2, fr_it (Or.inr (by omega)), no_hi q1 (by omega), up_ne (by omega)]
      have e39 := hyx 39 (by decide)
      have ic := isC_eq h e39 (nI j)
      have hm : ∀ i, mE y j i = mE x j i := fun i => by unfold mE; rw [e39]
      have TT := TOLD (O' := O) (wS := 7) h hk hj (by decide) (by decide) q1 q2 (fun _ _ _ => rfl) (fun v hc hmm => E1_strike hE h0 rfl hc hmm) (x 12 j)
      refine (q_strike y n hn (by rw [e39]; exact hsn) s hs6 (by rw [hyx 37 (by decide)]; exact hst) (nI j) (fun _ => by rw [hcj, hm 0, ← a1]; exact TT.1) (fun _ v1 hmn => by rw [hcj, hm 0, ← a1]; exact (TT.2 v1 hmn).1)).mono (fun z' y' q => ?_)
      rw [hcj, ic, if_neg (by rw [hC]; decide), hm 0, ← a1, hm 7, ← c19, if_neg hB] at q
      obtain ⟨a, b, v1, r1, r2, r3, r4, r5⟩ := q
      obtain ⟨u1, u2, u3⟩ := TT.2 v1 r2
      obtain ⟨e1, e2⟩ := u3 a b r1 r3
      subst r4
      exact ⟨by rw [r5, q3, e1, e2], len, t, k, n, mn_u s + 1, T, O, u2⟩
  · rw [if_pos (by simpa using hC)] at q
    obtain ⟨q1, q2⟩ := q
    subst q2
    have ic := isC_eq h rfl e
    refine (q_strike y n hn hsn s hs6 hst e ?_ ?_).mono (fun z' y' q => ?_)
    · intro r; exact absurd (by rw [← ic]; exact r.1) hC
    · intro r; exact absurd (by rw [← ic]; exact r.1) hC
    · rw [if_pos (by rw [ic]; simpa using hC)] at q
      obtain ⟨r1, r2⟩ := q
      subst r2
      exact ⟨by rw [r1, q1], len, t, k, n, s, T, O, h⟩
theorem i_excuse {x : mj_X} (h : Inv x) (e : Int32) : PAIR mX6_excuse mX7_excuse [.int e] x := by
  obtain ⟨len, t, k, n, s, T, O, h⟩ := h
  obtain ⟨nb, hk⟩ := IV_kr h
  have hn := h.2.2.2.1.2.2.1
  have hb := hk.1
  have hs6 := h.2.2.2.2.2.2.2.2.1
  have hst := h.2.2.2.2.2.2.2.1
  have hsn := h.2.2.2.1.2.1
  refine (p_excuse shM x n nb s k (IV_CW h hk) e).mono (fun z y q => ?_)
  by_cases hC : ev_isC x n e = true
  · obtain ⟨j, hj, rfl, h0⟩ := isC_j hn hC
    have hE := h.2.2.2.1.2.2.2.1.1 j hj
    obtain ⟨c16, ⟨cc, hcc, c16b⟩, c17, c17a, c17b, c18, c18b, c19, c19b, c3⟩ := E1_c hE h0
    obtain ⟨a1, a2, a3, a4, a5, a6, a7, a8, a9⟩ := id hE
    have hcj : (nI j).toNatClampNeg = j := nI_clamp (by omega)
    rw [hcj] at q
    rw [if_neg (by rw [hC]; decide)] at q
    by_cases hB : x 19 j = 1
    · rw [if_pos hB] at q
      obtain ⟨q1, q2⟩ := q
      subst q2
      have ic := isC_eq h rfl (nI j)
      refine (q_excuse y n hn hsn s hs6 hst (nI j) ?_ ?_).mono (fun z' y' q => ?_)
      · intro r; rw [hcj, ← c19] at r; exact absurd hB r.2
      · intro r; rw [hcj, ← c19] at r; exact absurd hB r.2
      · rw [hcj, ic, if_neg (by rw [hC]; decide), ← c19, if_pos hB] at q
        obtain ⟨r1, r2⟩ := q
        subst r2
        exact ⟨by rw [r1, q1], len, t, k, n, s, T, O, h⟩
    · rw [if_neg hB] at q
      obtain ⟨w, q1, q2, q3⟩ := q
      have tc := tc_in (v := 4)
      have hyx : ∀ c, 37 ≤ c → y c = x c := fun c hc => by rw [q2, fr_it (Or.inr (by omega)), no_hi q1 (by omega), up_ne (by omega)]
      have e39 := hyx 39 (by decide)
      have ic := isC_eq h e39 (nI j)
      have hm : ∀ i, mE y j i = mE x j i := fun i => by unfold mE; rw [e39]
      have TT := TOLD (O' := O) (wS := 6) h hk hj (by decide) (by decide) q1 q2 (fun _ _ _ => rfl) (fun v hc hmm => E1_excuse hE h0 (by rcases c18b with q | q <;> rw [q] <;> decide) hc hmm) (x 12 j)
      refine (q_excuse y n hn (by rw [e39]; exact hsn) s hs6 (by rw [hyx 37 (by decide)]; exact hst) (nI j) (fun _ => by rw [hcj, hm 0, ← a1]; exact TT.1) (fun _ v1 hmn => by rw [hcj, hm 0, ← a1, hm 6, ← c18]; exact (TT.2 v1 hmn).1)).mono (fun z' y' q => ?_)
      rw [hcj, ic, if_neg (by rw [hC]; decide), hm 0, ← a1, hm 7, hm 6, ← c18, ← c19, if_neg hB] at q
      obtain ⟨a, b, v1, r1, r2, r3, r4, r5⟩ := q
      obtain ⟨u1, u2, u3⟩ := TT.2 v1 r2
      obtain ⟨e1, e2⟩ := u3 a b r1 r3
      subst r4
      exact ⟨by rw [r5, q3, e1, e2], len, t, k, n, mn_u s + 1, T, O, u2⟩
  · rw [if_pos (by simpa using hC)] at q
    obtain ⟨q1, q2⟩ := q
    subst q2
    have ic := isC_eq h rfl e
    refine (q_excuse y n hn hsn s hs6 hst e ?_ ?_).mono (fun z' y' q => ?_)
    · intro r; exact absurd (by rw [← ic]; exact r.1) hC
    · intro r; exact absurd (by rw [← ic]; exact r.1) hC
    · rw [if_pos (by rw [ic]; simpa using hC)] at q
      obtain ⟨r1, r2⟩ := q
      subst r2
      exact ⟨by rw [r1, q1], len, t, k, n, s, T, O, h⟩
theorem i_lower {x : mj_X} (h : Inv x) (e v : Int32) : PAIR mX6_lower mX7_lower [.int e, .int v] x := by
  obtain ⟨len, t, k, n, s, T, O, h⟩ := h
  obtain ⟨nb, hk⟩ := IV_kr h
  have hn := h.2.2.2.1.2.2.1
  have hb := hk.1
  have hs6 := h.2.2.2.2.2.2.2.2.1
  have hst := h.2.2.2.2.2.2.2.1
  have hsn := h.2.2.2.1.2.1
  refine (p_lower shM x n nb s k (IV_CW h hk) e v).mono (fun z y q => ?_)
  by_cases hC : ev_isC x n e = true
  · obtain ⟨j, hj, rfl, h0⟩ := isC_j hn hC
    have hE := h.2.2.2.1.2.2.2.1.1 j hj
    obtain ⟨c16, ⟨cc, hcc, c16b⟩, c17, c17a, c17b, c18, c18b, c19, c19b, c3⟩ := E1_c hE h0
    obtain ⟨a1, a2, a3, a4, a5, a6, a7, a8, a9⟩ := id hE
    have hcj : (nI j).toNatClampNeg = j := nI_clamp (by omega)
    rw [hcj] at q
    by_cases hA : ¬ (0 ≤ v ∧ v ≤ 8)
    · rw [if_pos (fun r => (fun a : ¬ _ => a r.2) hA)] at q
      obtain ⟨q1, q2⟩ := q
      subst q2
      have ic := isC_eq h rfl (nI j)
      refine (q_lower y n hn hsn s hs6 hst (nI j) v ?_ ?_).mono (fun z' y' q => ?_)
      · intro r; rw [hcj] at r; exact absurd ⟨r.2.1, r.2.2.1⟩ hA
      · intro r; rw [hcj] at r; exact absurd ⟨r.2.1, r.2.2.1⟩ hA
      · rw [hcj, if_pos (fun r => (fun a : ¬ _ => a r.2) hA)] at q
        obtain ⟨r1, r2⟩ := q
        subst r2
        exact ⟨by rw [r1, q1], len, t, k, n, s, T, O, h⟩
    · rw [if_neg (fun r => r ⟨hC, Classical.not_not.mp hA⟩)] at q
      have hAA := Classical.not_not.mp hA
      by_cases hB : x 19 j = 1 ∨ x 17 j ≤ v
      · rw [if_pos hB] at q
        obtain ⟨q1, q2⟩ := q
        subst q2
        have ic := isC_eq h rfl (nI j)
        refine (q_lower y n hn hsn s hs6 hst (nI j) v ?_ ?_).mono (fun z' y' q => ?_)
        · intro r; rw [hcj, ← c19, ← c17] at r; exact absurd hB r.2.2.2
        · intro r; rw [hcj, ← c19, ← c17] at r; exact absurd hB r.2.2.2
        · rw [hcj, if_neg (fun r => r ⟨by rw [ic]; exact hC, hAA⟩), ← c19, ← c17, if_pos hB] at q
          obtain ⟨r1, r2⟩ := q
          subst r2
          exact ⟨by rw [r1, q1], len, t, k, n, s, T, O, h⟩
      · rw [if_neg hB] at q
        obtain ⟨w, q1, q2, q3⟩ := q
        have tc := tc_in (v := 2)
        have hyx : ∀ c, 37 ≤ c → y c = x c := fun c hc => by rw [q2, fr_it (Or.inr (by omega)), no_hi q1 (by omega), up_ne (by omega)]
        have e39 := hyx 39 (by decide)
        have ic := isC_eq h e39 (nI j)
        have hm : ∀ i, mE y j i = mE x j i := fun i => by unfold mE; rw [e39]
        have TT := TOLD (O' := O) (wS := 5) h hk hj (by decide) (by decide) q1 q2 (fun _ _ _ => rfl) (fun v hc hmm => E1_lower hE h0 (by have := hAA.1; rw [Int32.le_iff_toInt_le, tl_0] at this; exact this) (by have := hAA.2; rw [Int32.le_iff_toInt_le, tl_8] at this; omega) hc hmm) (x 12 j)
        refine (q_lower y n hn (by rw [e39]; exact hsn) s hs6 (by rw [hyx 37 (by decide)]; exact hst) (nI j) v (fun _ => by rw [hcj, hm 0, ← a1]; exact TT.1) (fun _ v1 hmn => by rw [hcj, hm 0, ← a1]; exact (TT.2 v1 hmn).1)).mono (fun z' y' q => ?_)
        rw [hcj, hm 0, ← a1, hm 7, hm 5, if_neg (fun r => r ⟨by rw [ic]; exact hC, hAA⟩), ← c19, ← c17, if_neg hB] at q
        obtain ⟨a, b, v1, r1, r2, r3, r4, r5⟩ := q
        obtain ⟨u1, u2, u3⟩ := TT.2 v1 r2
        obtain ⟨e1, e2⟩ := u3 a b r1 r3
        subst r4
        exact ⟨by rw [r5, q3, e1, e2], len, t, k, n, mn_u s + 1, T, O, u2⟩
  · rw [if_pos (fun r => hC r.1)] at q
    obtain ⟨q1, q2⟩ := q
    subst q2
    have ic := isC_eq h rfl e
    refine (q_lower y n hn hsn s hs6 hst e v ?_ ?_).mono (fun z' y' q => ?_)
    · intro r; exact absurd (by rw [← ic]; exact r.1) hC
    · intro r; exact absurd (by rw [← ic]; exact r.1) hC
    · rw [if_pos (fun r => hC (by rw [← ic]; exact r.1))] at q
      obtain ⟨r1, r2⟩ := q
      subst r2
      exact ⟨by rw [r1, q1], len, t, k, n, s, T, O, h⟩
theorem i_redate {x : mj_X} (h : Inv x) (e v : Int32) : PAIR mX6_redate mX7_redate [.int e, .int v] x := by
  obtain ⟨len, t, k, n, s, T, O, h⟩ := h
  obtain ⟨nb, hk⟩ := IV_kr h
  have hn := h.2.2.2.1.2.2.1
  have hb := hk.1
  have hs6 := h.2.2.2.2.2.2.2.2.1
  have hst := h.2.2.2.2.2.2.2.1
  have hsn := h.2.2.2.1.2.1
  refine (p_redate shM x n nb s k (IV_CW h hk) e v).mono (fun z y q => ?_)
  by_cases hC : ev_isC x n e = true
  · obtain ⟨j, hj, rfl, h0⟩ := isC_j hn hC
    have hE := h.2.2.2.1.2.2.2.1.1 j hj
    obtain ⟨c16, ⟨cc, hcc, c16b⟩, c17, c17a, c17b, c18, c18b, c19, c19b, c3⟩ := E1_c hE h0
    obtain ⟨a1, a2, a3, a4, a5, a6, a7, a8, a9⟩ := id hE
    have hcj : (nI j).toNatClampNeg = j := nI_clamp (by omega)
    rw [hcj] at q
    by_cases hA : ¬ (0 ≤ v ∧ v ≤ x 13 j)
    · rw [if_pos (fun r => (fun a : ¬ _ => a r.2) hA)] at q
      obtain ⟨q1, q2⟩ := q
      subst q2
      have ic := isC_eq h rfl (nI j)
      refine (q_redate y n hn hsn s hs6 hst (nI j) v ?_ ?_).mono (fun z' y' q => ?_)
      · intro r; rw [hcj, a3, ← a2] at r; exact absurd ⟨r.2.1, r.2.2.1⟩ hA
      · intro r; rw [hcj, a3, ← a2] at r; exact absurd ⟨r.2.1, r.2.2.1⟩ hA
      · rw [hcj, a3, ← a2, if_pos (fun r => (fun a : ¬ _ => a r.2) hA)] at q
        obtain ⟨r1, r2⟩ := q
        subst r2
        exact ⟨by rw [r1, q1], len, t, k, n, s, T, O, h⟩
    · rw [if_neg (fun r => r ⟨hC, Classical.not_not.mp hA⟩)] at q
      have hAA := Classical.not_not.mp hA
      by_cases hB : x 19 j = 1 ∨ x 15 j = v
      · rw [if_pos hB] at q
        obtain ⟨q1, q2⟩ := q
        subst q2
        have ic := isC_eq h rfl (nI j)
        refine (q_redate y n hn hsn s hs6 hst (nI j) v ?_ ?_).mono (fun z' y' q => ?_)
        · intro r; rw [hcj, ← c19, c3, ← a6] at r; exact absurd hB r.2.2.2
        · intro r; rw [hcj, ← c19, c3, ← a6] at r; exact absurd hB r.2.2.2
        · rw [hcj, a3, ← a2, if_neg (fun r => r ⟨by rw [ic]; exact hC, hAA⟩), ← c19, c3, ← a6, if_pos hB] at q
          obtain ⟨r1, r2⟩ := q
          subst r2
          exact ⟨by rw [r1, q1], len, t, k, n, s, T, O, h⟩
      · rw [if_neg hB] at q
        obtain ⟨w, q1, q2, q3⟩ := q
        have tc := tc_in (v := 3)
        have hyx : ∀ c, 37 ≤ c → y c = x c := fun c hc => by rw [q2, fr_it (Or.inr (by omega)), no_hi q1 (by omega), up_ne (by omega)]
        have e39 := hyx 39 (by decide)
        have ic := isC_eq h e39 (nI j)
        have hm : ∀ i, mE y j i = mE x j i := fun i => by unfold mE; rw [e39]
        obtain ⟨vN, hvN, rfl⟩ := lit_le (m := T j) (by omega) hAA.1 (by rw [← a2]; exact hAA.2)
        have TT := TOLD (O' := (fun i => if i = j then vN else O i)) (wS := 3) h hk hj (by decide) (by decide) q1 q2 (fun i _ hi => if_neg hi) (fun v hc hmm => E1_redate hE h0 rfl hvN hc hmm) (x 12 j)
        refine (q_redate y n hn (by rw [e39]; exact hsn) s hs6 (by rw [hyx 37 (by decide)]; exact hst) (nI j) (nI vN) (fun _ => by rw [hcj, hm 0, ← a1]; exact TT.1) (fun _ v1 hmn => by rw [hcj, hm 0, ← a1]; exact (TT.2 v1 hmn).1)).mono (fun z' y' q => ?_)
        rw [hcj, hm 0, ← a1, hm 7, hm 1, hm 3, a3, ← a2, if_neg (fun r => r ⟨by rw [ic]; exact hC, hAA⟩), ← c19, c3, ← a6, if_neg hB] at q
        obtain ⟨a, b, v1, r1, r2, r3, r4, r5⟩ := q
        obtain ⟨u1, u2, u3⟩ := TT.2 v1 r2
        obtain ⟨e1, e2⟩ := u3 a b r1 r3
        subst r4
        exact ⟨by rw [r5, q3, e1, e2], len, t, k, n, mn_u s + 1, T, (fun i => if i = j then vN else O i), u2⟩
  · rw [if_pos (fun r => hC r.1)] at q
    obtain ⟨q1, q2⟩ := q
    subst q2
    have ic := isC_eq h rfl e
    refine (q_redate y n hn hsn s hs6 hst e v ?_ ?_).mono (fun z' y' q => ?_)
    · intro r; exact absurd (by rw [← ic]; exact r.1) hC
    · intro r; exact absurd (by rw [← ic]; exact r.1) hC
    · rw [if_pos (fun r => hC (by rw [← ic]; exact r.1))] at q
      obtain ⟨r1, r2⟩ := q
      subst r2
      exact ⟨by rw [r1, q1], len, t, k, n, s, T, O, h⟩
