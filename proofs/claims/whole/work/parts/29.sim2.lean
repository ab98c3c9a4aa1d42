/-! one event more -/
theorem mcnt_bd {X M : mj_X} {T O : Nat → Nat} {k j : Nat} (h : E1 X M T O k j) : -18 ≤ (mcnt M j).toInt ∧ (mcnt M j).toInt ≤ 18 ∧ (X 14 j = 0 → 0 ≤ (mcnt M j).toInt) ∧ (¬ X 14 j = 0 → (mcnt M j).toInt ≤ 0) := by
  obtain ⟨-, -, -, -, h5, -, -, -, h9⟩ := h
  unfold mcnt
  rw [← h5]
  split
  · rw [tl_0]; omega
  · rename_i hn
    split
    · rename_i hk
      rw [tl_m3]
      refine ⟨by omega, by omega, fun q => ?_, fun _ => by omega⟩
      rw [q] at hk
      exact absurd hk (by decide)
    · rename_i hk
      rcases h9 with ⟨h0, -, -, hp, p0, p9, -⟩ | ⟨h0 | h0, -⟩
      · rw [← hp]
        split
        · rw [ti_mul (by rw [tl_2]; omega) (by rw [tl_2]; omega), tl_2]
          exact ⟨by omega, by omega, fun _ => by omega, fun q => absurd h0 q⟩
        · rw [ti_mul (by rw [tl_1]; omega) (by rw [tl_1]; omega), tl_1]
          exact ⟨by omega, by omega, fun _ => by omega, fun q => absurd h0 q⟩
      · exact absurd h0 hk
      · exact absurd (Or.inr (Or.inr h0)) hn
theorem E1_fr {X M X' M' : mj_X} {T O : Nat → Nat} {k j : Nat} (hX : ∀ c, 12 ≤ c → c ≤ 19 → X' c = X c) (hM : M' 39 = M 39) (h : E1 X M T O k j) : E1 X' M' T O k j := by
  unfold E1 mon mE at h ⊢
  rw [hM, hX 12 (by decide) (by decide), hX 13 (by decide) (by decide), hX 14 (by decide) (by decide), hX 15 (by decide) (by decide), hX 16 (by decide) (by decide), hX 17 (by decide) (by decide), hX 18 (by decide) (by decide), hX 19 (by decide) (by decide)]
  exact h
theorem EV_fr {X M X' M' : mj_X} {T O : Nat → Nat} {k n : Nat} (hX : ∀ c, 12 ≤ c → c ≤ 19 → X' c = X c) (hM : M' 39 = M 39) (h : EV X M T O k n) : EV X' M' T O k n :=
  ⟨fun j hj => E1_fr hX hM (h.1 j hj), h.2⟩
theorem RU_fr {X M X' M' : mj_X} (hX : X' 4 = X 4) (hM : M' 39 = M 39) (h : RU X M) : RU X' M' := fun i hi => by rw [hX, hM]; exact h i hi
theorem CO_fr {X M X' M' : mj_X} {k : Nat} (h5 : X' 5 = X 5) (h6 : X' 6 = X 6) (h41 : M' 41 = M 41) (h42 : M' 42 = M 42) (h : CO X M k) : CO X' M' k := ⟨h.1, fun c hc => by rw [h5, h6, h41, h42]; exact h.2 c hc⟩
theorem mfr.c {x y : mj_X} (h : mfr x y) {k : Nat} (h1 : 38 ≤ k) (h2 : k ≤ 45) : y k = x k := h.2 k (by omega) (by omega)
theorem mcnt_congr {M M' : mj_X} {j : Nat} (h39 : M' 39 = M 39) (h46 : M' 46 j = M 46 j) (h47 : M' 47 j = M 47 j) : mcnt M' j = mcnt M j := by
  unfold mcnt mE; rw [h39, h46, h47]
theorem c2_lo {X : mj_X} {e c : Nat} (hc : c ≤ 23) : rc_c2 X e c = rc_c1 X e c := by
  unfold rc_c2; split
  · unfold bn_add; rw [up_ne (by omega), up_ne (by omega), up_ne (by omega), up_ne (by omega), up_ne (by omega), up_ne (by omega), up_ne (by omega), up_ne (by omega)]
  · rfl
theorem mc2_lo {M : mj_X} {e c : Nat} (h1 : 38 ≤ c) (h2 : c ≤ 48) : mc2 M e c = mc1 M e c := by
  unfold mc2; split
  · unfold mg; rw [up_ne (by omega), up_ne (by omega), up_ne (by omega), up_ne (by omega), up_ne (by omega), up_ne (by omega), up_ne (by omega)]
  · rfl
theorem ru_w {X M : mj_X} (h : RU X M) : ∃ w, 1 ≤ w ∧ w ≤ 999 ∧ X 4 0 = nI w ∧ M 39 328 = nI w := by
  obtain ⟨h1, h2, h3⟩ := h 0 (by decide)
  have e0 : (mj_st0 0).toInt = 1 := by decide
  have e1 : (mj_st1 0).toInt = 999 := by decide
  rw [e0] at h2; rw [e1] at h3
  have := nI_ofT (a := X 4 0) (by omega)
  exact ⟨(X 4 0).toInt.toNat, by omega, by omega, this, by rw [← this]; exact h1⟩
theorem c2_eq {X M : mj_X} {T O : Nat → Nat} {e k nb : Nat} (he : e < 41) (hnb : nb ≤ 2 * e) (hE : E1 X M T O k e) (hk0 : X 14 e = 0) (hk6 : k ≤ 6) (hCO : CO X M k)
    (hB : KB X M T e nb) (hM : ∀ j, j < e → MR X M j) (z1 : X 21 e = 0 ∧ X 22 e = 0) (z2 : M 47 e = 0 ∧ M 48 e = 0) (hst : mE M e 7 = 0) :
    (∃ m, m ≤ nb + 1 ∧ KB (rc_c2 X e) (mc2 M e) T (e + 1) m) ∧ ∀ j, j < e + 1 → MR (rc_c2 X e) (mc2 M e) j := by
  obtain ⟨a1, a2, a3, a4, a5, a6, a7, a8, a9⟩ := hE
  have a10 : mE M e 3 = X 15 e := by
    unfold mon at a7; rw [if_pos (by rw [← a5]; exact hk0)] at a7; rw [a7, a6]
  obtain ⟨-, b2, ⟨c, hc, b3⟩, b4, b5, b6, -⟩ := a9.resolve_right (fun q => by
    rcases q.1 with q | q <;> rw [hk0] at q <;> exact absurd q (by decide))
  have hd : rc_dbl X e = mdb M e := by
    unfold rc_dbl mdb
    rw [bnN_eq (by omega) hB.1, mbN_eq (by omega) hB.2.1, a10, ← a1]
    exact any_eq _ _ hB
  have hown : rc_own X e = mown M e := by
    unfold rc_own mown
    rw [← b2, b3, nI_clamp (by omega)]
    exact (hCO.2 c hc).2.1
  have hob : (rc_own X e).toInt ≤ 99 := by
    unfold rc_own
    rw [b3, nI_clamp (by omega)]
    exact (hCO.2 c hc).2.2.2.2.2
  have hB1 : KB (rc_c1 X e) (mc1 M e) T (e + 1) nb := by
    refine KB_mono (by omega) (KB_fr (fun c a b => ?_) ?_ (fun c a b => ?_) hB)
    · unfold rc_c1; rw [up_ne (by omega), up_ne (by omega)]
    · unfold mc1; rw [up_ne (by decide)]
    · unfold mc1; rw [up_ne (by omega)]
  constructor
  · unfold rc_c2 mc2
    rw [← hown]
    by_cases ho : 0 < rc_own X e
    · rw [if_pos ho, if_pos ho, bnN_eq (by omega) hB.1, mbN_eq (by omega) hB.2.1, ← a1, a3, a2]
      rw [Int32.lt_iff_toInt_lt, tl_0] at ho
      have tt := nI_toInt (n := T e) (by omega)
      exact ⟨nb + 1, by omega, KB_add (by omega) hB1 (by rw [tt]; omega) (by omega) (by rw [tt]; omega)⟩
    · rw [if_neg ho, if_neg ho]
      exact ⟨nb, by omega, hB1⟩
  · intro j hj
    have h39 : mc1 M e 39 = M 39 := by unfold mc1; rw [up_ne (by decide)]
    unfold MR
    rw [c2_lo (by decide), c2_lo (by decide), c2_lo (by decide), c2_lo (by decide), mc2_lo (by decide) (by decide), mc2_lo (by decide) (by decide), mc2_lo (by decide) (by decide),
      mcnt_congr (M := mc1 M e) (mc2_lo (by decide) (by decide)) (by rw [mc2_lo (by decide) (by decide)]) (by rw [mc2_lo (by decide) (by decide)])]
    by_cases hje : j = e
    · subst hje
      refine ⟨?_, ?_, ?_, ?_⟩
      · unfold rc_c1 mc1; rw [up_ne (by decide), up_eq, upd_eq, up_eq, upd_eq, hd]
      · unfold rc_c1 mc1; rw [up_ne (by decide), up_ne (by decide), up_ne (by decide), z1.1, z2.1]
      · unfold rc_c1 mc1; rw [up_ne (by decide), up_ne (by decide), up_ne (by decide), z1.2, z2.2]
      · unfold mcnt mE
        rw [h39]
        have q1 : mc1 M j 47 j = 0 := by unfold mc1; rw [up_ne (by decide), z2.1]
        have q2 : mc1 M j 46 j = bi (mdb M j) := by unfold mc1; rw [up_eq, upd_eq]
        have q3 : M 39 (8 * j + 2) = 0 := by have := a5; unfold mE at this; rw [← this, hk0]
        have q4 : M 39 (8 * j + 5) = X 17 j := by have := b4; unfold mE at this; rw [this]
        have q5 : M 39 (8 * j + 7) = 0 := hst
        rw [q1, q2, q3, q4, q5, if_neg (by decide), if_neg (by decide)]
        unfold rc_c1
        rw [up_eq, upd_eq, hd]
        cases mdb M j with
        | true => rw [if_pos rfl, if_pos (by decide)]; exact Int32.mul_comm _ _
        | false => rw [if_neg (by decide), if_neg (by decide)]; exact (Int32.mul_one _).symm
    · obtain ⟨m1, m2, m3, m4⟩ := hM j (by omega)
      refine ⟨?_, ?_, ?_, ?_⟩
      · unfold rc_c1 mc1; rw [up_ne (by decide), up_eq, upd_ne hje, up_eq, upd_ne hje, m1]
      · unfold rc_c1 mc1; rw [up_ne (by decide), up_ne (by decide), up_ne (by decide), m2]
      · unfold rc_c1 mc1; rw [up_ne (by decide), up_ne (by decide), up_ne (by decide), m3]
      · rw [mcnt_congr (M := M) h39 (by unfold mc1; rw [up_eq, upd_ne hje]) (by unfold mc1; rw [up_ne (by decide)])]
        unfold rc_c1; rw [up_eq, upd_ne hje, up_ne (by decide), m4]
theorem gr2_eq {X M : mj_X} {T : Nat → Nat} {e nb : Nat} {d : Int32} (he : e < 41) (hb : nb ≤ 82) (hRU : RU X M) (hd : mE M e 0 = d) (hdr : ∀ j, j < e + 1 → X 12 j = mE M j 0) (hT : ∀ k, k < e + 1 → T k ≤ T e ∧ mE M k 1 = nI (T k)) (hte : T e ≤ 9999)
    (hB : KB X M T (e + 1) nb) (hM : ∀ j, j < e + 1 → MR X M j) : KB (rc_great X d e (e + 1) (nI (T e))) (mgr M e) T (e + 1) (nb + 1) ∧ ∀ j, j < e + 1 → MR (rc_great X d e (e + 1) (nI (T e))) (mgr M e) j := by
  have tt := nI_toInt (n := T e) (by omega)
  obtain ⟨f1, f2, f3⟩ := fd_eq (d := d) (t := nI (T e)) (by rw [tt]; omega) hb hB
  have g1 := gr_eq (d := d) (by omega) hT hte (hRU 3 (by decide)).1.symm hB
  have hm : rc_tm X d (nI (T e)) = mtm M d (nI (T e)) := by
    unfold rc_tm mtm mgn
    rw [bnN_eq hb hB.1, mbN_eq hb hB.2.1, g1]
  have hm2 : 1 ≤ (rc_tm X d (nI (T e))).toInt ∧ (rc_tm X d (nI (T e))).toInt ≤ 4 := by
    unfold rc_tm
    split
    · decide
    · split <;> decide
  obtain ⟨r1, r2, r3⟩ := hRU 2 (by decide)
  have e0 : (mj_st0 2).toInt = 1 := by decide
  have e1 : (mj_st1 2).toInt = 99 := by decide
  rw [e0] at r2; rw [e1] at r3
  have hp : 1 ≤ (rc_tm X d (nI (T e))).toInt * (X 4 2).toInt ∧ (rc_tm X d (nI (T e))).toInt * (X 4 2).toInt ≤ 396 := by
    generalize (rc_tm X d (nI (T e))).toInt = a at *
    generalize (X 4 2).toInt = b at *
    have : a = 1 ∨ a = 2 ∨ a = 3 ∨ a = 4 := by omega
    rcases this with q | q | q | q <;> subst q <;> omega
  have hpt : (rc_tm X d (nI (T e)) * X 4 2).toInt = (rc_tm X d (nI (T e))).toInt * (X 4 2).toInt := ti_mul (by omega) (by omega)
  have hA := KB_add (d := d) (f := rc_fd X d (nI (T e))) (s := rc_tm X d (nI (T e)) * X 4 2) (g := 1) (k := e) (by omega) hB f2 (by rw [hpt]; omega) (by rw [hpt]; omega)
  have hG : mgr M e = msp (mg M nb d (rc_fd X d (nI (T e))) (rc_tm X d (nI (T e)) * X 4 2) (nI e) 1) d (e + 1) := by
    unfold mgr
    rw [mbN_eq hb hB.2.1, hd, (hT e (by omega)).2, ← f1, ← hm, show M 39 330 = X 4 2 from r1, Int32.mul_comm]
  have hX : rc_great X d e (e + 1) (nI (T e)) = ev_spend (bn_add X nb d (rc_fd X d (nI (T e))) (rc_tm X d (nI (T e)) * X 4 2) (nI e) (nI (T e)) 1) d (e + 1) := by
    unfold rc_great; rw [bnN_eq hb hB.1]
  rw [hG, hX]
  generalize rc_fd X d (nI (T e)) = F at *
  generalize rc_tm X d (nI (T e)) * X 4 2 = S at *
  refine ⟨KB_fr (fun c a b => spend_ne (by omega) (by omega)) (by rw [msp_ne (by decide)]) (fun c a b => msp_ne (by omega)) hA, fun j hj => ?_⟩
  have hlo : ∀ c, c ≤ 23 → bn_add X nb d F S (nI e) (nI (T e)) 1 c = X c := fun c hc => by
    unfold bn_add; rw [up_ne (by omega), up_ne (by omega), up_ne (by omega), up_ne (by omega), up_ne (by omega), up_ne (by omega), up_ne (by omega), up_ne (by omega)]
  have mlo : ∀ c, 38 ≤ c → c ≤ 48 → mg M nb d F S (nI e) 1 c = M c := fun c h1 h2 => by
    unfold mg; rw [up_ne (by omega), up_ne (by omega), up_ne (by omega), up_ne (by omega), up_ne (by omega), up_ne (by omega), up_ne (by omega)]
  generalize bn_add X nb d F S (nI e) (nI (T e)) 1 = X2 at *
  generalize mg M nb d F S (nI e) 1 = M2 at *
  obtain ⟨m1, m2, m3, m4⟩ := hM j hj
  have k1 : ev_spend X2 d (e + 1) 20 j = X 20 j := by rw [spend_ne (by decide) (by decide), hlo 20 (by decide)]
  have k2 : ev_spend X2 d (e + 1) 22 j = X 22 j := by rw [spend_ne (by decide) (by decide), hlo 22 (by decide)]
  have k3 : ev_spend X2 d (e + 1) 21 j = if X 12 j = d then 1 else X 21 j := by
    show (if j < e + 1 ∧ X2 12 j = d then 1 else X2 21 j) = _
    rw [hlo 12 (by decide), hlo 21 (by decide)]; simp [hj]
  have k4 : ev_spend X2 d (e + 1) 23 j = if X 12 j = d then 0 else X 23 j := by
    show (if j < e + 1 ∧ X2 12 j = d then 0 else X2 23 j) = _
    rw [hlo 12 (by decide), hlo 23 (by decide)]; simp [hj]
  have n1 : msp M2 d (e + 1) 46 j = M 46 j := by rw [msp_ne (by decide), mlo 46 (by decide) (by decide)]
  have n2 : msp M2 d (e + 1) 48 j = M 48 j := by rw [msp_ne (by decide), mlo 48 (by decide) (by decide)]
  have n4 : msp M2 d (e + 1) 39 = M 39 := by rw [msp_ne (by decide), mlo 39 (by decide) (by decide)]
  have n3 : msp M2 d (e + 1) 47 j = if X 12 j = d then 1 else M 47 j := by
    show (if j < e + 1 ∧ mE M2 j 0 = d then 1 else M2 47 j) = _
    rw [mlo 47 (by decide) (by decide), hdr j hj]; unfold mE; rw [mlo 39 (by decide) (by decide)]; simp [hj]
  refine ⟨by rw [k1, n1, m1], by rw [k3, n3, m2], by rw [k2, n2, m3], ?_⟩
  rw [k4]
  by_cases hq : X 12 j = d
  · rw [if_pos hq]
    rw [if_pos hq] at n3
    unfold mcnt
    rw [if_pos (Or.inl n3)]
  · rw [if_neg hq, m4]
    rw [if_neg hq] at n3
    exact (mcnt_congr n4 n1 n3).symm
theorem conv_eq {X M : mj_X} {T O : Nat → Nat} {e k nb : Nat} (he : e < 41) (hnb : nb ≤ 2 * e) (hEV : EV X M T O k (e + 1)) (hk0 : X 14 e = 0) (hs0 : X 19 e = 0) (hk6 : k ≤ 6) (hRU : RU X M) (hCO : CO X M k)
    (hB : KB X M T e nb) (hM : ∀ j, j < e → MR X M j) (z1 : X 21 e = 0 ∧ X 22 e = 0) (z2 : M 47 e = 0 ∧ M 48 e = 0) :
    (∃ m, m ≤ nb + 2 ∧ KB (rc_conv X e) (mcv M e) T (e + 1) m) ∧ ∀ j, j < e + 1 → MR (rc_conv X e) (mcv M e) j := by
  have hE := hEV.1 e (by omega)
  obtain ⟨a1, a2, a3, a4, a5, a6, a7, a8, a9⟩ := id hE
  have a10 : mE M e 3 = nI (O e) := by
    unfold mon at a7; rw [if_pos (by rw [← a5]; exact hk0)] at a7; exact a7
  obtain ⟨-, -, -, -, -, -, b7, b8, b9, -⟩ := a9.resolve_right (fun q => by
    rcases q.1 with q | q <;> rw [hk0] at q <;> exact absurd q (by decide))
  have hst : mE M e 7 = 0 := by rw [← b9, hs0]
  obtain ⟨⟨m, hm, hB2⟩, hM2⟩ := c2_eq he hnb hE hk0 hk6 hCO hB hM z1 z2 hst
  have fX : ∀ c, fr_k c → rc_c2 X e c = X c := fun c hc => fr_c2 hc
  have fM : mfr M (mc2 M e) := mfr_c2
  have hEV2 : EV (rc_c2 X e) (mc2 M e) T O k (e + 1) := EV_fr (fun c h1 h2 => fX c (Or.inl (by omega))) (fM.c (by decide) (by decide)) hEV
  have hRU2 : RU (rc_c2 X e) (mc2 M e) := RU_fr (fX 4 (Or.inl (by decide))) (fM.c (by decide) (by decide)) hRU
  obtain ⟨w, w1, w2, w3, w4⟩ := ru_w hRU2
  have hwq : wq (rc_c2 X e) (mc2 M e) O (e + 1) := by
    intro j hj
    have hh := hEV2.1 j hj
    have bd := mcnt_bd hh
    obtain ⟨c1, c2, c3, c4, c5, c6, c7, c8, c9⟩ := hh
    refine ⟨c1, c5, c6, c7, by omega, fun q => ?_, (hM2 j hj).2.2.2, bd.1, bd.2.1, bd.2.2.1, bd.2.2.2⟩
    rcases c9 with c9 | c9
    · exact absurd c9.1 q
    · rw [c2, c9.2.1]
  have hmost := hv_most (d := X 12 e) (t := O e) (by omega) w1 w2 w3 w4 (by omega) hwq
  have hmw : mw M = w := by
    unfold mw
    rw [show M 39 328 = nI w by rw [← w4, fM.c (by decide) (by decide)], nI_clamp (by omega)]
  unfold rc_conv mcv
  rw [if_neg (show ¬ mE M e 7 = 1 by rw [hst]; decide), hmw, ← a1, a10, a6, hmost, a2]
  have r1 : M 39 329 = X 4 1 := (hRU 1 (by decide)).1
  rw [r1, ← b7]
  by_cases hc : X 18 e = 0 ∧ X 4 1 ≤ most (mc2 M e) (X 12 e) (nI (O e)) (e + 1) w
  · rw [if_pos hc, if_neg (fun q => by
      rcases q with q | q
      · rw [hc.1] at q; exact absurd q (by decide)
      · have h2 := hc.2
        rw [Int32.lt_iff_toInt_lt] at q
        rw [Int32.le_iff_toInt_le] at h2
        omega)]
    have hg := gr2_eq (X := rc_c2 X e) (M := mc2 M e) (T := T) (e := e) (nb := m) (d := X 12 e) he (by omega) hRU2 (by rw [fM.E, a1]) (fun j hj => (hEV2.1 j hj).1) (fun k hk => ⟨hEV.2 k e (by omega) (by omega), (hEV2.1 k hk).2.2.1⟩) a4 hB2 hM2
    exact ⟨⟨m + 1, by omega, hg.1⟩, hg.2⟩
  · rw [if_neg hc, if_pos (by
      by_cases h18 : X 18 e = 1
      · exact Or.inl h18
      · right
        have h0 := b8.resolve_right h18
        rw [Int32.lt_iff_toInt_lt]
        have : ¬ X 4 1 ≤ most (mc2 M e) (X 12 e) (nI (O e)) (e + 1) w := fun q => hc ⟨h0, q⟩
        rw [Int32.le_iff_toInt_le] at this
        omega)]
    exact ⟨⟨m, by omega, hB2⟩, hM2⟩
