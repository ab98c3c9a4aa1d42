theorem long_eq {X M : mj_X} {T O : Nat → Nat} {e k nb : Nat} (he : e < 41) (hnb : nb ≤ 2 * e) (hE : E1 X M T O k e) (hk2 : X 14 e = 2)
    (hB : KB X M T e nb) (hM : ∀ j, j < e → MR X M j) (z1 : X 20 e = 0 ∧ X 21 e = 0 ∧ X 22 e = 0 ∧ X 23 e = 0) (z2 : M 46 e = 0 ∧ M 47 e = 0 ∧ M 48 e = 0) :
    KB (rc_long X e) (msh M e) T (e + 1) nb ∧ ∀ j, j < e + 1 → MR (rc_long X e) (msh M e) j := by
  obtain ⟨a1, a2, a3, a4, a5, a6, a7, a8, a9⟩ := hE
  have tt := nI_toInt (n := T e) (by omega)
  have hB1 : KB X M T (e + 1) nb := KB_mono (by omega) hB
  have hM0 : X 20 e = M 46 e ∧ X 21 e = M 47 e ∧ X 23 e = mcnt M e := by
    refine ⟨by rw [z1.1, z2.1], by rw [z1.2.1, z2.2.1], ?_⟩
    rw [z1.2.2.2]; unfold mcnt
    rw [if_pos (Or.inr (Or.inr (by rw [← a5, hk2])))]
  have hsh := sh_eq (d := X 12 e) (t := nI (T e)) nb (by omega) hB.2.2
  unfold rc_long msh rc_sh msv
  rw [bnN_eq (by omega) hB.1, mbN_eq (by omega) hB.2.1, a2, a3, ← a1]
  rcases hsh with ⟨s1, s2⟩ | ⟨j, hj, s1, s2, s3, s4⟩
  · rw [s1, s2, if_pos (show (-1 : Int32) < 0 by decide), if_pos rfl]
    refine ⟨KB_fr (fun c h1 h2 => up_ne (by omega)) (by rw [up_ne (by decide)]) (fun c h1 h2 => up_ne (by omega)) hB1, fun i hi => ?_⟩
    by_cases hie : i = e
    · subst hie
      refine ⟨by rw [up_ne (by decide), up_ne (by decide)]; exact hM0.1, by rw [up_ne (by decide), up_ne (by decide)]; exact hM0.2.1, by rw [up_eq, upd_eq, up_eq, upd_eq], ?_⟩
      rw [up_ne (by decide), mcnt_congr (M := M) (up_ne (by decide)) (by rw [up_ne (by decide)]) (by rw [up_ne (by decide)])]
      exact hM0.2.2
    · obtain ⟨m1, m2, m3, m4⟩ := hM i (by omega)
      refine ⟨by rw [up_ne (by decide), up_ne (by decide)]; exact m1, by rw [up_ne (by decide), up_ne (by decide)]; exact m2, by rw [up_eq, upd_ne hie, up_eq, upd_ne hie]; exact m3, ?_⟩
      rw [up_ne (by decide), mcnt_congr (M := M) (up_ne (by decide)) (by rw [up_ne (by decide)]) (by rw [up_ne (by decide)])]
      exact m4
  · have ej : (nI j).toNatClampNeg = j := nI_clamp (by omega)
    have tj := nI_toInt (n := j) (by omega)
    rw [s1, s2, if_neg (show ¬ nI j < 0 by rw [Int32.lt_iff_toInt_lt, tj, tl_0]; omega), if_neg (show ¬ nI j = -4 from fun q => by
      have := congrArg Int32.toInt q
      rw [tj, tl_m4] at this
      omega), ej]
    have b := hB1.2.2 j hj
    have tL := mL_ti (by omega) b
    obtain ⟨b1, b2, b3, b4, b5, b6, b7, b8, b9, b10⟩ := b
    rw [Int32.le_iff_toInt_le, tt] at s3 s4
    have hs : X 27 j - X 26 j + 1 = M 51 j := by
      rw [b2, b3]; unfold mL; grind
    have q4 := ti_div4 (s := M 51 j) (by omega)
    have l1 : (mL M j - M 51 j / 4).toInt = (mL M j).toInt - (M 51 j).toInt / 4 := by rw [ti_sub (by omega) (by omega), q4]
    have l2 : (M 51 j - M 51 j / 4).toInt = (M 51 j).toInt - (M 51 j).toInt / 4 := by rw [ti_sub (by omega) (by omega), q4]
    have l3 : (nI (T e) - M 50 j + 1).toInt = (T e : Int) - (M 50 j).toInt + 1 := by
      have l4 : (nI (T e) - M 50 j).toInt = (T e : Int) - (M 50 j).toInt := by rw [ti_sub (by omega) (by omega), tt]
      rw [ti_add (by rw [l4, tl_1]; omega) (by rw [l4, tl_1]; omega), l4, tl_1]
    have hnl : ∃ S : Int32, (if M 51 j - M 51 j / 4 < nI (T e) - M 50 j + 1 then nI (T e) - M 50 j + 1 else M 51 j - M 51 j / 4) = S ∧ (if mL M j - M 51 j / 4 < nI (T e) then nI (T e) else mL M j - M 51 j / 4) = M 50 j + S - 1 ∧ 1 ≤ S.toInt ∧ S.toInt ≤ (M 51 j).toInt := by
      by_cases hc : M 51 j - M 51 j / 4 < nI (T e) - M 50 j + 1
      · refine ⟨nI (T e) - M 50 j + 1, if_pos hc, ?_, by omega, by omega⟩
        rw [Int32.lt_iff_toInt_lt, l2, l3] at hc
        rw [if_pos (by rw [Int32.lt_iff_toInt_lt, l1, tt]; omega)]
        grind
      · refine ⟨M 51 j - M 51 j / 4, if_neg hc, ?_, by omega, by omega⟩
        rw [Int32.lt_iff_toInt_lt, l2, l3] at hc
        rw [if_neg (by rw [Int32.lt_iff_toInt_lt, l1, tt]; omega)]
        unfold mL
        grind
    obtain ⟨S, hS1, hS2, hS3, hS4⟩ := hnl
    unfold bn_short
    rw [hs, b3, hS1, hS2]
    refine ⟨⟨?_, ?_, fun i hi => ?_⟩, fun i hi => ?_⟩
    · rw [up_ne (by decide), up_ne (by decide)]; exact hB.1
    · rw [up_ne (by decide), up_ne (by decide), up_ne (by decide)]; exact hB.2.1
    · by_cases hij : i = j
      · subst hij
        have hmL : mL (mj_up (mj_up (mj_up M 48 e 0) 51 i S) 54 i 1) i = M 50 i + S - 1 := by
          unfold mL; simp [up_at]
        refine ⟨?_, ?_, ?_, ?_, ?_, ?_, ?_, ?_, ?_, ?_⟩
        · simp [up_at]; exact b1
        · simp [up_at]; exact b2
        · rw [hmL]; simp [up_at]
        · simp [up_at]; exact b4
        · simp [up_at]; exact b5
        · simp [up_at]
        · simp [up_at]; exact b7
        · simp [up_at]; exact b8
        · simp [up_at]; exact hS3
        · simp [up_at]; omega
      · refine BR_congr (fun c h1 h2 => ?_) (fun c h1 h2 => ?_) (hB1.2.2 i hi)
        · simp [up_at, hij]
        · simp only [up_at]
          rw [if_neg (fun q => hij q.2), if_neg (fun q => hij q.2), if_neg (by omega)]
    · have x39 : mj_up (mj_up (mj_up M 48 e 0) 51 j S) 54 j 1 39 = M 39 := by rw [up_ne (by decide), up_ne (by decide), up_ne (by decide)]
      have x46 : mj_up (mj_up (mj_up M 48 e 0) 51 j S) 54 j 1 46 = M 46 := by rw [up_ne (by decide), up_ne (by decide), up_ne (by decide)]
      have x47 : mj_up (mj_up (mj_up M 48 e 0) 51 j S) 54 j 1 47 = M 47 := by rw [up_ne (by decide), up_ne (by decide), up_ne (by decide)]
      have x48 : mj_up (mj_up (mj_up M 48 e 0) 51 j S) 54 j 1 48 i = M 48 i := by
        rw [up_ne (by decide), up_ne (by decide)]
        by_cases hie : i = e
        · subst hie; rw [up_eq, upd_eq, z2.2.2]
        · rw [up_eq, upd_ne hie]
      unfold MR
      rw [mcnt_congr (M := M) x39 (by rw [x46]) (by rw [x47]), x46, x47, x48, up_ne (by decide), up_ne (by decide), up_ne (by decide), up_ne (by decide), up_ne (by decide), up_ne (by decide), up_ne (by decide), up_ne (by decide)]
      by_cases hie : i = e
      · subst hie
        exact ⟨hM0.1, hM0.2.1, by rw [z1.2.2.1, z2.2.2], hM0.2.2⟩
      · exact hM i (by omega)
theorem KZ_nx {M : mj_X} {e n : Nat} (h : KZ M e n) : KZ (mnx M e) (e + 1) n := by
  intro k h1 h2
  obtain ⟨g1, g2, g3⟩ := h k (by omega) h2
  have hke : k ≠ e := by omega
  have c1 : mc1 M e 46 k = 0 ∧ mc1 M e 47 k = 0 ∧ mc1 M e 48 k = 0 := by
    unfold mc1; rw [up_eq, upd_ne hke, up_ne (by decide), up_ne (by decide)]; exact ⟨g1, g2, g3⟩
  have c2 : mc2 M e 46 k = 0 ∧ mc2 M e 47 k = 0 ∧ mc2 M e 48 k = 0 := by
    rw [mc2_lo (by decide) (by decide), mc2_lo (by decide) (by decide), mc2_lo (by decide) (by decide)]; exact c1
  unfold mnx
  split
  · unfold mcv
    split
    · exact ⟨g1, g2, g3⟩
    · split
      · exact c2
      · unfold mgr
        generalize mc2 M e = M2 at *
        have mlo : ∀ c nb d F S x1 g, 38 ≤ c → c ≤ 48 → mg M2 nb d F S x1 g c = M2 c := fun c nb d F S x1 g h1 h2 => by
          unfold mg; rw [up_ne (by omega), up_ne (by omega), up_ne (by omega), up_ne (by omega), up_ne (by omega), up_ne (by omega), up_ne (by omega)]
        refine ⟨?_, ?_, ?_⟩
        · rw [msp_ne (by decide), mlo _ _ _ _ _ _ _ (by decide) (by decide)]; exact c2.1
        · show (if k < e + 1 ∧ _ then (1 : Int32) else _) = 0
          rw [if_neg (fun q => by omega), mlo _ _ _ _ _ _ _ (by decide) (by decide)]; exact c2.2.1
        · rw [msp_ne (by decide), mlo _ _ _ _ _ _ _ (by decide) (by decide)]; exact c2.2.2
  · split
    · unfold msh
      split
      · rw [up_ne (by decide), up_ne (by decide), up_eq, upd_ne hke]; exact ⟨g1, g2, g3⟩
      · rw [up_ne (by decide), up_ne (by decide), up_ne (by decide), up_ne (by decide), up_ne (by decide), up_ne (by decide), up_ne (by decide), up_ne (by decide), up_eq, upd_ne hke]; exact ⟨g1, g2, g3⟩
    · exact ⟨g1, g2, g3⟩
theorem KR_step {X M : mj_X} {T O : Nat → Nat} {e k nb n : Nat} (he : e < n) (hn : n ≤ 41) (hEV : EV X M T O k n) (hRU : RU X M) (hCO : CO X M k) (hZ : KZ M e n) (h : KR X M T e nb) : ∃ m, KR (rc_next X e) (mnx M e) T (e + 1) m := by
  obtain ⟨hnb, hB, hM⟩ := h
  have fX : ∀ c, fr_k c → ev_clear (mj_up X 32 3 (nI (e + 1))) e c = X c := fun c hc => by rw [fr_clear hc, fr_up32 hc]
  have f24 : ∀ c, 24 ≤ c → c ≤ 31 → ev_clear (mj_up X 32 3 (nI (e + 1))) e c = X c := fun c h1 h2 => by
    unfold ev_clear; rw [up_ne (by omega), up_ne (by omega), up_ne (by omega), up_ne (by omega), up_ne (by omega)]
  have z20 : ev_clear (mj_up X 32 3 (nI (e + 1))) e 20 = upd (X 20) e 0 := by unfold ev_clear; rw [up_ne (by decide), up_ne (by decide), up_ne (by decide), up_eq, up_ne (by decide)]
  have z21 : ev_clear (mj_up X 32 3 (nI (e + 1))) e 21 = upd (X 21) e 0 := by unfold ev_clear; rw [up_ne (by decide), up_ne (by decide), up_eq, up_ne (by decide), up_ne (by decide)]
  have z22 : ev_clear (mj_up X 32 3 (nI (e + 1))) e 22 = upd (X 22) e 0 := by unfold ev_clear; rw [up_ne (by decide), up_eq, up_ne (by decide), up_ne (by decide), up_ne (by decide)]
  have z23 : ev_clear (mj_up X 32 3 (nI (e + 1))) e 23 = upd (X 23) e (if X 14 e = 1 then -3 else 0) := by unfold ev_clear; rw [up_eq, up_ne (by decide), up_ne (by decide), up_ne (by decide), up_ne (by decide), up_ne (by decide)]
  have f14 := fX 14 (Or.inl (by decide))
  have f19 := fX 19 (Or.inl (by decide))
  have hE := hEV.1 e he
  unfold rc_next
  generalize ev_clear (mj_up X 32 3 (nI (e + 1))) e = Y at *
  have hEV1 : EV Y M T O k (e + 1) := EV_fr (fun c h1 h2 => fX c (Or.inl (by omega))) rfl ⟨fun j hj => hEV.1 j (by omega), fun i j h1 h2 => hEV.2 i j h1 (by omega)⟩
  have hRU1 : RU Y M := RU_fr (fX 4 (Or.inl (by decide))) rfl hRU
  have hCO1 : CO Y M k := CO_fr (fX 5 (Or.inl (by decide))) (fX 6 (Or.inl (by decide))) rfl rfl hCO
  have hB1 : KB Y M T e nb := KB_fr f24 rfl (fun _ _ _ => rfl) hB
  have hM1 : ∀ j, j < e → MR Y M j := fun j hj => by
    unfold MR
    rw [z20, z21, z22, z23, upd_ne (by omega), upd_ne (by omega), upd_ne (by omega), upd_ne (by omega)]
    exact hM j hj
  obtain ⟨y1, y2, y3⟩ := hZ e (by omega) he
  obtain ⟨a1, a2, a3, a4, a5, a6, a7, a8, a9⟩ := hE
  unfold mnx
  rw [← a5]
  by_cases h2 : X 14 e = 2
  · rw [if_pos h2, if_neg (show ¬ X 14 e = 0 by rw [h2]; decide), if_pos h2]
    have := long_eq (by omega) hnb (hEV1.1 e (by omega)) (by rw [f14, h2]) hB1 hM1 ⟨by rw [z20, upd_eq], by rw [z21, upd_eq], by rw [z22, upd_eq], by rw [z23, upd_eq, if_neg (by rw [h2]; decide)]⟩ ⟨y1, y2, y3⟩
    exact ⟨nb, by omega, this.1, this.2⟩
  · rw [if_neg h2, if_neg h2]
    by_cases h0 : X 14 e = 0
    · rw [if_pos h0]
      by_cases hs : X 19 e = 0
      · rw [if_pos ⟨h0, hs⟩]
        obtain ⟨⟨m, q1, q2⟩, q3⟩ := conv_eq (by omega) hnb hEV1 (by rw [f14, h0]) (by rw [f19, hs]) hCO.1 hRU1 hCO1 hB1 hM1 ⟨by rw [z21, upd_eq], by rw [z22, upd_eq]⟩ ⟨y2, y3⟩
        exact ⟨m, by omega, q2, q3⟩
      · rw [if_neg (fun q => hs q.2)]
        obtain ⟨-, -, -, -, -, -, -, -, b9, b10⟩ := a9.resolve_right (fun q => by
          rcases q.1 with q | q <;> rw [h0] at q <;> exact absurd q (by decide))
        have h7 : mE M e 7 = 1 := by rw [← b9]; exact b10.resolve_left hs
        unfold mcv
        rw [if_pos h7]
        refine ⟨nb, by omega, KB_mono (by omega) hB1, fun j hj => ?_⟩
        by_cases hje : j = e
        · subst hje
          refine ⟨by rw [z20, upd_eq, y1], by rw [z21, upd_eq, y2], by rw [z22, upd_eq, y3], ?_⟩
          rw [z23, upd_eq, if_neg (by rw [h0]; decide)]
          unfold mcnt; rw [if_pos (Or.inr (Or.inl h7))]
        · exact hM1 j (by omega)
    · rw [if_neg h0, if_neg (fun q => h0 q.1)]
      obtain ⟨b1, b2, b3⟩ := a9.resolve_left (fun q => h0 q.1)
      have h1 : X 14 e = 1 := b1.resolve_right h2
      refine ⟨nb, by omega, KB_mono (by omega) hB1, fun j hj => ?_⟩
      by_cases hje : j = e
      · subst hje
        refine ⟨by rw [z20, upd_eq, y1], by rw [z21, upd_eq, y2], by rw [z22, upd_eq, y3], ?_⟩
        rw [z23, upd_eq, if_pos h1]
        unfold mcnt
        rw [y2, b3, ← a5, h1, if_neg (by decide), if_pos rfl]
      · exact hM1 j (by omega)
theorem SIM {X M : mj_X} {T O : Nat → Nat} {k n : Nat} (hn : n ≤ 41) (hEV : EV X M T O k n) (hRU : RU X M) (hCO : CO X M k) : ∀ e, e ≤ n → (∃ nb, KR (rc_it X e) (m_it M n e) T e nb) ∧ KZ (m_it M n e) e n
  | 0, _ => by
    refine ⟨⟨0, by omega, ⟨rfl, rfl, fun i hi => absurd hi (Nat.not_lt_zero i)⟩, fun i hi => absurd hi (Nat.not_lt_zero i)⟩, fun j h1 h2 => ?_⟩
    show mclr M n 46 j = 0 ∧ mclr M n 47 j = 0 ∧ mclr M n 48 j = 0
    unfold mclr
    simp [h2]
  | e + 1, h => by
    obtain ⟨⟨nb, h1⟩, h2⟩ := SIM hn hEV hRU hCO e (by omega)
    have fM := mfr_it (x := M) (n := n) e
    obtain ⟨m, hm⟩ := KR_step (O := O) (k := k) (by omega) hn (EV_fr (fun c q1 q2 => fr_it (Or.inl (by omega)) e) (fM.c (by decide) (by decide)) hEV) (RU_fr (fr_it (Or.inl (by decide)) e) (fM.c (by decide) (by decide)) hRU)
      (CO_fr (fr_it (Or.inl (by decide)) e) (fr_it (Or.inl (by decide)) e) (fM.c (by decide) (by decide)) (fM.c (by decide) (by decide)) hCO) h2 h1
    exact ⟨⟨m, hm⟩, KZ_nx h2⟩
