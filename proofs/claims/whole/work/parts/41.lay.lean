/-! the laying of the rules -/
def TP (s : tx_P) : Prop := (∀ i, i < 6 → (mj_st0 i).toInt ≤ (s.2.1 i).toInt ∧ (s.2.1 i).toInt ≤ (mj_st1 i).toInt) ∧ ∀ i, i < s.2.2.2.2 → 0 ≤ (s.2.2.1 i).toInt ∧ (s.2.2.1 i).toInt ≤ 9 ∧ 0 ≤ (s.2.2.2.1 i).toInt ∧ (s.2.2.2.1 i).toInt ≤ 99
theorem TP_rule {pk : Nat → Int32} {i fig : Nat} {low : Int32} {s s' : tx_P} (hi : (i = 0 ∧ fig = 3 ∧ low = 1) ∨ (i = 1 ∧ fig = 2 ∧ low = 1) ∨ (i = 2 ∧ fig = 2 ∧ low = 1) ∨ (i = 3 ∧ fig = 3 ∧ low = 0) ∨ (i = 4 ∧ fig = 3 ∧ low = 0) ∨ (i = 5 ∧ fig = 3 ∧ low = 0)) (hs : TP s) (h : tx_rule pk i fig low s = .inr s') : TP s' := by
  unfold tx_rule at h
  cases hn : tx_num pk fig s.1 0 with
  | none => rw [hn] at h; cases h
  | some v =>
    rw [hn] at h
    have ok := tx_ok hi hn
    by_cases hv : v < low
    · have h : (if v < low then (Sum.inl 2 : Int32 ⊕ tx_P) else .inr (s.1 + fig, upd s.2.1 i v, s.2.2)) = .inr s' := h
      rw [if_pos hv] at h; cases h
    · have h : (if v < low then (Sum.inl 2 : Int32 ⊕ tx_P) else .inr (s.1 + fig, upd s.2.1 i v, s.2.2)) = .inr s' := h
      rw [if_neg hv] at h
      cases h
      have ok2 : ru_ok (nI i) v = true := by rw [ok]; simp [hv]
      unfold ru_ok at ok2
      rw [decide_eq_true_eq, nI_clamp (by omega)] at ok2
      refine ⟨fun j hj => ?_, hs.2⟩
      show (mj_st0 j).toInt ≤ (upd s.2.1 i v j).toInt ∧ (upd s.2.1 i v j).toInt ≤ (mj_st1 j).toInt
      by_cases e : j = i
      · subst e
        rw [upd_eq]
        exact ⟨Int32.le_iff_toInt_le.mp ok2.2.2.1, Int32.le_iff_toInt_le.mp ok2.2.2.2⟩
      · rw [upd_ne e]; exact hs.1 j hj
theorem TP_code {pk : Nat → Int32} {s s' : tx_P} (hs : TP s) (h : tx_code pk s = .inr s') : TP s' := by
  unfold tx_code at h
  split at h
  · cases h
  · split at h
    · cases h
    · rename_i p hp
      split at h
      · cases h
      · split at h
        · cases h
        · rename_i b hb
          cases h
          have p1 := tx_num_le (by decide) hp
          have b1 := tx_num_le (by decide) hb
          refine ⟨hs.1, fun i hi => ?_⟩
          show 0 ≤ (upd s.2.2.1 s.2.2.2.2 p i).toInt ∧ (upd s.2.2.1 s.2.2.2.2 p i).toInt ≤ 9 ∧ 0 ≤ (upd s.2.2.2.1 s.2.2.2.2 b i).toInt ∧ (upd s.2.2.2.1 s.2.2.2.2 b i).toInt ≤ 99
          have hi : i < s.2.2.2.2 + 1 := hi
          by_cases e : i = s.2.2.2.2
          · rw [e, upd_eq, upd_eq]
            have p2 := p1.2
            have b2 := b1.2
            have p3 := Int32.le_iff_toInt_le.mp p1.1
            have b3 := Int32.le_iff_toInt_le.mp b1.1
            rw [tl_0] at p3 b3
            omega
          · rw [upd_ne e, upd_ne e]; exact hs.2 i (by omega)
theorem TP_item {pk : Nat → Int32} {s s' : tx_P} (hs : TP s) (h : tx_item pk s = .inr s') : TP s' := by
  unfold tx_item at h
  cases hr : tx_body pk (pk s.1) (s.1 + 1, s.2) with
  | inl e => rw [hr] at h; cases h
  | inr s2 =>
    rw [hr] at h
    have h0 : TP (s.1 + 1, s.2) := hs
    have h2 : TP s2 := by
      unfold tx_body at hr
      split at hr
      · exact TP_rule (by decide) h0 hr
      · split at hr
        · exact TP_code h0 hr
        · split at hr
          · exact TP_rule (by decide) h0 hr
          · split at hr
            · exact TP_rule (by decide) h0 hr
            · split at hr
              · cases hq : tx_rule pk 4 3 0 (s.1 + 1, s.2) with
                | inl e => rw [hq] at hr; cases hr
                | inr s3 =>
                  rw [hq] at hr
                  exact TP_rule (by decide) (TP_rule (by decide) h0 hq) (show tx_rule pk 5 3 0 s3 = .inr s2 from hr)
              · split at hr
                · exact TP_rule (by decide) h0 hr
                · cases hr
    have h : tx_end pk s2 = .inr s' := h
    unfold tx_end at h
    split at h
    · cases h; exact h2
    · cases h
theorem TP_all {pk : Nat → Int32} {len : Nat} : ∀ (f : Nat) (s s' : tx_P), TP s → tx_all pk len f s = .inr s' → TP s'
  | 0, s, s', hs, h => by rw [tx_all] at h; cases h; exact hs
  | f + 1, s, s', hs, h => by
    rw [tx_all] at h
    split at h
    · cases hr : tx_item pk s with
      | inl e => rw [hr] at h; cases h
      | inr s2 =>
        rw [hr] at h
        exact TP_all f s2 s' (TP_item hs hr) h
    · cases h; exact hs
theorem TP_in : TP tx_in := by
  refine ⟨fun i hi => ?_, fun i hi => absurd hi (Nat.not_lt_zero i)⟩
  show (mj_st0 i).toInt ≤ (mj_st2 i).toInt ∧ (mj_st2 i).toInt ≤ (mj_st1 i).toInt
  have : i = 0 ∨ i = 1 ∨ i = 2 ∨ i = 3 ∨ i = 4 ∨ i = 5 := by omega
  rcases this with e | e | e | e | e | e <;> subst e <;> decide
/-- laid: no event, the new rules and codes -/
theorem IV_laid {x v w y v' y' : mj_X} {len k : Nat} {pl : Int32} {z0 : Int32} {P : tx_P} (hTX : TX x len) (hP : TP P) (hk : P.2.2.2.2 = k) (hk1 : 1 ≤ k) (hk6 : k ≤ 6) (h1 : tx_S x v 7 pl P) (h2 : ru_cp v w 6 6 6) (h3 : w 3 3 = nI k) (h4 : y = rc_it (lay0 w) 0)
    (h5 : mt_A y v' z0 (.inr P)) (h6 : mbe v' y' k) : IV y' len 0 k 0 0 (fun _ => 0) (fun _ => 0) := by
  obtain ⟨-, -, -, s4, s5, -, -, s11, sfr⟩ := h1
  obtain ⟨c4, c5, c6, cfr⟩ := h2
  obtain ⟨-, -, a3, a4, -, -, afr⟩ := h5
  obtain ⟨b1, b2, b3, b4, b5, b6, b7, b8, b9, bfr⟩ := h6
  rw [hk] at s5 a4
  have yw : ∀ c, c ≠ 0 → c ≠ 11 → c ≠ 24 → c ≠ 32 → c ≠ 33 → y c = w c := fun c p q r s t => by
    rw [h4]; unfold rc_it lay0; rw [up_ne s, up_ne r, up_ne p, up_ne t, up_ne q]
  have y0 : y 0 7 = 0 := by rw [h4]; unfold rc_it lay0; simp [up_at]
  have y11 : y 11 12 = 0 := by rw [h4]; unfold rc_it lay0; simp [up_at]
  have y33 : y 33 3 = 0 := by rw [h4]; unfold rc_it lay0; simp [up_at]
  have y'y : ∀ c, c < 37 ∨ c = 38 → y' c = y c := fun c hc => by rw [bfr c (by omega) (by omega) (by omega) (by omega), afr.2 c (by omega) (by omega) (by omega) (by omega)]
  have yx : ∀ c, c = 2 ∨ 37 ≤ c → y c = x c := fun c hc => by rw [yw c (by omega) (by omega) (by omega) (by omega) (by omega), cfr c (by omega) (by omega) (by omega) (by omega), sfr c (by omega) (by omega) (by omega) (by omega) (by omega)]
  have e37 : ∀ i, i = 0 → y' 37 i = x 37 i := fun i hi => by rw [b9 i (by omega) (by omega) (by omega) (by omega), afr.1 i (by omega) (by omega) (by omega), yx 37 (by omega)]
  have e4 : ∀ i, i < 6 → y' 4 i = P.2.1 i := fun i hi => by rw [y'y 4 (by omega), yw 4 (by decide) (by decide) (by decide) (by decide) (by decide), c4 i hi, s4 i hi]
  have e5 : ∀ i, i < k → y' 5 i = P.2.2.1 i ∧ y' 6 i = P.2.2.2.1 i := fun i hi => by rw [y'y 5 (by omega), y'y 6 (by omega), yw 5 (by decide) (by decide) (by decide) (by decide) (by decide), yw 6 (by decide) (by decide) (by decide) (by decide) (by decide), c5 i (by omega), c6 i (by omega)]; exact s5 i hi
  refine ⟨⟨?_, ?_, hTX.2.2.1, fun i hi => ?_⟩, ⟨?_, ?_, by decide⟩, ⟨?_, b5, hk1, hk6, fun c hc => ?_⟩, ⟨?_, ?_, by decide, ⟨fun j hj => absurd hj (Nat.not_lt_zero j), fun i j _ hj => absurd hj (Nat.not_lt_zero j)⟩, fun i hi => ?_, fun j hj => absurd hj (Nat.not_lt_zero j)⟩, KN_all (w := lay0 w) (by decide) (fun c hc => ?_), fun q => absurd b8 q, ⟨?_, ?_, by decide, trivial⟩⟩
  · rw [y'y 1 (by omega), yw 1 (by decide) (by decide) (by decide) (by decide) (by decide), cfr 1 (by decide) (by decide) (by decide) (by decide), s11]; exact hTX.1
  · rw [e37 0 rfl]; exact hTX.2.1
  · rw [y'y 2 (by omega), y'y 38 (by omega), yx 2 (by omega), yx 38 (by omega)]; exact hTX.2.2.2 i hi
  · rw [y'y 0 (by omega), y0]; rfl
  · rw [b7]; rfl
  · rw [y'y 3 (by omega), yw 3 (by decide) (by decide) (by decide) (by decide) (by decide)]; exact h3
  · have g := hP.2 c (by omega)
    obtain ⟨e5a, e5b⟩ := e5 c hc
    obtain ⟨f1, f2⟩ := b4 c (by omega)
    rw [if_pos hc] at f1 f2
    rw [e5a, e5b, f1, f2, (a4 c hc).1, (a4 c hc).2]
    exact ⟨rfl, rfl, g.1, g.2.1, g.2.2.1, g.2.2.2⟩
  · rw [y'y 11 (by omega), y11]; rfl
  · rw [b3]; rfl
  · rw [b2 i hi, e4 i hi, a3 i hi]
    exact ⟨rfl, hP.1 i hi⟩
  · rw [y'y c (by omega), h4]
  · rw [y'y 33 (by omega), y33]; rfl
  · rw [b6]; rfl
theorem i_lay {x : mj_X} (h : Inv x) : PAIR mX6_lay mX7_lay [] x := by
  obtain ⟨len, t, k, n, s, T, O, h⟩ := h
  obtain ⟨l1, l2, l3, l4⟩ := id h.1
  refine (p_lay shM x len l3 l1).mono (fun z y q => ?_)
  cases hr : tx_all (tx_pk (x 2) len) len 200 tx_in with
  | inl e =>
    rw [hr] at q
    obtain ⟨q1, q2⟩ := q
    have pe := pkx_eq h.1 (A_fr q2)
    refine (q_lay y len l3 pe.2).mono (fun z' y' q => ?_)
    rw [pe.1, hr] at q
    obtain ⟨r1, z0, r2⟩ := q
    exact ⟨by rw [r1, q1], len, t, k, n, s, T, O, IV_read h (A_fr q2) (mA_fr r2)⟩
  | inr P =>
    rw [hr] at q
    have hP := TP_all 200 tx_in P TP_in hr
    unfold lay_R at q
    by_cases hk : P.2.2.2.2 = 0
    · have q : z = -2 ∧ tx_A x y 7 (.inr P) := by
        have q : (if P.2.2.2.2 = 0 then z = -2 ∧ tx_A x y 7 (.inr P) else _) := q
        rw [if_pos hk] at q; exact q
      obtain ⟨q1, q2⟩ := q
      have pe := pkx_eq h.1 (A_fr q2)
      refine (q_lay y len l3 pe.2).mono (fun z' y' q => ?_)
      rw [pe.1, hr] at q
      unfold mlay at q
      have q : z' = -2 ∧ ∃ z0, mt_A y y' z0 (.inr P) := by
        have q : (if P.2.2.2.2 = 0 then z' = -2 ∧ ∃ z0, mt_A y y' z0 (.inr P) else _) := q
        rw [if_pos hk] at q; exact q
      obtain ⟨r1, z0, r2⟩ := q
      exact ⟨by rw [r1, q1], len, t, k, n, s, T, O, IV_read h (A_fr q2) (mA_fr r2)⟩
    · have q : z = nI P.2.2.2.2 ∧ ∃ v w pl, tx_S x v 7 pl P ∧ ru_cp v w 6 6 6 ∧ w 3 3 = nI P.2.2.2.2 ∧ y = rc_it (lay0 w) 0 := by
        have q : (if P.2.2.2.2 = 0 then _ else z = nI P.2.2.2.2 ∧ ∃ v w pl, tx_S x v 7 pl P ∧ ru_cp v w 6 6 6 ∧ w 3 3 = nI P.2.2.2.2 ∧ y = rc_it (lay0 w) 0) := q
        rw [if_neg hk] at q; exact q
      obtain ⟨q1, v, w, pl, q2, q3, q4, q5⟩ := q
      have hk6 := q2.2.2.2.2.2.2.1
      have yx : ∀ c, c = 2 ∨ 37 ≤ c → y c = x c := fun c hc => by
        rw [q5]; unfold rc_it lay0
        rw [up_ne (by omega), up_ne (by omega), up_ne (by omega), up_ne (by omega), up_ne (by omega), q3.2.2.2 c (by omega) (by omega) (by omega) (by omega), q2.2.2.2.2.2.2.2.2 c (by omega) (by omega) (by omega) (by omega) (by omega)]
      have pe : tx_pk (y 38) len = tx_pk (x 2) len := by
        funext a
        unfold tx_pk
        rw [yx 38 (by omega)]
        split
        · rename_i ha; exact (l4 a ha).symm
        · rfl
      refine (q_lay y len l3 (by rw [yx 37 (by omega)]; exact l2)).mono (fun z' y' q => ?_)
      rw [pe, hr] at q
      unfold mlay at q
      have q : z' = nI P.2.2.2.2 ∧ ∃ v z0, mt_A y v z0 (.inr P) ∧ mbe v y' P.2.2.2.2 := by
        have q : (if P.2.2.2.2 = 0 then _ else z' = nI P.2.2.2.2 ∧ ∃ v z0, mt_A y v z0 (.inr P) ∧ mbe v y' P.2.2.2.2) := q
        rw [if_neg hk] at q; exact q
      obtain ⟨r1, v', z0, r2, r3⟩ := q
      exact ⟨by rw [r1, q1], len, 0, P.2.2.2.2, 0, 0, fun _ => 0, fun _ => 0, IV_laid h.1 hP rfl (by omega) hk6 q2 q3 q4 q5 r2 r3⟩
