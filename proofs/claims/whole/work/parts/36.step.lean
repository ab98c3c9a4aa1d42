/-! what a change leaves, and the invariant behind it -/
theorem EV_ev {X X' M M' : mj_X} {T O T' O' : Nat → Nat} {k n : Nat} (hX : ∀ c, 12 ≤ c → c ≤ 19 → ∀ j, j < n → X' c j = X c j) (hM : ∀ i, i < 8 * n → M' 39 i = M 39 i) (hT : ∀ j, j < n → T' j = T j ∧ O' j = O j) (h : EV X M T O k n) : EV X' M' T' O' k n := by
  have e1 : EV X (hz (M' 39)) T' O' k n := EV_sm (M := M) (M' := hz (M' 39)) (sm.rf X n) hM hT h
  have e2 : EV (fun c => if c = 4 then X 4 else X' c) (hz (M' 39)) T' O' k n := EV_sm (X := X) (X' := fun c => if c = 4 then X 4 else X' c) ⟨fun i _ => rfl, fun c a b j hj => by
    show (if c = 4 then X 4 else X' c) j = _
    rw [if_neg (by omega)]; exact hX c a b j hj⟩ (fun _ _ => rfl) (fun _ _ => ⟨rfl, rfl⟩) e1
  exact EV_fr (X := fun c => if c = 4 then X 4 else X' c) (M := hz (M' 39)) (fun c a b => by show X' c = (if c = 4 then X 4 else X' c); rw [if_neg (by omega)]) rfl e2
theorem CO_cl {X X' M M' : mj_X} {k : Nat} (h5 : ∀ i, i < 6 → X' 5 i = X 5 i) (h6 : ∀ i, i < 6 → X' 6 i = X 6 i) (h41 : ∀ i, i < 6 → M' 41 i = M 41 i) (h42 : ∀ i, i < 6 → M' 42 i = M 42 i) (h : CO X M k) : CO X' M' k := by
  have h0 := h.1
  refine ⟨h0, fun c hc => ?_⟩
  rw [h5 c (by omega), h6 c (by omega), h41 c (by omega), h42 c (by omega)]; exact h.2 c hc
/-- the whole reckoned anew -/
theorem KN_all {v w : mj_X} {T O : Nat → Nat} {k n : Nat} (hn : n ≤ 41) (hv : ∀ c, c < 37 → v c = rc_it w n c) : KN v T O k n := by
  have lo : ∀ c, c < 20 → v c = w c := fun c hc => by rw [hv c (by omega), fr_it (Or.inl hc)]
  refine ⟨by rw [hv 32 (by decide)]; exact (it_ok w n hn).1, fun M e1 e2 e3 => ?_⟩
  obtain ⟨⟨nb, q⟩, -⟩ := SIM (X := w) (M := M) hn (EV_fr (fun c a b => (lo c (by omega)).symm) rfl e1) (RU_fr (lo 4 (by decide)).symm rfl e2) (CO_fr (lo 5 (by decide)).symm (lo 6 (by decide)).symm rfl rfl e3) n (Nat.le_refl n)
  exact ⟨nb, KR_fr (fun c a b => hv c (by omega)) rfl (fun _ _ => rfl) (fun _ _ _ => rfl) q⟩
/-- an event more reckoned -/
theorem CAME {x w : mj_X} {T O T' O' : Nat → Nat} {k n : Nat} (hn : n ≤ 40) (h : KN x T O k n) (hs : sm x w n) (h5 : w 5 = x 5) (h6 : w 6 = x 6) (hc : ∀ c, 20 ≤ c → c ≤ 31 → w c = x c) (hT : ∀ j, j < n → T' j = T j ∧ O' j = O j)
    {M : mj_X} (e1 : EV w M T' O' k (n + 1)) (e2 : RU w M) (e3 : CO w M k) : ∃ m, KR (rc_next w n) (m_it M (n + 1) (n + 1)) T' (n + 1) m := by
  have e1n : EV w M T' O' k n := ⟨fun j hj => e1.1 j (by omega), fun i j a b => e1.2 i j a (by omega)⟩
  have hs' : sm w x n := ⟨fun i hi => (hs.1 i hi).symm, fun c a b j hj => (hs.2 c a b j hj).symm⟩
  obtain ⟨nb, q⟩ := h.2 M (EV_ev hs'.2 (fun _ _ => rfl) (fun j hj => ⟨(hT j hj).1.symm, (hT j hj).2.symm⟩) e1n) (RU_sm hs' (fun _ _ => rfl) e2) (CO_fr h5.symm h6.symm rfl rfl e3)
  have q1 : KR w (m_it M n n) T' n nb := KR_T (fun j hj => (hT j hj).1) (KR_fr hc rfl (fun _ _ => rfl) (fun _ _ _ => rfl) q)
  obtain ⟨⟨n2, q2⟩, -⟩ := SIM (X := w) (M := M) (n := n) (by omega) e1n e2 e3 n (Nat.le_refl n)
  obtain ⟨⟨n3, q3⟩, q4⟩ := SIM (X := w) (M := M) (n := n + 1) (by omega) e1 e2 e3 n (by omega)
  have q5 := KR_swap (by omega) q1 q2 q3
  have fM := mfr_it (x := M) (n := n + 1) n
  exact KR_step (O := O') (k := k) (n := n + 1) (by omega) (by omega) (EV_fr (fun _ _ _ => rfl) (fM.c (by decide) (by decide)) e1) (RU_fr rfl (fM.c (by decide) (by decide)) e2) (CO_fr rfl rfl (fM.c (by decide) (by decide)) (fM.c (by decide) (by decide)) e3) q4 q5
theorem KN_came {x v w : mj_X} {T O T' O' : Nat → Nat} {k n : Nat} (hn : n ≤ 40) (h : KN x T O k n) (hs : sm x w n) (h5 : w 5 = x 5) (h6 : w 6 = x 6) (hc : ∀ c, 20 ≤ c → c ≤ 31 → w c = x c) (hT : ∀ j, j < n → T' j = T j ∧ O' j = O j)
    (hv : ∀ c, c < 37 → v c = rc_next w n c) : KN v T' O' k (n + 1) := by
  have lo : ∀ c, c < 20 → v c = w c := fun c hc => by rw [hv c (by omega), fr_next (Or.inl hc)]
  refine ⟨by rw [hv 32 (by decide)]; exact sf_next, fun M e1 e2 e3 => ?_⟩
  obtain ⟨m, q⟩ := CAME hn h hs h5 h6 hc hT (M := M) (EV_fr (fun c a b => (lo c (by omega)).symm) rfl e1) (RU_fr (lo 4 (by decide)).symm rfl e2) (CO_fr (lo 5 (by decide)).symm (lo 6 (by decide)).symm rfl rfl e3)
  exact ⟨m, KR_fr (fun c a b => hv c (by omega)) rfl (fun _ _ => rfl) (fun _ _ _ => rfl) q⟩
/-- what the old class's bans say of the reference, when only class cells have changed -/
theorem IV_oth {x y : mj_X} {len t k n s : Nat} {T O : Nat → Nat} (h : IV x len t k n s T O) (hy : ∀ c, 37 ≤ c → y c = x c) : ∃ nb, KR x (mkn y n) T n nb := by
  obtain ⟨-, -, h3, h4, h5, h6, -⟩ := h
  unfold mkn
  rw [hy 37 (by decide)]
  by_cases h0 : x 37 15 = 0
  · rw [if_pos h0]
    obtain ⟨nb, q⟩ := h5.2 y (EV_fr (fun _ _ _ => rfl) (hy 39 (by decide)) h4.2.2.2.1) (RU_fr rfl (hy 39 (by decide)) h4.2.2.2.2.1) (CO_fr rfl rfl (hy 41 (by decide)) (hy 42 (by decide)) h3.2.2.2)
    refine ⟨nb, KR_fr (fun _ _ _ => rfl) ?_ (fun i _ => ?_) (fun c a b => ?_) q⟩
    · rw [up_eq, upd_ne (by decide)]
    · rw [up_ne (by decide)]
    · rw [up_ne (by omega)]
  · rw [if_neg h0]
    obtain ⟨nb, q⟩ := h6 h0
    exact ⟨nb, KR_fr (fun _ _ _ => rfl) (by rw [hy 37 (by decide)]) (fun i _ => by rw [hy 39 (by decide)]) (fun c a b => hy c (by omega)) q⟩
theorem mvd_oth {x y : mj_X} {n : Nat} (h : mvd x n) (hy : y 39 = x 39) : mvd y n := by
  unfold mvd mE at h ⊢; rw [hy]; exact h
/-- the invariant behind a change that was noted -/
theorem IV_gen {x v : mj_X} {len t k n s t' n' : Nat} {T O T' O' : Nat → Nat} (h : IV x len t k n s T O) (ht : t ≤ t')
    (hc : ∀ c, c = 1 ∨ c = 2 ∨ c = 3 ∨ c = 5 ∨ c = 6 ∨ c = 38 ∨ c = 41 ∨ c = 42 → v c = x c) (h370 : v 37 0 = x 37 0) (h376 : v 37 6 = x 37 6)
    (hTD : TD v t') (hEN : EN v T' O' k n' t') (hKN : KN v T' O' k n') (hK2 : v 37 15 = 0) (h33 : v 33 3 = nI (mn_u s + 1)) (h374 : v 37 4 = nI (mn_u s + 1))
    (hrow : ∀ i, i < mn_u s → v 34 i = x 34 (i + mn_s s) ∧ v 35 i = x 35 (i + mn_s s) ∧ v 36 i = x 36 (i + mn_s s))
    (h40 : ∀ j i, j < mn_u s → i < 335 → v 40 (335 * j + i) = x 40 (335 * (j + mn_s s) + i)) (h40t : ∀ i, i < 335 → v 40 (335 * mn_u s + i) = x 39 i)
    (hce : ce_ok v (mn_u s) n') (hud : ud_n v (mn_u s) n' = n) (hsm : sm x (udc v (mn_u s)) n) : IV v len t' k n' (mn_u s + 1) T' O' := by
  obtain ⟨h1, h2, h3, h4, h5, h6, h7⟩ := h
  have hs6 := h7.2.2.1
  have hus : mn_u s + mn_s s = s ∧ mn_u s ≤ 5 := by unfold mn_u mn_s; split <;> omega
  refine ⟨?_, hTD, ?_, hEN, hKN, fun q => absurd hK2 q, ?_⟩
  · unfold TX; rw [hc 1 (by omega), hc 2 (by omega), hc 38 (by omega), h370]; exact h1
  · unfold CD; rw [hc 3 (by omega), h376]
    exact ⟨h3.1, h3.2.1, h3.2.2.1, CO_fr (hc 5 (by omega)) (hc 6 (by omega)) (hc 41 (by omega)) (hc 42 (by omega)) h3.2.2.2⟩
  · refine ⟨h33, h374, by omega, hce, ?_, ?_⟩
    · rw [hud]
      refine ES_sm (ρ := x 39) hsm h40t ht ⟨T, O, EV_fr (fun _ _ _ => rfl) rfl h4.2.2.2.1, RU_fr rfl rfl h4.2.2.2.2.1, h4.2.1, h4.2.2.1, h4.2.2.2.2.2⟩
    · rw [hud]
      refine UN_tr (h := mn_s s) (r := fun j i => x 40 (335 * j + i)) ht (mn_u s) x _ n (fun i hi => ?_) h40 hsm (by rw [hus.1]; exact h7.2.2.2)
      rw [udc_hi (by decide), udc_hi (by decide), udc_hi (by decide)]
      exact hrow i hi
/-- the invariant behind a new event -/
theorem IV_came {x x1 w v : mj_X} {len t k n s t' : Nat} {T O T' O' : Nat → Nat} (h : IV x len t k n s T O) (hn : n < 40) (ht : t ≤ t') (ht' : t' ≤ 9999)
    (hx : ∀ c, c < 37 → c ≠ 0 → (c < 11 ∨ 19 < c) → x1 c = x c) (hx0 : x1 0 7 = nI t') (hx11 : x1 11 12 = nI (n + 1)) (hxe : ∀ c, 12 ≤ c → c ≤ 19 → ∀ j, j < n → x1 c j = x c j)
    (hch : ch_no x1 w s 0 (nI n) 0) (hv : ∀ c, c < 37 → v c = rc_next w n c)
    (hT : ∀ j, j < n → T' j = T j ∧ O' j = O j) (hTn : T' n = t') (hE1 : E1 v v T' O' k n)
    (h38 : v 38 = x 38) (h41 : v 41 = x 41) (h42 : v 42 = x 42) (h370 : v 37 0 = x 37 0) (h376 : v 37 6 = x 37 6) (h375 : v 37 5 = nI t')
    (h39 : ∀ i, i < 8 * n → v 39 i = x 39 i) (h39r : ∀ i, i < 6 → v 39 (328 + i) = x 39 (328 + i)) (h39m : v 39 334 = nI (n + 1)) (hK2 : v 37 15 = 0) (h374 : v 37 4 = nI (mn_u s + 1))
    (h40 : ∀ j i, j < mn_u s → i < 335 → v 40 (335 * j + i) = x 40 (335 * (j + mn_s s) + i)) (h40t : ∀ i, i < 335 → v 40 (335 * mn_u s + i) = x 39 i) : IV v len t' k (n + 1) (mn_u s + 1) T' O' := by
  obtain ⟨c1, c2, c3, c4⟩ := hch
  have lw : ∀ c, c < 33 → w c = x1 c := fun c hc => c4 c (by omega) (by omega) (by omega) (by omega)
  have lv : ∀ c, (c < 20 ∨ 32 < c) → c < 37 → v c = w c := fun c h1 h2 => by rw [hv c h2, fr_next h1]
  have hsw : sm x w n := ⟨fun i _ => by rw [lw 4 (by decide), hx 4 (by decide) (by decide) (by omega)], fun c a b j hj => by rw [lw c (by omega)]; exact hxe c a b j hj⟩
  have hsv : sm x v n := ⟨fun i hi => by rw [lv 4 (by omega) (by decide)]; exact hsw.1 i hi, fun c a b j hj => by rw [lv c (by omega) (by omega)]; exact hsw.2 c a b j hj⟩
  have e34 : v 34 (mn_u s) = 0 := by rw [lv 34 (by omega) (by decide)]; exact c3.1
  have eud : udc v (mn_u s) = v := by unfold udc; rw [if_pos e34]
  refine IV_gen h ht (fun c hc => ?_) h370 h376 ⟨?_, h375, ht'⟩ ⟨?_, h39m, by omega, ⟨fun j hj => ?_, fun i j hij hj => ?_⟩, ?_, fun j hj => ?_⟩ ?_ hK2 ?_ h374 (fun i hi => ?_) h40 h40t ?_ ?_ ?_
  · by_cases hc7 : c < 37
    · rw [lv c (by omega) hc7, lw c (by omega), hx c hc7 (by omega) (by omega)]
    · rcases hc with hc | hc | hc | hc | hc | hc | hc | hc <;> first | omega | (subst hc; assumption)
  · rw [lv 0 (by omega) (by decide), lw 0 (by decide)]; exact hx0
  · rw [lv 11 (by omega) (by decide), lw 11 (by decide)]; exact hx11
  · by_cases e : j = n
    · subst e; exact hE1
    · exact (EV_ev hsv.2 h39 hT h.2.2.2.1.2.2.2.1).1 j (by omega)
  · by_cases e : j = n
    · subst e
      rw [hTn]
      by_cases e2 : i = j
      · subst e2; rw [hTn]; exact Nat.le_refl _
      · rw [(hT i (by omega)).1]; have := h.2.2.2.1.2.2.2.2.2 i (by omega); omega
    · rw [(hT i (by omega)).1, (hT j (by omega)).1]; exact h.2.2.2.1.2.2.2.1.2 i j hij (by omega)
  · exact RU_sm hsv h39r h.2.2.2.1.2.2.2.2.1
  · by_cases e : j = n
    · subst e; omega
    · rw [(hT j (by omega)).1]; have := h.2.2.2.1.2.2.2.2.2 j (by omega); omega
  · exact KN_came (by omega) h.2.2.2.2.1 hsw (by rw [lw 5 (by decide), hx 5 (by decide) (by decide) (by omega)]) (by rw [lw 6 (by decide), hx 6 (by decide) (by decide) (by omega)]) (fun c a b => by rw [lw c (by omega), hx c (by omega) (by omega) (by omega)]) hT hv
  · rw [lv 33 (by omega) (by decide)]; exact c1
  · have := c2 i hi
    rw [lv 34 (by omega) (by decide), lv 35 (by omega) (by decide), lv 36 (by omega) (by decide)]
    rw [hx 34 (by decide) (by decide) (by omega), hx 35 (by decide) (by decide) (by omega), hx 36 (by decide) (by decide) (by omega)] at this
    exact this
  · exact Or.inl ⟨e34, by omega⟩
  · unfold ud_n; rw [if_pos e34]; rfl
  · rw [eud]; exact hsv
/-- the invariant behind a conviction told anew -/
theorem IV_told {x w v : mj_X} {len t k n s j wS : Nat} {T O O' : Nat → Nat} {ch val : Int32} (h : IV x len t k n s T O) (hj : j < n) (hch4 : ch = 1 ∨ ch = 2 ∨ ch = 3 ∨ ch = 4) (hwS : wS < 8)
    (hch : ch_no (mj_up x (ev_tc ch) j val) w s ch (nI j) (x (ev_tc ch) j)) (hv : ∀ c, c < 37 → v c = rc_it w n c)
    (hO : ∀ i, i < n → i ≠ j → O' i = O i) (hE1 : E1 v v T O' k j)
    (h38 : v 38 = x 38) (h41 : v 41 = x 41) (h42 : v 42 = x 42) (h370 : v 37 0 = x 37 0) (h376 : v 37 6 = x 37 6) (h375 : v 37 5 = x 37 5)
    (h39 : ∀ i, i < 335 → i ≠ 8 * j + wS → v 39 i = x 39 i) (hK2 : v 37 15 = 0) (h374 : v 37 4 = nI (mn_u s + 1))
    (h40 : ∀ j i, j < mn_u s → i < 335 → v 40 (335 * j + i) = x 40 (335 * (j + mn_s s) + i)) (h40t : ∀ i, i < 335 → v 40 (335 * mn_u s + i) = x 39 i) : IV v len t k n (mn_u s + 1) T O' := by
  obtain ⟨c1, c2, c3, c4⟩ := hch
  have tc := tc_in (v := ch)
  have hn := h.2.2.2.1.2.2.1
  have lw : ∀ c, c < 33 → w c = mj_up x (ev_tc ch) j val c := fun c hc => c4 c (by omega) (by omega) (by omega) (by omega)
  have lv : ∀ c, (c < 20 ∨ 32 < c) → c < 37 → v c = w c := fun c h1 h2 => by rw [hv c h2, fr_it h1]
  have lx : ∀ c, c < 20 → v c = mj_up x (ev_tc ch) j val c := fun c hc => by rw [lv c (by omega) (by omega), lw c (by omega)]
  have lo : ∀ c, c < 12 → v c = x c := fun c hc => by rw [lx c (by omega), up_ne (by omega)]
  have e34 : v 34 (mn_u s) = ch := by rw [lv 34 (by omega) (by decide)]; exact c3.1
  have e35 : v 35 (mn_u s) = nI j := by rw [lv 35 (by omega) (by decide)]; exact c3.2.1
  have e36 : v 36 (mn_u s) = x (ev_tc ch) j := by rw [lv 36 (by omega) (by decide)]; exact c3.2.2
  have hne : ¬ ch = 0 ∧ ¬ ch = 5 := by rcases hch4 with q | q | q | q <;> subst q <;> decide
  have hoth : ∀ c, 12 ≤ c → c ≤ 19 → ∀ i, i ≠ j → v c i = x c i := fun c a b i hi => by rw [lx c (by omega), up_at, if_neg (fun q => hi q.2)]
  refine IV_gen h (Nat.le_refl t) (fun c hc => ?_) h370 h376 ⟨?_, by rw [h375]; exact h.2.1.2.1, h.2.1.2.2⟩ ⟨?_, ?_, hn, ⟨fun i hi => ?_, h.2.2.2.1.2.2.2.1.2⟩, ?_, h.2.2.2.1.2.2.2.2.2⟩ ?_ hK2 ?_ h374 (fun i hi => ?_) h40 h40t ?_ ?_ ?_
  · by_cases hc7 : c < 37
    · exact lo c (by omega)
    · rcases hc with hc | hc | hc | hc | hc | hc | hc | hc <;> first | omega | (subst hc; assumption)
  · rw [lo 0 (by decide)]; exact h.2.1.1
  · rw [lo 11 (by decide)]; exact h.2.2.2.1.1
  · rw [h39 334 (by decide) (by omega)]; exact h.2.2.2.1.2.1
  · by_cases e : i = j
    · subst e; exact hE1
    · have hE := h.2.2.2.1.2.2.2.1.1 i hi
      unfold E1 mon mE at hE ⊢
      rw [hoth 12 (by decide) (by decide) i e, hoth 13 (by decide) (by decide) i e, hoth 14 (by decide) (by decide) i e, hoth 15 (by decide) (by decide) i e, hoth 16 (by decide) (by decide) i e, hoth 17 (by decide) (by decide) i e, hoth 18 (by decide) (by decide) i e, hoth 19 (by decide) (by decide) i e,
        h39 (8 * i + 0) (by omega) (by omega), h39 (8 * i + 1) (by omega) (by omega), h39 (8 * i + 2) (by omega) (by omega), h39 (8 * i + 3) (by omega) (by omega), h39 (8 * i + 4) (by omega) (by omega), h39 (8 * i + 5) (by omega) (by omega), h39 (8 * i + 6) (by omega) (by omega), h39 (8 * i + 7) (by omega) (by omega), hO i hi e]
      exact hE
  · intro i hi
    rw [lo 4 (by decide), h39 (328 + i) (by omega) (by omega)]
    exact h.2.2.2.1.2.2.2.2.1 i hi
  · exact KN_all (by omega) hv
  · rw [lv 33 (by omega) (by decide)]; exact c1
  · have := c2 i hi
    rw [lv 34 (by omega) (by decide), lv 35 (by omega) (by decide), lv 36 (by omega) (by decide)]
    rw [up_ne (by omega), up_ne (by omega), up_ne (by omega)] at this
    exact this
  · refine Or.inr (Or.inr ⟨by rw [e34]; exact hch4, j, hj, e35⟩)
  · unfold ud_n; rw [e34, if_neg hne.1]
  · have : udc v (mn_u s) = mj_up v (ev_tc ch) j (x (ev_tc ch) j) := by
      unfold udc; rw [e34, if_neg hne.1, if_neg hne.2, e35, e36, nI_clamp (by omega)]
    rw [this]
    refine ⟨fun i hi => by rw [up_ne (by omega), lo 4 (by decide)], fun c a b i hi => ?_⟩
    rw [up_at]
    by_cases q : c = ev_tc ch ∧ i = j
    · rw [if_pos q, q.1, q.2]
    · rw [if_neg q, lx c (by omega), up_at, if_neg q]
