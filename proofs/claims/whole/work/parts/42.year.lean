/-! the year: the class lives through all its months first, then the reference -/
def join (X M : mj_X) : mj_X := fun c => if c < 37 then X c else M c
theorem jl {X M : mj_X} {c : Nat} (h : c < 37) : join X M c = X c := by unfold join; rw [if_pos h]
theorem jh {X M : mj_X} {c : Nat} (h : 37 ≤ c) : join X M c = M c := by unfold join; rw [if_neg (by omega)]
theorem join_eq {X M : mj_X} (h : ∀ c, c < 37 → M c = X c) : join X M = M := by
  funext c
  by_cases hc : c < 37
  · rw [jl hc, h c hc]
  · rw [jh (by omega)]
def ySt (n s k t w : Nat) (X X' : mj_X) : Prop := if n = 40 then X' = mj_up X 0 7 (nI (lt_t t w)) else came (lt_x X n k t w) X' s n
theorem STEP {X M X' M' : mj_X} {len t k n s w : Nat} {T O : Nat → Nat} (h : IV (join X M) len t k n s T O) (hc : ySt n s k t w X X') (hm : mstep M M' n s k t w) : ∃ s' T' O', IV (join X' M') len (lt_t t w) k (if n < 40 then n + 1 else n) s' T' O' := by
  obtain ⟨t1, t2, t3⟩ := id h.2.1
  obtain ⟨k1, k2, k3, k4⟩ := id h.2.2.1
  have hk6 := k4.1
  have hn := h.2.2.2.1.2.2.1
  rw [jl (by decide)] at t1 k1
  rw [jh (by decide)] at t2 k2
  have ht : t ≤ lt_t t w ∧ lt_t t w ≤ 9999 := by unfold lt_t; omega
  unfold ySt at hc
  unfold mstep at hm
  by_cases h40 : n = 40
  · rw [if_pos h40] at hc
    rw [if_neg (by omega)] at hm ⊢
    subst hc hm
    refine ⟨s, T, O, IV_re h ht.1 (fun c hc => ?_) (fun i hi => ?_) ?_ ⟨?_, ?_, ht.2⟩⟩
    · by_cases h37 : c < 37
      · rw [jl h37, jl h37, up_ne (by omega)]
      · rw [jh (by omega), jh (by omega), up_ne (by omega)]
    · rw [jh (by decide), jh (by decide), up_eq, upd_ne (by omega)]
    · have := h.1
      unfold TX at this ⊢
      rw [jl (c := 1) (by decide), jl (c := 2) (by decide), jh (c := 37) (by decide), jh (c := 38) (by decide)] at this ⊢
      rw [up_ne (k' := 1) (by decide), up_ne (k' := 2) (by decide), up_eq, upd_ne (by decide), up_ne (k' := 38) (by decide)]
      exact this
    · rw [jl (by decide), up_eq, upd_eq]
    · rw [jh (by decide), up_eq, upd_eq]
  · rw [if_neg h40] at hc
    rw [if_pos (by omega)] at hm ⊢
    obtain ⟨u, c1, c2⟩ := hc
    obtain ⟨v1, m0, m1⟩ := hm
    have hcN : w / 64 % k < k := Nat.mod_lt _ (by omega)
    have hoN : lt_o t w ≤ lt_t t w := by unfold lt_o; omega
    obtain ⟨g1, g2, g3, g4, g5, g6⟩ := k4.2 _ hcN
    rw [jl (by decide)] at g1 g3 g4
    rw [jh (by decide)] at g1
    have x1 : ∀ c, c ≠ 0 → (c < 11 ∨ 19 < c) → lt_x X n k t w c = X c := fun c a b => by unfold lt_x; rw [addC_ne b, up_ne a]
    obtain ⟨a12, a13, a14, a15, a16, a17, a18, a19, a11⟩ := addC_n (x := mj_up X 0 7 (nI (lt_t t w))) (n := n) (d := nI (w / 16 % 4)) (t := nI (lt_t t w)) (o := nI (lt_o t w)) (k := nI (w / 64 % k)) (p := X 5 (w / 64 % k)) (r := 0)
    obtain ⟨b0, b1, b2, b3, b4, b5, b6, b7⟩ := mcm_E (x := v1) (n := n) (d := nI (w / 16 % 4)) (w := 0) (o := nI (lt_o t w)) (k := nI (w / 64 % k)) (r := 0) (p := v1 41 (w / 64 % k)) (by omega)
    rw [← m1] at b0 b1 b2 b3 b4 b5 b6 b7
    obtain ⟨n1, n2, n3, n4, n5, n6⟩ := m0
    have v375 : v1 37 5 = nI (lt_t t w) := by rw [n5 5 (by decide) (by decide), up_eq, upd_eq]
    have v41 : v1 41 = M 41 := by rw [n6 41 (by decide) (by decide), up_ne (by decide)]
    have lv : ∀ c, 12 ≤ c → c ≤ 19 → join X' M' c = ev_addC (mj_up X 0 7 (nI (lt_t t w))) n (nI (w / 16 % 4)) (nI (lt_t t w)) (nI (lt_o t w)) (nI (w / 64 % k)) (X 5 (w / 64 % k)) 0 c := fun c a b => by
      rw [jl (by omega), c2, fr_next (Or.inl (by omega)), no_hi c1 (by omega)]; rfl
    have mE' : ∀ i, mE (join X' M') n i = mE M' n i := fun i => by unfold mE; rw [jh (by decide)]
    refine ⟨mn_u s + 1, fun j => if j = n then lt_t t w else T j, fun j => if j = n then lt_o t w else O j, ?_⟩
    have hE : E1 (join X' M') (join X' M') (fun j => if j = n then lt_t t w else T j) (fun j => if j = n then lt_o t w else O j) k n := by
      refine E1_conv (oN := lt_o t w) (cN := w / 64 % k) (tN := lt_t t w) (by simp) (by simp) ht.2 hoN hcN ?_ ?_ ?_ ?_ ?_ ?_ ?_ ?_ ?_ ?_ ?_ ?_ ?_ ?_ ?_ ?_
      · rw [lv 12 (by decide) (by decide), a12, mE', b0]
      · rw [lv 13 (by decide) (by decide), a13]
      · rw [mE', b1, v375]
      · rw [lv 14 (by decide) (by decide), a14]
      · rw [mE', b2]
      · rw [lv 15 (by decide) (by decide), a15]
      · rw [mE', b3]
      · rw [lv 16 (by decide) (by decide), a16]
      · rw [mE', b4]
      · rw [lv 17 (by decide) (by decide), a17, mE', b5, v41, g1]
      · rw [lv 17 (by decide) (by decide), a17]; exact g3
      · rw [lv 17 (by decide) (by decide), a17]; exact g4
      · rw [lv 18 (by decide) (by decide), a18, mE', b6]
      · rw [lv 18 (by decide) (by decide), a18]; exact Or.inl rfl
      · rw [lv 19 (by decide) (by decide), a19]
      · rw [mE', b7]
    refine IV_came (x1 := lt_x X n k t w) (w := u) h (by omega) ht.1 ht.2 (fun c q a b => ?_) ?_ ?_ (fun c a b j hj => ?_) c1 (fun c hc => ?_) (fun j hj => ⟨if_neg (by omega), if_neg (by omega)⟩) (if_pos rfl) hE ?_ ?_ ?_ ?_ ?_ ?_ (fun i hi => ?_) (fun i hi => ?_) ?_ ?_ ?_ (fun j i hj hi => ?_) (fun i hi => ?_)
    · rw [x1 c a b, jl q]
    · unfold lt_x; rw [addC_ne (by omega), up_eq, upd_eq]
    · exact a11
    · unfold lt_x; rw [addC_j (by omega) (by omega), up_ne (by omega), jl (by omega)]
    · rw [jl hc, c2]
    · rw [jh (by decide), jh (by decide), m1, mcm_ne (by decide) (by decide), n6 38 (by decide) (by decide), up_ne (by decide)]
    · rw [jh (by decide), jh (by decide), m1, mcm_ne (by decide) (by decide), v41]
    · rw [jh (by decide), jh (by decide), m1, mcm_ne (by decide) (by decide), n6 42 (by decide) (by decide), up_ne (by decide)]
    · rw [jh (by decide), jh (by decide), m1, mcm_37 (by decide), n5 0 (by decide) (by decide), up_eq, upd_ne (by decide)]
    · rw [jh (by decide), jh (by decide), m1, mcm_37 (by decide), n5 6 (by decide) (by decide), up_eq, upd_ne (by decide)]
    · rw [jh (by decide), m1, mcm_37 (by decide), v375]
    · rw [jh (by decide), jh (by decide), m1, mcm_39 (by omega) (by omega), n6 39 (by decide) (by decide), up_ne (by decide)]
    · rw [jh (by decide), jh (by decide), m1, mcm_39 (by omega) (by omega), n6 39 (by decide) (by decide), up_ne (by decide)]
    · rw [jh (by decide), m1, mcm_many]
    · rw [jh (by decide), m1, mcm_15]
    · rw [jh (by decide), m1, mcm_37 (by decide)]; exact n1
    · rw [jh (by decide), jh (by decide), m1, mcm_ne (by decide) (by decide), n2 j i hj hi, up_ne (by decide)]
    · rw [jh (by decide), jh (by decide), m1, mcm_ne (by decide) (by decide), n3 i hi, up_ne (by decide)]
/-- a reference heap behind a note: there is one -/
theorem mno_ex (x : mj_X) (u : Nat) : ∃ w, mno x w u := by
  refine ⟨fun c => if c = 37 then upd (upd (x 37) 4 (nI (mn_u u + 1))) 15 0 else if c = 40 then (fun p => if p / 335 < mn_u u then x 40 (335 * (p / 335 + mn_s u) + p % 335) else x 39 (p % 335)) else x c, ?_, fun j i hj hi => ?_, fun i hi => ?_, ?_, fun i a b => ?_, fun k a b => ?_⟩
  · simp [upd]
  · have e1 : (335 * j + i) / 335 = j := by omega
    have e2 : (335 * j + i) % 335 = i := by omega
    simp [e1, e2, hj]
  · have e1 : (335 * mn_u u + i) / 335 = mn_u u := by omega
    have e2 : (335 * mn_u u + i) % 335 = i := by omega
    simp [e1, e2]
  · simp [upd]
  · simp [upd, a, b]
  · simp [a, b]
theorem mstep_ex (M : mj_X) (n s k t w : Nat) : ∃ M', mstep M M' n s k t w := by
  unfold mstep
  by_cases h : n < 40
  · obtain ⟨v, hv⟩ := mno_ex (mj_up M 37 5 (nI (lt_t t w))) s
    exact ⟨_, by rw [if_pos h]; exact ⟨v, hv, rfl⟩⟩
  · exact ⟨_, by rw [if_neg h]⟩
/-- the class's one month, whatever the counters are -/
def yC (k w : Nat) (X X' : mj_X) : Prop := ∀ n s t, n ≤ 40 → X 11 12 = nI n → s ≤ 6 → X 33 3 = nI s → t ≤ 9999 → X 0 7 = nI t → ySt n s k t w X X'
theorem IV_ca {X M : mj_X} {len t k n s : Nat} {T O : Nat → Nat} (h : IV (join X M) len t k n s T O) : (X 11 12 = nI n ∧ n ≤ 40) ∧ (X 33 3 = nI s ∧ s ≤ 6) ∧ (X 0 7 = nI t ∧ t ≤ 9999) ∧ (M 39 334 = nI n ∧ M 37 4 = nI s ∧ M 37 5 = nI t ∧ M 37 6 = nI k ∧ 1 ≤ k ∧ k ≤ 6) ∧ ∃ nb, CW X n nb s k := by
  obtain ⟨nb, hk⟩ := IV_kr h
  have hc := IV_CW h hk
  obtain ⟨h1, h2, h3, h4, h5, h6, h7⟩ := h
  obtain ⟨a1, a2, a3, -⟩ := h4
  obtain ⟨b1, b2, b3, -⟩ := h7
  obtain ⟨d1, d2, d3⟩ := h2
  obtain ⟨e1, e2, e3, e4, -⟩ := h3
  rw [jl (by decide)] at a1 b1 d1
  rw [jh (by decide)] at a2 b2 d2 e2
  refine ⟨⟨a1, a3⟩, ⟨b1, b3⟩, ⟨d1, d3⟩, ⟨a2, b2, d2, e2, e3, e4⟩, nb, ?_⟩
  unfold CW cd_ok at hc ⊢
  rw [jl (by decide), jl (by decide), jl (by decide), jl (by decide), jl (by decide), jl (by decide), jl (by decide)] at hc
  exact hc
theorem lt_hi {X X' : mj_X} {n s k t w c : Nat} (h : ySt n s k t w X X') (hc : 37 ≤ c) : X' c = X c := by
  unfold ySt at h
  by_cases h40 : n = 40
  · rw [if_pos h40] at h; rw [h, up_ne (by omega)]
  · rw [if_neg h40] at h
    obtain ⟨u, c1, c2⟩ := h
    rw [c2, fr_next (Or.inr (by omega)), no_hi c1 (by omega)]
    unfold lt_x; rw [addC_ne (by omega), up_ne (by omega)]
theorem ms_lo {M M' : mj_X} {n s k t w c : Nat} (h : mstep M M' n s k t w) (hc : c < 37) : M' c = M c := by
  unfold mstep at h
  by_cases h40 : n < 40
  · rw [if_pos h40] at h
    obtain ⟨v, h1, h2⟩ := h
    rw [h2, mcm_ne (by omega) (by omega), mno_ne h1 (by omega) (by omega), up_ne (by omega)]
  · rw [if_neg h40] at h; rw [h, up_ne (by omega)]
theorem i_year {x : mj_X} (h : Inv x) (z m : Int32) : PAIR mX6_year mX7_year [.int z, .int m] x := by
  by_cases hb : ¬ (0 ≤ z ∧ z ≤ 9999 ∧ 1 ≤ m ∧ m ≤ 20)
  · refine (c_yearB (shX ++ shM) x z m hb).mI (fun r y q => ?_)
    obtain ⟨q1, q2⟩ := q
    subst q2
    refine (q_yearB y z m hb).mI (fun r' y' q => ?_)
    obtain ⟨r1, r2⟩ := q
    subst r2
    exact ⟨by rw [r1, q1], h⟩
  · have hb := Classical.not_not.mp hb
    obtain ⟨zN, hz, rfl⟩ := lit_le (m := 9999) (by decide) hb.1 hb.2.1
    obtain ⟨mN, hm, rfl⟩ := lit_le (w := m) (m := 20) (by decide) (by have := hb.2.2.1; rw [Int32.le_iff_toInt_le, tl_1] at this; rw [Int32.le_iff_toInt_le, tl_0]; omega) hb.2.2.2
    have hm1 : 1 ≤ mN := by
      have := hb.2.2.1
      rw [Int32.le_iff_toInt_le, tl_1, nI_toInt (by omega)] at this
      omega
    obtain ⟨len, t0, k, n0, s0, T0, O0, h⟩ := h
    refine (c_year (shX ++ shM) rfl rfl x (fun i y => (∀ c, 37 ≤ c → y c = x c) ∧ (∃ f : Nat → mj_X, f 0 = x ∧ f i = y ∧ ∀ j, j < i → yC k (yr_w zN j) (f j) (f (j + 1))) ∧ ∃ M t n s T O, IV (join y M) len t k n s T O) zN mN hz hm ?_ ?_ hm1).mono (fun r y q => ?_)
    · refine ⟨fun _ _ => rfl, ⟨fun _ => x, rfl, rfl, fun j hj => absurd hj (Nat.not_lt_zero j)⟩, x, t0, n0, s0, T0, O0, ?_⟩
      rw [join_eq (fun _ _ => rfl)]; exact h
    · intro i y hi hI
      obtain ⟨i1, ⟨f, f0, fi, fs⟩, M, t, n, s, T, O, hIV⟩ := hI
      obtain ⟨⟨a1, a2⟩, ⟨b1, b2⟩, ⟨d1, d2⟩, -, nb, hcw⟩ := IV_ca hIV
      have hw : yr_w zN i < 65521 := Nat.mod_lt _ (by decide)
      refine (c_live shM y n nb s k hcw t d2 d1 (yr_w zN i) hw).mono (fun y2 q => ?_)
      have hq : ySt n s k t (yr_w zN i) y y2 := q
      obtain ⟨M', hM'⟩ := mstep_ex M n s k t (yr_w zN i)
      obtain ⟨s', T', O', hIV'⟩ := STEP hIV hq hM'
      refine ⟨fun c hc => by rw [lt_hi hq hc, i1 c hc], ⟨fun j => if j ≤ i then f j else y2, by show (if 0 ≤ i then f 0 else y2) = x; rw [if_pos (by omega)]; exact f0, by show (if i + 1 ≤ i then f (i + 1) else y2) = y2; rw [if_neg (by omega)], fun j hj => ?_⟩, M', _, _, s', T', O', hIV'⟩
      show yC k (yr_w zN j) (if j ≤ i then f j else y2) (if j + 1 ≤ i then f (j + 1) else y2)
      by_cases e : j = i
      · subst e
        rw [if_pos (by omega), if_neg (by omega), fi]
        intro n2 s2 t2 p1 p2 p3 p4 p5 p6
        have e1 := nI_ij (by omega) (by omega) (p2.symm.trans a1)
        have e2 := nI_ij (by omega) (by omega) (p4.symm.trans b1)
        have e3 := nI_ij (by omega) (by omega) (p6.symm.trans d1)
        subst e1 e2 e3
        exact hq
      · rw [if_pos (by omega), if_pos (by omega)]; exact fs j (by omega)
    · obtain ⟨⟨i1, ⟨f, f0, fi, fs⟩, -⟩, hr⟩ := q
      refine (q_year y (fun i c y' => c ≤ i ∧ (∀ cc, cc < 37 → y' cc = y cc) ∧ ∃ t n s T O, IV (join (f i) y') len t k n s T O ∧ n = n0 + c) zN mN hz hm1 hm ?_ ?_ ?_).mono (fun r' y' q => ?_)
      · refine ⟨Nat.le_refl 0, fun _ _ => rfl, t0, n0, s0, T0, O0, ?_, rfl⟩
        rw [f0]
        have : join x y = x := by
          funext c
          by_cases hc : c < 37
          · rw [jl hc]
          · rw [jh (by omega), i1 c (by omega)]
        rw [this]; exact h
      · intro i c y' hI
        obtain ⟨h1, h2, t, n, s, T, O, hIV, hn⟩ := hI
        obtain ⟨⟨a1, a2⟩, ⟨b1, b2⟩, ⟨d1, d2⟩, ⟨g1, g2, g3, g4, g5, g6⟩, -⟩ := IV_ca hIV
        exact ⟨h1, n, s, k, t, a2, g1, b2, g2, g5, g6, g4, d2, g3⟩
      · intro i c y' n u k2 t hi hI hf y2 hy2
        obtain ⟨h1, h2, t', n', s', T', O', hIV, hn⟩ := hI
        obtain ⟨⟨a1, a2⟩, ⟨b1, b2⟩, ⟨d1, d2⟩, ⟨g1, g2, g3, g4, g5, g6⟩, -⟩ := IV_ca hIV
        obtain ⟨w1, w2, w3, w4, w5, w6, w7, w8, w9⟩ := hf
        have e1 := nI_ij (by omega) (by omega) (w2.symm.trans g1)
        have e2 := nI_ij (by omega) (by omega) (w4.symm.trans g2)
        have e3 := nI_ij (by omega) (by omega) (w9.symm.trans g3)
        have e4 := nI_ij (by omega) (by omega) (w7.symm.trans g4)
        subst e1 e2 e3 e4
        obtain ⟨s2, T2, O2, hIV2⟩ := STEP hIV (fs i hi n u t a2 a1 b2 b1 d2 d1) hy2
        refine ⟨by split <;> omega, fun cc hcc => by rw [ms_lo hy2 hcc, h2 cc hcc], _, _, s2, T2, O2, hIV2, ?_⟩
        split <;> omega
      · obtain ⟨c, ⟨c1, c2, t, n, s, T, O, hIV, hn⟩, hr'⟩ := q
        obtain ⟨⟨a1, a2⟩, -⟩ := IV_ca hIV
        rw [fi] at a1 hIV
        refine ⟨?_, len, t, k, n, s, T, O, ?_⟩
        · rw [hr', hr, a1, h.2.2.2.1.1, hn, ← nI_add]; grind
        · rw [join_eq c2] at hIV; exact hIV
