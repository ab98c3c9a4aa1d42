/-! reckoning: the class's bans and marks and the reference's stay alike -/
theorem ti_div4 {s : Int32} (h : 0 ≤ s.toInt) : (s / 4).toInt = s.toInt / 4 := by
  have hl := s.toInt_lt
  rw [Int32.toInt_div, tl_4, Int.tdiv_eq_ediv_of_nonneg h]
  simp only [Int.bmod_def]; omega
theorem nI_ofT {a : Int32} (h : 0 ≤ a.toInt) : a = nI a.toInt.toNat := by
  have hl := a.toInt_lt
  rw [← Int32.toInt_inj, nI_toInt (by omega)]; omega
def BR (X M : mj_X) (T : Nat → Nat) (e i : Nat) : Prop := X 25 i = M 49 i ∧ X 26 i = M 50 i ∧ X 27 i = mL M i ∧ X 28 i = M 52 i ∧ X 30 i = M 53 i ∧ X 31 i = M 54 i ∧ (∃ k, k < e ∧ X 28 i = nI k ∧ X 29 i = nI (T k)) ∧ 0 ≤ (M 50 i).toInt ∧ 1 ≤ (M 51 i).toInt ∧ (M 50 i).toInt + (M 51 i).toInt ≤ ((10000 + 400 * (i + 1) : Nat) : Int)
def MR (X M : mj_X) (k : Nat) : Prop := X 20 k = M 46 k ∧ X 21 k = M 47 k ∧ X 22 k = M 48 k ∧ X 23 k = mcnt M k
def KB (X M : mj_X) (T : Nat → Nat) (e nb : Nat) : Prop := X 24 7 = nI nb ∧ M 37 19 = nI nb ∧ ∀ i, i < nb → BR X M T e i
def KR (X M : mj_X) (T : Nat → Nat) (e nb : Nat) : Prop := nb ≤ 2 * e ∧ KB X M T e nb ∧ ∀ k, k < e → MR X M k
def KZ (M : mj_X) (e n : Nat) : Prop := ∀ k, e ≤ k → k < n → M 46 k = 0 ∧ M 47 k = 0 ∧ M 48 k = 0
def E1 (X M : mj_X) (T O : Nat → Nat) (k j : Nat) : Prop := X 12 j = mE M j 0 ∧ X 13 j = nI (T j) ∧ mE M j 1 = nI (T j) ∧ T j ≤ 9999 ∧ X 14 j = mE M j 2 ∧ X 15 j = nI (O j) ∧ mon M j = nI (O j) ∧ O j ≤ T j ∧
  ((X 14 j = 0 ∧ X 16 j = mE M j 4 ∧ (∃ c, c < k ∧ X 16 j = nI c) ∧ X 17 j = mE M j 5 ∧ 0 ≤ (X 17 j).toInt ∧ (X 17 j).toInt ≤ 9 ∧ X 18 j = mE M j 6 ∧ (X 18 j = 0 ∨ X 18 j = 1) ∧ X 19 j = mE M j 7 ∧ (X 19 j = 0 ∨ X 19 j = 1)) ∨ ((X 14 j = 1 ∨ X 14 j = 2) ∧ O j = T j ∧ mE M j 7 = 0))
def EV (X M : mj_X) (T O : Nat → Nat) (k n : Nat) : Prop := (∀ j, j < n → E1 X M T O k j) ∧ ∀ i j, i ≤ j → j < n → T i ≤ T j
def RU (X M : mj_X) : Prop := (∀ i, i < 6 → M 39 (328 + i) = X 4 i ∧ (mj_st0 i).toInt ≤ (X 4 i).toInt ∧ (X 4 i).toInt ≤ (mj_st1 i).toInt)
def CO (X M : mj_X) (k : Nat) : Prop := k ≤ 6 ∧ ∀ c, c < k → X 5 c = M 41 c ∧ X 6 c = M 42 c ∧ 0 ≤ (X 5 c).toInt ∧ (X 5 c).toInt ≤ 9 ∧ 0 ≤ (X 6 c).toInt ∧ (X 6 c).toInt ≤ 99
theorem mL_ti {X M : mj_X} {T : Nat → Nat} {e i : Nat} (hi : i ≤ 82) (h : BR X M T e i) : (mL M i).toInt = (M 50 i).toInt + (M 51 i).toInt - 1 := by
  obtain ⟨-, -, -, -, -, -, -, h8, h9, h10⟩ := h
  have e1 : (M 50 i + M 51 i).toInt = (M 50 i).toInt + (M 51 i).toInt := ti_add (by omega) (by omega)
  unfold mL
  rw [ti_sub (by rw [e1, tl_1]; omega) (by rw [e1, tl_1]; omega), e1, tl_1]
theorem BR_congr {X M X' M' : mj_X} {T : Nat → Nat} {e i : Nat} (hX : ∀ c, 25 ≤ c → c ≤ 31 → X' c i = X c i) (hM : ∀ c, 49 ≤ c → c ≤ 54 → M' c i = M c i) (h : BR X M T e i) : BR X' M' T e i := by
  unfold BR mL at h ⊢
  rw [hX 25 (by decide) (by decide), hX 26 (by decide) (by decide), hX 27 (by decide) (by decide), hX 28 (by decide) (by decide), hX 29 (by decide) (by decide), hX 30 (by decide) (by decide), hX 31 (by decide) (by decide), hM 49 (by decide) (by decide), hM 50 (by decide) (by decide), hM 51 (by decide) (by decide), hM 52 (by decide) (by decide), hM 53 (by decide) (by decide), hM 54 (by decide) (by decide)]
  exact h
theorem BR_mono {X M : mj_X} {T : Nat → Nat} {e e' i : Nat} (he : e ≤ e') (h : BR X M T e i) : BR X M T e' i := by
  obtain ⟨h1, h2, h3, h4, h5, h6, ⟨k, a, b⟩, h8⟩ := h
  exact ⟨h1, h2, h3, h4, h5, h6, ⟨k, by omega, b⟩, h8⟩
theorem KB_mono {X M : mj_X} {T : Nat → Nat} {e e' nb : Nat} (he : e ≤ e') (h : KB X M T e nb) : KB X M T e' nb := ⟨h.1, h.2.1, fun i hi => BR_mono he (h.2.2 i hi)⟩
theorem KB_fr {X M X' M' : mj_X} {T : Nat → Nat} {e nb : Nat} (hX : ∀ c, 24 ≤ c → c ≤ 31 → X' c = X c) (h19 : M' 37 19 = M 37 19) (hM : ∀ c, 49 ≤ c → c ≤ 54 → M' c = M c) (h : KB X M T e nb) : KB X' M' T e nb :=
  ⟨by rw [hX 24 (by decide) (by decide)]; exact h.1, by rw [h19]; exact h.2.1, fun i hi => BR_congr (fun c a b => by rw [hX c (by omega) b]) (fun c a b => by rw [hM c a b]) (h.2.2 i hi)⟩
theorem badd_at {X : mj_X} {nb c i : Nat} {d f s e t g : Int32} (hc : c ≠ 24) (hi : i ≠ nb) : bn_add X nb d f s e t g c i = X c i := by
  unfold bn_add; simp only [up_at]; simp [hc, hi]
theorem mg_at {M : mj_X} {nb c i : Nat} {d f s e g : Int32} (hc : c ≠ 37) (hi : i ≠ nb) : mg M nb d f s e g c i = M c i := by
  unfold mg; simp only [up_at]; simp [hc, hi]
theorem KB_add {X M : mj_X} {T : Nat → Nat} {e nb k : Nat} {d f s g : Int32} (hk : k < e) (h : KB X M T e nb) (h1 : 0 ≤ f.toInt) (h2 : 1 ≤ s.toInt) (h3 : f.toInt + s.toInt ≤ ((10000 + 400 * (nb + 1) : Nat) : Int)) : KB (bn_add X nb d f s (nI k) (nI (T k)) g) (mg M nb d f s (nI k) g) T e (nb + 1) := by
  refine ⟨nb_badd, mb_mg, fun i hi => ?_⟩
  by_cases hin : i = nb
  · subst hin
    refine ⟨?_, ?_, ?_, ?_, ?_, ?_, ⟨k, hk, ?_, ?_⟩, ?_, ?_, ?_⟩
    all_goals first
      | (simp only [mL, bn_add, mg, up_at]; simp; done)
      | (simp only [mg, up_at]; simp; omega)
  · exact BR_congr (fun c a b => badd_at (by omega) hin) (fun c a b => mg_at (by omega) hin) (h.2.2 i (by omega))
/-! what is asked of the bans, alike -/
theorem has_eq {X M : mj_X} {T : Nat → Nat} {e i : Nat} (d o : Int32) (h : BR X M T e i) : bn_has X d o i = mn_has M d o i := by
  obtain ⟨h1, h2, h3, -⟩ := h
  unfold bn_has mn_has; rw [h1, h2, h3]
theorem any_eq {X M : mj_X} {T : Nat → Nat} {e nb : Nat} (d o : Int32) (h : KB X M T e nb) : lp_any (bn_has X d o) nb = lp_any (mn_has M d o) nb := lp_any_congr (fun i hi => has_eq d o (h.2.2 i hi))
theorem gr_eq {X M : mj_X} {T : Nat → Nat} {e nb te : Nat} {d : Int32} (he : e ≤ 41) (hT : ∀ k, k < e → T k ≤ te ∧ mE M k 1 = nI (T k)) (hte : te ≤ 9999) (h3 : X 4 3 = M 39 331) (h : KB X M T e nb) : lp_f (bn_greatF X d (nI te - X 4 3)) 0 nb = lp_f (mgrF M d (nI te)) 0 nb := by
  refine lp_f_congr (fun i a hi => ?_)
  obtain ⟨b1, b2, b3, b4, b5, b6, ⟨k, hk, b7, b8⟩, -⟩ := h.2.2 i hi
  unfold bn_greatF mgrF
  have e1 : (M 52 i).toNatClampNeg = k := by rw [← b4, b7, nI_clamp (by omega)]
  have hk2 := hT k hk
  rw [e1, hk2.2, b1, b5, b8, h3]
  have e2 : nI (T k) ≤ nI te := nI_le hk2.1 (by omega)
  by_cases hc : M 49 i = d ∧ M 53 i = 1 ∧ nI te - M 39 331 ≤ nI (T k)
  · rw [if_pos hc, if_pos ⟨hc.1, hc.2.1, hc.2.2, e2⟩]
  · rw [if_neg hc, if_neg (fun q => hc ⟨q.1, q.2.1, q.2.2.1⟩), Int32.add_zero]
theorem late_eq {X M : mj_X} {T : Nat → Nat} {e : Nat} {d t : Int32} (ht : 0 ≤ t.toInt ∧ t.toInt ≤ 9999) : ∀ n, n ≤ 82 → (∀ i, i < n → BR X M T e i) → -1 ≤ (lp_f (bn_lateF X d) (-1) n).toInt ∧ (lp_f (bn_lateF X d) (-1) n).toInt ≤ ((10000 + 400 * n : Nat) : Int) ∧ (lp_f (mbgF M d) t n).toInt = if t.toInt < (lp_f (bn_lateF X d) (-1) n).toInt + 1 then (lp_f (bn_lateF X d) (-1) n).toInt + 1 else t.toInt
  | 0, _, _ => by
    rw [lp_f, lp_f, tl_m1, if_neg (by omega)]; omega
  | n + 1, hn, h => by
    obtain ⟨i1, i2, i3⟩ := late_eq (d := d) ht n (by omega) (fun i hi => h i (by omega))
    have b := h n (by omega)
    have tl := mL_ti (by omega) b
    obtain ⟨b1, b2, b3, b4, b5, b6, -, b8, b9, b10⟩ := b
    rw [lp_f, lp_f]
    generalize lp_f (bn_lateF X d) (-1) n = L at *
    generalize lp_f (mbgF M d) t n = R at *
    unfold bn_lateF mbgF
    rw [b1, b3]
    by_cases hd : M 49 n = d
    · rw [if_pos hd]
      have e1 : (mL M n + 1).toInt = (mL M n).toInt + 1 := by rw [ti_add (by rw [tl_1]; omega) (by rw [tl_1]; omega), tl_1]
      by_cases hl : L < mL M n
      · rw [if_pos hl]
        rw [Int32.lt_iff_toInt_lt] at hl
        by_cases hr : R ≤ mL M n
        · rw [if_pos ⟨hd, hr⟩, e1]
          rw [Int32.le_iff_toInt_le] at hr
          split at i3 <;> split <;> omega
        · rw [if_neg (fun q => hr q.2)]
          rw [Int32.le_iff_toInt_le] at hr
          split at i3 <;> split <;> omega
      · rw [if_neg hl]
        rw [Int32.lt_iff_toInt_lt] at hl
        by_cases hr : R ≤ mL M n
        · rw [if_pos ⟨hd, hr⟩, e1]
          rw [Int32.le_iff_toInt_le] at hr
          split at i3 <;> split <;> omega
        · rw [if_neg (fun q => hr q.2)]
          rw [Int32.le_iff_toInt_le] at hr
          split at i3 <;> split <;> omega
    · rw [if_neg hd, if_neg (fun q => hd q.1)]
      split at i3 <;> split <;> omega
theorem fd_eq {X M : mj_X} {T : Nat → Nat} {e nb : Nat} {d t : Int32} (ht : 0 ≤ t.toInt ∧ t.toInt ≤ 9999) (hb : nb ≤ 82) (h : KB X M T e nb) : rc_fd X d t = lp_f (mbgF M d) t nb ∧ 0 ≤ (rc_fd X d t).toInt ∧ (rc_fd X d t).toInt ≤ ((10001 + 400 * nb : Nat) : Int) := by
  obtain ⟨i1, i2, i3⟩ := late_eq (d := d) ht nb hb h.2.2
  unfold rc_fd
  rw [bnN_eq hb h.1]
  generalize lp_f (bn_lateF X d) (-1) nb = L at *
  generalize lp_f (mbgF M d) t nb = R at *
  have e1 : (L + 1).toInt = L.toInt + 1 := by rw [ti_add (by rw [tl_1]; omega) (by rw [tl_1]; omega), tl_1]
  by_cases hc : t < L + 1
  · rw [if_pos hc]
    rw [Int32.lt_iff_toInt_lt, e1] at hc
    rw [if_pos hc] at i3
    exact ⟨by rw [← Int32.toInt_inj, e1, i3], by omega, by omega⟩
  · rw [if_neg hc]
    rw [Int32.lt_iff_toInt_lt, e1] at hc
    rw [if_neg hc] at i3
    exact ⟨by rw [← Int32.toInt_inj, i3], by omega, by omega⟩
theorem sh_eq {X M : mj_X} {T : Nat → Nat} {e : Nat} {d t : Int32} : ∀ n, n ≤ 82 → (∀ i, i < n → BR X M T e i) → (lp_f (bn_shF X d t) (-1, t) n = (-1, t) ∧ lp_f (mshF M d t) (-4) n = -4) ∨ ∃ j, j < n ∧ lp_f (bn_shF X d t) (-1, t) n = (nI j, mL M j) ∧ lp_f (mshF M d t) (-4) n = nI j ∧ M 50 j ≤ t ∧ t ≤ mL M j
  | 0, _, _ => Or.inl ⟨rfl, rfl⟩
  | n + 1, hn, h => by
    have ih := sh_eq (d := d) (t := t) n (by omega) (fun i hi => h i (by omega))
    have b := h n (by omega)
    have hh := has_eq d t b
    obtain ⟨b1, b2, b3, b4, b5, b6, -, b8, b9, b10⟩ := b
    have hm : mn_has M d t n = true ↔ (M 49 n = d ∧ M 50 n ≤ t ∧ t ≤ mL M n) := by unfold mn_has; rw [decide_eq_true_eq]
    rw [lp_f, lp_f]
    generalize lp_f (bn_shF X d t) (-1, t) n = u at *
    generalize lp_f (mshF M d t) (-4) n = v at *
    rw [bn_shF, mshF, hh, b6, b3]
    rcases ih with ⟨i1, i2⟩ | ⟨j, hj, i1, i2, i3, i4⟩
    · subst i1 i2
      by_cases hc : mn_has M d t n = true ∧ M 54 n = 0
      · right
        have hq := hm.mp hc.1
        refine ⟨n, by omega, ?_, ?_, hq.2.1, hq.2.2⟩
        · rw [if_pos ⟨hc.1, hc.2, hq.2.2⟩]
        · rw [if_pos ⟨hq.1, hc.2, hq.2.1, hq.2.2, Or.inl rfl⟩]
      · left
        exact ⟨if_neg (fun q => hc ⟨q.1, q.2.1⟩), if_neg (fun q => hc ⟨hm.mpr ⟨q.1, q.2.2.1, q.2.2.2.1⟩, q.2.1⟩)⟩
    · subst i1 i2
      have ej : (nI j).toNatClampNeg = j := nI_clamp (by omega)
      have en : ¬ nI j = -4 := by
        intro q
        have := congrArg Int32.toInt q
        rw [nI_toInt (by omega), tl_m4] at this
        omega
      rw [ej]
      by_cases hc : mn_has M d t n = true ∧ M 54 n = 0 ∧ mL M j ≤ mL M n
      · right
        have hq := hm.mp hc.1
        refine ⟨n, by omega, ?_, ?_, hq.2.1, hq.2.2⟩
        · rw [if_pos ⟨hc.1, hc.2.1, hc.2.2⟩]
        · rw [if_pos ⟨hq.1, hc.2.1, hq.2.1, hq.2.2, Or.inr hc.2.2⟩]
      · right
        refine ⟨j, by omega, ?_, ?_, i3, i4⟩
        · exact if_neg (fun q => hc ⟨q.1, q.2.1, q.2.2⟩)
        · exact if_neg (fun q => hc ⟨hm.mpr ⟨q.1, q.2.2.1, q.2.2.2.1⟩, q.2.1, q.2.2.2.2.resolve_left en⟩)
