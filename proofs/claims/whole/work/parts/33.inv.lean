/-! THE INVARIANT between the class's cells and the reference's -/
theorem nI_ij {a b : Nat} (ha : a < 2 ^ 31) (hb : b < 2 ^ 31) (h : nI a = nI b) : a = b := by
  have := congrArg Int32.toInt h
  rw [nI_toInt ha, nI_toInt hb] at this
  omega
def hz (ρ : Nat → Int32) : mj_X := fun c => if c = 39 then ρ else fun _ => 0
def ES (X : mj_X) (ρ : Nat → Int32) (k n t : Nat) : Prop := ∃ T O : Nat → Nat, EV X (hz ρ) T O k n ∧ RU X (hz ρ) ∧ ρ 334 = nI n ∧ n ≤ 40 ∧ ∀ j, j < n → T j ≤ t
def udc (X : mj_X) (s : Nat) : mj_X := if X 34 s = 0 then X else if X 34 s = 5 then mj_up X 4 (X 35 s).toNatClampNeg (X 36 s) else mj_up X (ev_tc (X 34 s)) (X 35 s).toNatClampNeg (X 36 s)
def UN (k t : Nat) (r : Nat → Nat → Int32) : Nat → mj_X → Nat → Prop
  | 0, _, _ => True
  | s + 1, X, n => ce_ok X s n ∧ ES (udc X s) (r s) k (ud_n X s n) t ∧ UN k t r s (udc X s) (ud_n X s n)
/-- the class's events and rules alike, up to n -/
def sm (X X' : mj_X) (n : Nat) : Prop := (∀ i, i < 6 → X' 4 i = X 4 i) ∧ ∀ c, 12 ≤ c → c ≤ 19 → ∀ j, j < n → X' c j = X c j
theorem sm.rf (X : mj_X) (n : Nat) : sm X X n := ⟨fun _ _ => rfl, fun _ _ _ _ _ => rfl⟩
theorem sm.tr {X Y Z : mj_X} {n : Nat} (h : sm X Y n) (g : sm Y Z n) : sm X Z n := ⟨fun i hi => by rw [g.1 i hi, h.1 i hi], fun c a b j hj => by rw [g.2 c a b j hj, h.2 c a b j hj]⟩
theorem sm.lt {X Y : mj_X} {n m : Nat} (h : sm X Y n) (hm : m ≤ n) : sm X Y m := ⟨h.1, fun c a b j hj => h.2 c a b j (by omega)⟩
theorem sm.cells {X Y : mj_X} {n : Nat} (h4 : Y 4 = X 4) (h : ∀ c, 12 ≤ c → c ≤ 19 → Y c = X c) : sm X Y n := ⟨fun i _ => by rw [h4], fun c a b j _ => by rw [h c a b]⟩
theorem E1_sm {X X' M M' : mj_X} {T O T' O' : Nat → Nat} {k n j : Nat} (hs : sm X X' n) (hj : j < n) (hM : ∀ w, w < 8 → M' 39 (8 * j + w) = M 39 (8 * j + w)) (hT : T' j = T j) (hO : O' j = O j) (h : E1 X M T O k j) : E1 X' M' T' O' k j := by
  unfold E1 mon mE at h ⊢
  rw [hs.2 12 (by decide) (by decide) j hj, hs.2 13 (by decide) (by decide) j hj, hs.2 14 (by decide) (by decide) j hj, hs.2 15 (by decide) (by decide) j hj, hs.2 16 (by decide) (by decide) j hj, hs.2 17 (by decide) (by decide) j hj, hs.2 18 (by decide) (by decide) j hj, hs.2 19 (by decide) (by decide) j hj,
    hM 0 (by decide), hM 1 (by decide), hM 2 (by decide), hM 3 (by decide), hM 4 (by decide), hM 5 (by decide), hM 6 (by decide), hM 7 (by decide), hT, hO]
  exact h
theorem EV_sm {X X' M M' : mj_X} {T O T' O' : Nat → Nat} {k n : Nat} (hs : sm X X' n) (hM : ∀ i, i < 8 * n → M' 39 i = M 39 i) (hT : ∀ j, j < n → T' j = T j ∧ O' j = O j) (h : EV X M T O k n) : EV X' M' T' O' k n :=
  ⟨fun j hj => E1_sm hs hj (fun w hw => hM _ (by omega)) (hT j hj).1 (hT j hj).2 (h.1 j hj), fun i j h1 h2 => by rw [(hT i (by omega)).1, (hT j h2).1]; exact h.2 i j h1 h2⟩
theorem RU_sm {X X' M M' : mj_X} {n : Nat} (hs : sm X X' n) (hM : ∀ i, i < 6 → M' 39 (328 + i) = M 39 (328 + i)) (h : RU X M) : RU X' M' := fun i hi => by rw [hs.1 i hi, hM i hi]; exact h i hi
theorem ES_sm {X X' : mj_X} {ρ ρ' : Nat → Int32} {k n t t' : Nat} (hs : sm X X' n) (hρ : ∀ i, i < 335 → ρ' i = ρ i) (ht : t ≤ t') (h : ES X ρ k n t) : ES X' ρ' k n t' := by
  obtain ⟨T, O, h1, h2, h3, h4, h5⟩ := h
  exact ⟨T, O, EV_sm (M := hz ρ) (M' := hz ρ') hs (fun i hi => hρ i (by omega)) (fun _ _ => ⟨rfl, rfl⟩) h1, RU_sm (M := hz ρ) (M' := hz ρ') hs (fun i hi => hρ (328 + i) (by omega)) h2, by rw [hρ 334 (by decide)]; exact h3, h4, fun j hj => Nat.le_trans (h5 j hj) ht⟩
theorem tc_in {v : Int32} : 12 ≤ ev_tc v ∧ ev_tc v ≤ 19 := by
  unfold ev_tc; split
  · decide
  · split
    · decide
    · split <;> decide
theorem udc_hi {X : mj_X} {s c : Nat} (h : 20 ≤ c) : udc X s c = X c := by
  have := tc_in (v := X 34 s)
  unfold udc; split
  · rfl
  · split <;> rw [up_ne (by omega)]
theorem udc_sm {X X' : mj_X} {s s' n : Nat} (h34 : X' 34 s' = X 34 s) (h35 : X' 35 s' = X 35 s) (h36 : X' 36 s' = X 36 s) (hs : sm X X' n) : sm (udc X s) (udc X' s') n := by
  unfold udc
  rw [h34, h35, h36]
  split
  · exact hs
  · split
    · refine ⟨fun i hi => ?_, fun c a b j hj => ?_⟩
      · rw [up_at, up_at]; split
        · rfl
        · exact hs.1 i hi
      · rw [up_ne (by omega), up_ne (by omega)]; exact hs.2 c a b j hj
    · have := tc_in (v := X 34 s)
      refine ⟨fun i hi => ?_, fun c a b j hj => ?_⟩
      · rw [up_ne (by omega), up_ne (by omega)]; exact hs.1 i hi
      · rw [up_at, up_at]; split
        · rfl
        · exact hs.2 c a b j hj
theorem UN_tr {k t t' h : Nat} {r r' : Nat → Nat → Int32} (ht : t ≤ t') : ∀ (s : Nat) (X X' : mj_X) (n : Nat), (∀ i, i < s → X' 34 i = X 34 (i + h) ∧ X' 35 i = X 35 (i + h) ∧ X' 36 i = X 36 (i + h)) → (∀ j i, j < s → i < 335 → r' j i = r (j + h) i) → sm X X' n → UN k t r (s + h) X n → UN k t' r' s X' n
  | 0, _, _, _, _, _, _, _ => trivial
  | s + 1, X, X', n, hc, hr, hs, hu => by
    rw [show s + 1 + h = (s + h) + 1 by omega] at hu
    obtain ⟨u1, u2, u3⟩ := hu
    obtain ⟨c1, c2, c3⟩ := hc s (by omega)
    have e1 : ud_n X' s n = ud_n X (s + h) n := by unfold ud_n; rw [c1]
    have e2 : ud_n X (s + h) n ≤ n := by unfold ud_n; split <;> omega
    have hsm := (udc_sm c1 c2 c3 hs).lt e2
    refine ⟨?_, ?_, ?_⟩
    · unfold ce_ok at u1 ⊢; rw [c1, c2]; exact u1
    · rw [e1]; exact ES_sm hsm (fun i hi => hr s i (by omega) hi) ht u2
    · rw [e1]
      refine UN_tr ht s (udc X (s + h)) (udc X' s) _ (fun i hi => ?_) (fun j i hj hi => hr j i (by omega) hi) hsm u3
      rw [udc_hi (by decide), udc_hi (by decide), udc_hi (by decide), udc_hi (by decide), udc_hi (by decide), udc_hi (by decide)]
      exact hc i (by omega)
def TX (x : mj_X) (len : Nat) : Prop := x 1 1 = nI len ∧ x 37 0 = nI len ∧ len ≤ 200 ∧ ∀ i, i < len → x 2 i = x 38 i
def TD (x : mj_X) (t : Nat) : Prop := x 0 7 = nI t ∧ x 37 5 = nI t ∧ t ≤ 9999
def CD (x : mj_X) (k : Nat) : Prop := x 3 3 = nI k ∧ x 37 6 = nI k ∧ 1 ≤ k ∧ CO x x k
def EN (x : mj_X) (T O : Nat → Nat) (k n t : Nat) : Prop := x 11 12 = nI n ∧ x 39 334 = nI n ∧ n ≤ 40 ∧ EV x x T O k n ∧ RU x x ∧ ∀ j, j < n → T j ≤ t
def KN (x : mj_X) (T O : Nat → Nat) (k n : Nat) : Prop := x 32 3 = nI n ∧ ∀ M, EV x M T O k n → RU x M → CO x M k → ∃ nb, KR x (m_it M n n) T n nb
def K2 (x : mj_X) (T : Nat → Nat) (n : Nat) : Prop := ¬ x 37 15 = 0 → ∃ nb, KR x x T n nb
def UX (x : mj_X) (k t s n : Nat) : Prop := x 33 3 = nI s ∧ x 37 4 = nI s ∧ s ≤ 6 ∧ UN k t (fun j i => x 40 (335 * j + i)) s x n
def IV (x : mj_X) (len t k n s : Nat) (T O : Nat → Nat) : Prop := TX x len ∧ TD x t ∧ CD x k ∧ EN x T O k n t ∧ KN x T O k n ∧ K2 x T n ∧ UX x k t s n
def Inv (x : mj_X) : Prop := ∃ len t k n s T O, IV x len t k n s T O
/-- one call of the law's: the class's answer and the reference's are the same, and the invariant holds again -/
def PAIR (A B : mj_M) (args : List Value) (x : mj_X) : Prop := mj_CI A (shX ++ shM) (.ref 0 :: args) x (fun z y => mj_CI B (shX ++ shM) (.ref 37 :: args) y (fun z' y' => z' = z ∧ Inv y'))
theorem KR_fr {X M X' M' : mj_X} {T : Nat → Nat} {e nb : Nat} (hX : ∀ c, 20 ≤ c → c ≤ 31 → X' c = X c) (h19 : M' 37 19 = M 37 19) (h39 : ∀ i, i < 8 * e → M' 39 i = M 39 i) (hM : ∀ c, 46 ≤ c → c ≤ 54 → M' c = M c) (h : KR X M T e nb) : KR X' M' T e nb := by
  refine ⟨h.1, KB_fr (fun c a b => hX c (by omega) b) h19 (fun c a b => hM c (by omega) b) h.2.1, fun k hk => ?_⟩
  obtain ⟨m1, m2, m3, m4⟩ := h.2.2 k hk
  refine ⟨by rw [hX 20 (by decide) (by decide), hM 46 (by decide) (by decide), m1], by rw [hX 21 (by decide) (by decide), hM 47 (by decide) (by decide), m2], by rw [hX 22 (by decide) (by decide), hM 48 (by decide) (by decide), m3], ?_⟩
  rw [hX 23 (by decide) (by decide), m4]
  unfold mcnt mE
  rw [hM 46 (by decide) (by decide), hM 47 (by decide) (by decide), h39 (8 * k + 7) (by omega), h39 (8 * k + 2) (by omega), h39 (8 * k + 5) (by omega)]
theorem KR_nb {X M M' : mj_X} {T T' : Nat → Nat} {e e' nb nb' : Nat} (he : e ≤ 41) (he' : e' ≤ 41) (h : KR X M T e nb) (h' : KR X M' T' e' nb') : nb = nb' := by
  have h1 := h.1
  have h2 := h'.1
  exact nI_ij (by omega) (by omega) (h.2.1.1.symm.trans h'.2.1.1)
theorem KR_nbM {X X' M : mj_X} {T T' : Nat → Nat} {e e' nb nb' : Nat} (he : e ≤ 41) (he' : e' ≤ 41) (h : KR X M T e nb) (h' : KR X' M T' e' nb') : nb = nb' := by
  have h1 := h.1
  have h2 := h'.1
  exact nI_ij (by omega) (by omega) (h.2.1.2.1.symm.trans h'.2.1.2.1)
theorem KR_T {X M : mj_X} {T T' : Nat → Nat} {e nb : Nat} (hT : ∀ j, j < e → T' j = T j) (h : KR X M T e nb) : KR X M T' e nb :=
  ⟨h.1, ⟨h.2.1.1, h.2.1.2.1, fun i hi => by
    obtain ⟨b1, b2, b3, b4, b5, b6, ⟨j, b7, b8, b9⟩, b10⟩ := h.2.1.2.2 i hi
    exact ⟨b1, b2, b3, b4, b5, b6, ⟨j, b7, b8, by rw [hT j b7]; exact b9⟩, b10⟩⟩, h.2.2⟩
theorem KR_swap {X Y M M' : mj_X} {T : Nat → Nat} {e n1 n2 n3 : Nat} (he : e ≤ 41) (h1 : KR X M T e n1) (h2 : KR Y M T e n2) (h3 : KR Y M' T e n3) : KR X M' T e n1 := by
  have e1 := KR_nbM he he h1 h2
  have e2 := KR_nb he he h2 h3
  subst e1; subst e2
  refine ⟨h1.1, ⟨h1.2.1.1, h3.2.1.2.1, fun i hi => ?_⟩, fun j hj => ?_⟩
  · obtain ⟨a1, a2, a3, a4, a5, a6, a7, -⟩ := h1.2.1.2.2 i hi
    obtain ⟨b1, b2, b3, b4, b5, b6, -⟩ := h2.2.1.2.2 i hi
    obtain ⟨c1, c2, c3, c4, c5, c6, -, c8⟩ := h3.2.1.2.2 i hi
    exact ⟨by rw [a1, ← b1, c1], by rw [a2, ← b2, c2], by rw [a3, ← b3, c3], by rw [a4, ← b4, c4], by rw [a5, ← b5, c5], by rw [a6, ← b6, c6], a7, c8⟩
  · obtain ⟨a1, a2, a3, a4⟩ := h1.2.2 j hj
    obtain ⟨b1, b2, b3, b4⟩ := h2.2.2 j hj
    obtain ⟨c1, c2, c3, c4⟩ := h3.2.2 j hj
    exact ⟨by rw [a1, ← b1, c1], by rw [a2, ← b2, c2], by rw [a3, ← b3, c3], by rw [a4, ← b4, c4]⟩
/-! what follows from the invariant -/
theorem IV_kr {x : mj_X} {len t k n s : Nat} {T O : Nat → Nat} (h : IV x len t k n s T O) : ∃ nb, KR x (mkn x n) T n nb := by
  obtain ⟨-, -, h3, h4, h5, h6, -⟩ := h
  unfold mkn
  by_cases h0 : x 37 15 = 0
  · rw [if_pos h0]
    obtain ⟨nb, q⟩ := h5.2 x h4.2.2.2.1 h4.2.2.2.2.1 h3.2.2.2
    refine ⟨nb, KR_fr (fun _ _ _ => rfl) ?_ (fun i _ => ?_) (fun c a b => ?_) q⟩
    · rw [up_eq, upd_ne (by decide)]
    · rw [up_ne (by decide)]
    · rw [up_ne (by omega)]
  · rw [if_neg h0]; exact h6 h0
theorem IV_mvd {x : mj_X} {len t k n s : Nat} {T O : Nat → Nat} (h : IV x len t k n s T O) : mvd x n := by
  obtain ⟨-, -, h3, h4, -⟩ := h
  obtain ⟨w, w1, w2, w3, w4⟩ := ru_w h4.2.2.2.2.1
  refine ⟨⟨w, w2, w4⟩, fun e he h0 => ?_⟩
  obtain ⟨a1, a2, a3, a4, a5, a6, a7, a8, a9⟩ := h4.2.2.2.1.1 e he
  have hk := h3.2.2.2.1
  refine ⟨⟨O e, by omega, ?_⟩, ?_⟩
  · unfold mon at a7; rw [if_pos h0] at a7; exact a7
  · obtain ⟨-, b2, ⟨c, hc, b3⟩, -⟩ := a9.resolve_right (fun q => by
      rw [a5, h0] at q
      rcases q.1 with q | q <;> exact absurd q (by decide))
    exact ⟨c, by omega, by rw [← b2]; exact b3⟩
theorem IV_CW {x : mj_X} {len t k n s nb : Nat} {T O : Nat → Nat} (h : IV x len t k n s T O) (hk : KR x (mkn x n) T n nb) : CW x n nb s k := by
  obtain ⟨-, -, h3, h4, h5, -, h7⟩ := h
  have h40 := h4.2.2.1
  have hb := hk.1
  refine ⟨h4.1, h40, hk.2.1.1, by omega, h7.1, h7.2.2.1, h3.1, h3.2.2.2.1, h3.2.2.1, h5.1, fun e he => ?_⟩
  obtain ⟨a1, a2, a3, a4, a5, a6, a7, a8, a9⟩ := h4.2.2.2.1.1 e he
  rcases a9 with ⟨q0, -, ⟨c, hc, b3⟩, -⟩ | q
  · exact ⟨c, k, h3.2.2.2.1, h3.1, hc, fun _ => b3⟩
  · exact ⟨0, k, h3.2.2.2.1, h3.1, h3.2.2.1, fun q0 => by
      rw [q0] at q
      rcases q.1 with q | q <;> exact absurd q (by decide)⟩
/-- knowing keeps the invariant -/
theorem IV_know {x : mj_X} {len t k n s : Nat} {T O : Nat → Nat} (h : IV x len t k n s T O) : IV (mkn x n) len t k n s T O := by
  obtain ⟨nb, hkr⟩ := IV_kr h
  obtain ⟨h1, h2, h3, h4, h5, h6, h7⟩ := h
  have f : ∀ c, c ≠ 37 → (c < 46 ∨ 54 < c) → mkn x n c = x c := fun c a b => mkn_k a b
  have g : ∀ i, i ≠ 19 → i ≠ 15 → mkn x n 37 i = x 37 i := fun i a b => mkn_37 a b
  have hsm : sm x (mkn x n) n := sm.cells (f 4 (by decide) (by omega)) (fun c a b => f c (by omega) (by omega))
  have f39 := f 39 (by decide) (by omega)
  refine ⟨?_, ?_, ?_, ?_, ?_, ?_, ?_⟩
  · unfold TX; rw [f 1 (by decide) (by omega), f 2 (by decide) (by omega), f 38 (by decide) (by omega), g 0 (by decide) (by decide)]; exact h1
  · unfold TD; rw [f 0 (by decide) (by omega), g 5 (by decide) (by decide)]; exact h2
  · unfold CD; rw [f 3 (by decide) (by omega), g 6 (by decide) (by decide)]
    exact ⟨h3.1, h3.2.1, h3.2.2.1, CO_fr (f 5 (by decide) (by omega)) (f 6 (by decide) (by omega)) (f 41 (by decide) (by omega)) (f 42 (by decide) (by omega)) h3.2.2.2⟩
  · unfold EN; rw [f 11 (by decide) (by omega), f39]
    exact ⟨h4.1, h4.2.1, h4.2.2.1, EV_fr (fun c a b => f c (by omega) (by omega)) f39 h4.2.2.2.1, RU_fr (f 4 (by decide) (by omega)) f39 h4.2.2.2.2.1, h4.2.2.2.2.2⟩
  · refine ⟨by rw [f 32 (by decide) (by omega)]; exact h5.1, fun M e1 e2 e3 => ?_⟩
    obtain ⟨m, q⟩ := h5.2 M (EV_fr (fun c a b => (f c (by omega) (by omega)).symm) rfl e1) (RU_fr (f 4 (by decide) (by omega)).symm rfl e2) (CO_fr (f 5 (by decide) (by omega)).symm (f 6 (by decide) (by omega)).symm rfl rfl e3)
    exact ⟨m, KR_fr (fun c a b => f c (by omega) (by omega)) rfl (fun _ _ => rfl) (fun _ _ _ => rfl) q⟩
  · intro _
    exact ⟨nb, KR_fr (fun c a b => f c (by omega) (by omega)) rfl (fun _ _ => rfl) (fun _ _ _ => rfl) hkr⟩
  · refine ⟨by rw [f 33 (by decide) (by omega)]; exact h7.1, by rw [g 4 (by decide) (by decide)]; exact h7.2.1, h7.2.2.1, ?_⟩
    refine UN_tr (h := 0) (Nat.le_refl t) s x _ n (fun i _ => ?_) (fun j i _ _ => ?_) hsm h7.2.2.2
    · rw [f 34 (by decide) (by omega), f 35 (by decide) (by omega), f 36 (by decide) (by omega)]; exact ⟨rfl, rfl, rfl⟩
    · rw [f 40 (by decide) (by omega)]; rfl
