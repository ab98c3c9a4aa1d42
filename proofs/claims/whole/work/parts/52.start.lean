/-! the invariant holds behind the two constructors -/
def tz (i : Nat) : Int32 := [60, 12, 10, 150, 120, 90].getD i 0
def tzp (i : Nat) : Int32 := [3, 6, 4, 9].getD i 0
def tzb (i : Nat) : Int32 := [0, 0, 5, 20].getD i 0
def tz_ok (r : (Nat × Int32) ⊕ tx_P) : Bool := match r with
  | .inl _ => false
  | .inr s => s.2.2.2.2 == 4 && (List.range 6).all (fun i => s.2.1 i == tz i) && (List.range 4).all (fun i => s.2.2.1 i == tzp i && s.2.2.2.1 i == tzb i)
set_option maxRecDepth 100000 in
theorem tz_all : tz_ok (tx_all (tx_pk (fun i => txB.getD i 0) 46) 46 200 tx_in) = true := by decide +kernel
theorem tz_spec {r : (Nat × Int32) ⊕ tx_P} (h : tz_ok r = true) : ∃ s, r = .inr s ∧ s.2.2.2.2 = 4 ∧ (∀ i, i < 6 → s.2.1 i = tz i) ∧ ∀ i, i < 4 → s.2.2.1 i = tzp i ∧ s.2.2.2.1 i = tzb i := by
  cases r with
  | inl e => exact absurd h (by simp [tz_ok])
  | inr s =>
    refine ⟨s, rfl, ?_⟩
    unfold tz_ok at h
    simp only [Bool.and_eq_true, List.all_eq_true, List.mem_range, beq_iff_eq] at h
    exact ⟨h.1.1, h.1.2, h.2⟩
/-- what the class's constructor leaves -/
theorem XP_spec {y : mj_X} (h : XP y) : y 1 1 = 0 ∧ y 3 3 = nI 4 ∧ (∀ i, i < 6 → y 4 i = tz i) ∧ (∀ i, i < 4 → y 5 i = tzp i ∧ y 6 i = tzb i) ∧ ∀ k, (k = 0 ∨ 6 < k) → y k = fun _ => 0 := by
  obtain ⟨x, w, ⟨h1, h2, h3⟩, hA, rfl⟩ := h
  have e : tx_pk (x 2) 46 = tx_pk (fun i => txB.getD i 0) 46 := by
    funext a
    unfold tx_pk
    by_cases ha : a < 46
    · rw [if_pos ha, if_pos ha, h2 a ha]
    · rw [if_neg ha, if_neg ha]
  rw [e] at hA
  obtain ⟨s, hs, s1, s2, s3⟩ := tz_spec tz_all
  rw [hs] at hA
  obtain ⟨pl, a1, a2, a3, a4, a5, a6, a7, a8, a9⟩ := hA
  refine ⟨by rw [up_eq, upd_eq], by rw [up_ne (by decide), a6, s1], fun i hi => ?_, fun i hi => ?_, fun k hk => ?_⟩
  · rw [up_ne (by decide)]
    exact (a4 i hi).trans (s2 i hi)
  · rw [up_ne (by decide), up_ne (by decide)]
    have := a5 i (by rw [s1]; exact hi)
    exact ⟨this.1.trans (s3 i hi).1, this.2.trans (s3 i hi).2⟩
  · rw [up_ne (by omega), a9 k (by omega) (by omega) (by omega) (by omega) (by omega), h3 k (by omega) (by omega)]
theorem mxc_k {z : mj_X} {k : Nat} {p b : Int32} {c : Nat} (h1 : c ≠ 37) (h2 : c ≠ 44) (h3 : c ≠ 45) : mxc z k p b c = z c := by
  unfold mxc; rw [up_ne h1, up_ne h3, up_ne h2]
theorem mxc_37 {z : mj_X} {k : Nat} {p b : Int32} {i : Nat} (h : i ≠ 10) : mxc z k p b 37 i = z 37 i := by
  unfold mxc; rw [up_eq, upd_ne h, up_ne (by decide), up_ne (by decide)]
theorem mxr_k {z : mj_X} {c : Nat} (h : c ≠ 43) : mxr z c = z c := by
  unfold mxr; rw [up_ne h, up_ne h, up_ne h, up_ne h, up_ne h, up_ne h]
theorem mxr_43 {z : mj_X} : ∀ i, i < 6 → mxr z 43 i = tz i := by
  intro i hi
  unfold mxr
  rcases (show i = 0 ∨ i = 1 ∨ i = 2 ∨ i = 3 ∨ i = 4 ∨ i = 5 by omega) with rfl | rfl | rfl | rfl | rfl | rfl <;> simp [up_at, tz]
theorem mxc_cd {z : mj_X} : ∀ i, i < 4 → mxc (mxc (mxc (mxc z 0 3 0) 1 6 0) 2 4 5) 3 9 20 44 i = tzp i ∧ mxc (mxc (mxc (mxc z 0 3 0) 1 6 0) 2 4 5) 3 9 20 45 i = tzb i := by
  intro i hi
  unfold mxc
  rcases (show i = 0 ∨ i = 1 ∨ i = 2 ∨ i = 3 by omega) with rfl | rfl | rfl | rfl <;> simp [up_at, tzp, tzb]
/-- what the reference's constructor leaves -/
theorem XM_spec {y z : mj_X} (h : XM y z) : (∀ k, k < 37 → z k = y k) ∧ z 37 0 = 0 ∧ z 37 4 = 0 ∧ z 37 5 = 0 ∧ z 37 6 = nI 4 ∧ z 37 15 = 0 ∧ z 39 334 = 0 ∧ (∀ i, i < 6 → z 39 (328 + i) = tz i) ∧ ∀ i, i < 4 → z 41 i = tzp i ∧ z 42 i = tzb i := by
  obtain ⟨z1, ⟨-, -, a1, a2⟩, b1, b2, b3, b4, b5, b6, b7, b8, b9, b10⟩ := h
  refine ⟨fun k hk => ?_, ?_, b6, b7, b5, b8, b3, fun i hi => ?_, fun i hi => ?_⟩
  · rw [b10 k (by omega) (by omega) (by omega) (by omega), mxc_k (by omega) (by omega) (by omega), mxc_k (by omega) (by omega) (by omega), mxc_k (by omega) (by omega) (by omega), mxc_k (by omega) (by omega) (by omega), mxr_k (by omega), a2 k (by omega) (by omega)]
    exact if_pos hk
  · rw [b9 0 (by decide) (by decide) (by decide) (by decide), mxc_37 (by decide), mxc_37 (by decide), mxc_37 (by decide), mxc_37 (by decide), mxr_k (by decide), a1 0 (by decide)]
    rfl
  · rw [b2 i hi, mxc_k (by decide) (by decide) (by decide), mxc_k (by decide) (by decide) (by decide), mxc_k (by decide) (by decide) (by decide), mxc_k (by decide) (by decide) (by decide)]
    exact mxr_43 i hi
  · obtain ⟨c1, c2⟩ := b4 i (by omega)
    rw [c1, c2, if_pos hi, if_pos hi]
    exact mxc_cd i hi
theorem tz_ru : ∀ i, i < 6 → (mj_st0 i).toInt ≤ (tz i).toInt ∧ (tz i).toInt ≤ (mj_st1 i).toInt := by decide +kernel
theorem tz_co : ∀ i, i < 4 → 0 ≤ (tzp i).toInt ∧ (tzp i).toInt ≤ 9 ∧ 0 ≤ (tzb i).toInt ∧ (tzb i).toInt ≤ 99 := by decide +kernel
theorem Inv_0 {y z : mj_X} (h : XP y) (g : XM y z) : Inv z := by
  obtain ⟨x1, x2, x3, x4, x5⟩ := XP_spec h
  obtain ⟨g1, g2, g3, g4, g5, g6, g7, g8, g9⟩ := XM_spec g
  have z0 : ∀ k, (k = 0 ∨ 6 < k) → k < 37 → z k = fun _ => 0 := fun k a b => by rw [g1 k b, x5 k a]
  refine ⟨0, 0, 4, 0, 0, fun _ => 0, fun _ => 0, ⟨?_, ?_, by decide, fun i hi => absurd hi (Nat.not_lt_zero i)⟩, ⟨?_, ?_, by decide⟩, ⟨?_, g5, by decide, by decide, fun i hi => ?_⟩, ⟨?_, ?_, by decide, ⟨fun j hj => absurd hj (Nat.not_lt_zero j), fun _ _ _ hj => absurd hj (Nat.not_lt_zero _)⟩, fun i hi => ?_, fun j hj => absurd hj (Nat.not_lt_zero j)⟩, ⟨?_, fun M _ _ _ => ⟨0, Nat.le_refl _, ⟨?_, ?_, fun i hi => absurd hi (Nat.not_lt_zero i)⟩, fun k hk => absurd hk (Nat.not_lt_zero k)⟩⟩, fun q => absurd g6 q, ⟨?_, ?_, by decide, trivial⟩⟩
  · rw [g1 1 (by decide), x1, nI_0]
  · rw [g2, nI_0]
  · rw [z0 0 (by omega) (by decide), nI_0]
  · rw [g4, nI_0]
  · rw [g1 3 (by decide), x2]
  · rw [g1 5 (by decide), g1 6 (by decide), (x4 i hi).1, (x4 i hi).2, (g9 i hi).1, (g9 i hi).2]
    exact ⟨rfl, rfl, tz_co i hi⟩
  · rw [z0 11 (by omega) (by decide), nI_0]
  · rw [g7, nI_0]
  · rw [g8 i hi, g1 4 (by decide), x3 i hi]
    exact ⟨rfl, tz_ru i hi⟩
  · rw [z0 32 (by omega) (by decide), nI_0]
  · rw [z0 24 (by omega) (by decide), nI_0]
  · show mclr M 0 37 19 = _
    rw [mclr_0, up_eq, upd_eq, nI_0]
  · rw [z0 33 (by omega) (by decide), nI_0]
  · rw [g3, nI_0]
