/-! the reference's days, and the class's -/
theorem KB_BF {X M : mj_X} {T : Nat → Nat} {e nb : Nat} (hb : nb ≤ 82) (h : KB X M T e nb) : BF X nb (fun i => (M 50 i).toInt.toNat) (fun i => (mL M i).toInt.toNat) := by
  intro i hi
  have b := h.2.2 i hi
  have tl := mL_ti (by omega) b
  obtain ⟨b1, b2, b3, -, -, -, -, b8, b9, b10⟩ := b
  refine ⟨?_, ?_, ?_, ?_⟩
  · show X 26 i = nI (M 50 i).toInt.toNat
    rw [b2]; exact nI_ofT b8
  · show X 27 i = nI (mL M i).toInt.toNat
    rw [b3]; exact nI_ofT (by omega)
  · show (M 50 i).toInt.toNat ≤ (mL M i).toInt.toNat
    omega
  · show (mL M i).toInt.toNat ≤ 50000
    omega
theorem end_ok {X M : mj_X} {T : Nat → Nat} {e : Nat} {d : Int32} : ∀ n, n ≤ 82 → (∀ i, i < n → BR X M T e i) → ∃ w : Nat, (lp_f (menF M d) (-1) n).toInt = (w : Int) - 1 ∧ w ≤ 50001 ∧ ∀ i, i < n → X 25 i = d → (mL M i).toInt.toNat < w
  | 0, _, _ => ⟨0, by rw [lp_f, tl_m1]; omega, by omega, fun i hi => absurd hi (Nat.not_lt_zero i)⟩
  | n + 1, hn, h => by
    obtain ⟨w, h1, h2, h3⟩ := end_ok (d := d) n (by omega) (fun i hi => h i (by omega))
    have b := h n (by omega)
    have tl := mL_ti (by omega) b
    obtain ⟨b1, b2, b3, -, -, -, -, b8, b9, b10⟩ := b
    rw [lp_f]
    unfold menF
    rw [← b1]
    unfold menF at h1
    by_cases hc : X 25 n = d ∧ lp_f (fun b a => if M 49 b = d ∧ a < mL M b then mL M b else a) (-1) n < mL M n
    · rw [if_pos hc]
      have hl := hc.2
      rw [Int32.lt_iff_toInt_lt, h1] at hl
      refine ⟨(mL M n).toInt.toNat + 1, by omega, by omega, fun i hi q => ?_⟩
      by_cases e : i = n
      · subst e; omega
      · have := h3 i (by omega) q; omega
    · rw [if_neg hc]
      refine ⟨w, h1, h2, fun i hi q => ?_⟩
      by_cases e : i = n
      · subst e
        have : ¬ lp_f (fun b a => if M 49 b = d ∧ a < mL M b then mL M b else a) (-1) i < mL M i := fun r => hc ⟨q, r⟩
        rw [Int32.lt_iff_toInt_lt, h1] at this
        omega
      · exact h3 i (by omega) q
theorem mdf_eq {X M : mj_X} {T : Nat → Nat} {e nb : Nat} {d : Int32} (h : KB X M T e nb) (a : Nat) : ∀ K, lp_f (mdfF M nb d a) 0 K = nI (cN (fun j => hB X nb d (a + j)) K)
  | 0 => rfl
  | K + 1 => by
    rw [lp_f, mdf_eq h a K, mdfF, cN, ← any_eq d (nI (a + K)) h, ← hB]
    cases hB X nb d (a + K) with
    | true => rw [if_pos rfl, show bi true = nI 1 by decide, nI_add]
    | false => rw [if_neg (by decide), show bi false = 0 by decide, Int32.add_zero, Nat.add_zero]
theorem after_end {X M : mj_X} {T : Nat → Nat} {e nb w : Nat} {d : Int32} (hb : nb ≤ 82) (h : KB X M T e nb) (hw : ∀ i, i < nb → X 25 i = d → (mL M i).toInt.toNat < w) {a : Nat} (h1 : w ≤ a) (h2 : a ≤ 200000) : hB X nb d a = false := by
  rw [hB_no (KB_BF hb h) h2]
  intro i hi q _
  have := hw i hi q
  show (mL M i).toInt.toNat < a
  omega
theorem dall_eq {X M : mj_X} {T : Nat → Nat} {e nb w : Nat} {d : Int32} (hb : nb ≤ 82) (h : KB X M T e nb) (hw : ∀ i, i < nb → X 25 i = d → (mL M i).toInt.toNat < w) (hw2 : w ≤ 50001) : dall X nb d = lp_f (mdfF M nb d 0) 0 w := by
  unfold dall
  rw [mdf_eq h, show (99999 : Int32) = nI 99999 by decide, show (0 : Int32) = nI 0 by decide]
  rw [days_ok hb (KB_BF hb h) (by decide) 84 0 0 (by decide) (by rw [if_neg (by decide)]; exact Nat.le_trans (Nat.add_le_add_right (cN_le _ nb) 2) (by omega))]
  rw [show 99999 + 1 - 0 = w + (100000 - w) by omega, cN_add, cN_none (n := 100000 - w) (fun j hj => after_end hb h hw (by omega) (by omega)), Nat.zero_add, Nat.add_zero]
theorem mdok_of {X x : mj_X} {T : Nat → Nat} {e n nb : Nat} (d : Int32) (hvd : mvd x n) (hb : nb ≤ 82) (h : KB X (mkn x n) T e nb) : mdok x n d := by
  obtain ⟨w, h1, h2, h3⟩ := end_ok (d := d) nb hb h.2.2
  refine ⟨hvd, nb, w, hb, h.2.1, fun j hj => ?_, ?_⟩
  · rw [Int32.le_iff_toInt_le, h1, nI_toInt (by omega)]; omega
  · rw [Int32.lt_iff_toInt_lt, h1, nI_toInt (by omega)]; omega
theorem mdays_eq {X x : mj_X} {T : Nat → Nat} {e n nb : Nat} {d z : Int32} (hb : nb ≤ 82) (h : KB X (mkn x n) T e nb) (hz : mdays x n d z) : z = dall X nb d := by
  obtain ⟨w, h1, h2, h3⟩ := end_ok (d := d) nb hb h.2.2
  obtain ⟨nb2, K, ⟨q1, q2, q3, q4⟩, hz⟩ := hz
  have e1 : nb2 = nb := by
    have := q2.symm.trans h.2.1
    have := congrArg Int32.toInt this
    rw [nI_toInt (by omega), nI_toInt (by omega)] at this
    omega
  subst e1
  have e2 : K = w := by
    rw [Int32.lt_iff_toInt_lt, h1] at q4
    have hK : w ≤ K := by
      by_cases hl : K < w
      · rw [nI_toInt (by omega)] at q4; omega
      · omega
    by_cases hl : w < K
    · have := q3 w hl
      rw [Int32.le_iff_toInt_le, h1, nI_toInt (by omega)] at this
      omega
    · omega
  subst e2
  rw [hz, dall_eq hb h h3 h2]
