/-! the count of the days: the class leaps from ban to ban, the reference goes day by day -/
def cN (p : Nat → Bool) : Nat → Nat
  | 0 => 0
  | n + 1 => cN p n + (if p n = true then 1 else 0)
theorem cN_le (p : Nat → Bool) : ∀ n, cN p n ≤ n
  | 0 => Nat.le_refl 0
  | n + 1 => by have := cN_le p n; rw [cN]; split <;> omega
theorem cN_congr {p q : Nat → Bool} : ∀ {n : Nat}, (∀ j, j < n → p j = q j) → cN p n = cN q n
  | 0, _ => rfl
  | n + 1, h => by rw [cN, cN, cN_congr (fun j hj => h j (by omega)), h n (by omega)]
theorem cN_all {p : Nat → Bool} : ∀ {n : Nat}, (∀ j, j < n → p j = true) → cN p n = n
  | 0, _ => rfl
  | n + 1, h => by rw [cN, cN_all (fun j hj => h j (by omega)), if_pos (h n (by omega))]
theorem cN_none {p : Nat → Bool} : ∀ {n : Nat}, (∀ j, j < n → p j = false) → cN p n = 0
  | 0, _ => rfl
  | n + 1, h => by rw [cN, cN_none (fun j hj => h j (by omega)), if_neg (by rw [h n (by omega)]; decide)]
theorem cN_add (p : Nat → Bool) (m : Nat) : ∀ n, cN p (m + n) = cN p m + cN (fun j => p (m + j)) n
  | 0 => rfl
  | n + 1 => by rw [← Nat.add_assoc, cN, cN, cN_add p m n, Nat.add_assoc]
theorem cN_mono {p q : Nat → Bool} : ∀ {n : Nat}, (∀ j, j < n → q j = true → p j = true) → cN q n ≤ cN p n
  | 0, _ => Nat.le_refl 0
  | n + 1, h => by
    have h1 := cN_mono (n := n) (fun j hj => h j (by omega))
    have h2 := h n (by omega)
    rw [cN, cN]
    by_cases hq : q n = true
    · rw [if_pos hq, if_pos (h2 hq)]; omega
    · rw [if_neg hq]; omega
theorem cN_lt {p q : Nat → Bool} : ∀ {n : Nat}, (∀ j, j < n → q j = true → p j = true) → (∃ j, j < n ∧ p j = true ∧ q j = false) → cN q n < cN p n
  | 0, _, ⟨j, hj, _⟩ => absurd hj (Nat.not_lt_zero j)
  | n + 1, h, ⟨j, hj, h1, h2⟩ => by
    rw [cN, cN]
    by_cases hjn : j = n
    · subst hjn
      have := cN_mono (n := j) (fun i hi => h i (by omega))
      rw [if_pos h1, if_neg (by rw [h2]; decide)]; omega
    · have := cN_lt (n := n) (fun i hi => h i (by omega)) ⟨j, by omega, h1, h2⟩
      have h3 := h n (by omega)
      by_cases hq : q n = true
      · rw [if_pos hq, if_pos (h3 hq)]; omega
      · rw [if_neg hq]; omega
def BF (X : mj_X) (nb : Nat) (f l : Nat → Nat) : Prop := ∀ i, i < nb → X 26 i = nI (f i) ∧ X 27 i = nI (l i) ∧ f i ≤ l i ∧ l i ≤ 50000
theorem bh_iff {X : mj_X} {nb : Nat} {f l : Nat → Nat} (h : BF X nb f l) {d : Int32} {a i : Nat} (ha : a ≤ 200000) (hi : i < nb) : bn_has X d (nI a) i = true ↔ X 25 i = d ∧ f i ≤ a ∧ a ≤ l i := by
  obtain ⟨h1, h2, h3, h4⟩ := h i hi
  unfold bn_has
  rw [decide_eq_true_eq, h1, h2, nI_leI (by omega) (by omega), nI_leI (by omega) (by omega)]
theorem beh_ok {X : mj_X} {nb : Nat} {f l : Nat → Nat} (h : BF X nb f l) {d : Int32} {a : Nat} (ha : a ≤ 200000) : ∀ n, n ≤ nb → ∃ B, lp_f (bn_behF X d (nI a)) (nI a) n = nI B ∧ a ≤ B ∧ (∀ i, i < n → bn_has X d (nI a) i = true → l i + 1 ≤ B) ∧ (B = a ∨ ∃ i, i < n ∧ bn_has X d (nI a) i = true ∧ B = l i + 1)
  | 0, _ => ⟨a, rfl, Nat.le_refl a, fun i hi => absurd hi (Nat.not_lt_zero i), Or.inl rfl⟩
  | n + 1, hn => by
    obtain ⟨B, h1, h2, h3, h4⟩ := beh_ok h (d := d) ha n (by omega)
    obtain ⟨b1, b2, b3, b4⟩ := h n (by omega)
    have hB : B ≤ 200001 := by
      rcases h4 with h4 | ⟨i, hi, q, h4⟩
      · omega
      · have := h i (by omega); omega
    rw [lp_f, h1]
    unfold bn_behF
    by_cases hh : bn_has X d (nI a) n = true
    · rw [if_pos hh, b2, nI_1]
      simp only [show nI B < nI (l n + 1) ↔ B < l n + 1 from nI_ltI (by omega) (by omega)]
      by_cases hl : B < l n + 1
      · rw [if_pos hl]
        refine ⟨l n + 1, rfl, by omega, fun i hi q => ?_, Or.inr ⟨n, by omega, hh, rfl⟩⟩
        by_cases e : i = n
        · subst e; omega
        · have := h3 i (by omega) q; omega
      · rw [if_neg hl]
        refine ⟨B, rfl, h2, fun i hi q => ?_, ?_⟩
        · by_cases e : i = n
          · subst e; omega
          · exact h3 i (by omega) q
        · rcases h4 with h4 | ⟨i, hi, q, h4⟩
          · exact Or.inl h4
          · exact Or.inr ⟨i, by omega, q, h4⟩
    · rw [if_neg hh]
      refine ⟨B, rfl, h2, fun i hi q => ?_, ?_⟩
      · by_cases e : i = n
        · subst e; exact absurd q hh
        · exact h3 i (by omega) q
      · rcases h4 with h4 | ⟨i, hi, q, h4⟩
        · exact Or.inl h4
        · exact Or.inr ⟨i, by omega, q, h4⟩
theorem nxt_ok {X : mj_X} {nb : Nat} {f l : Nat → Nat} (h : BF X nb f l) {d : Int32} {c o : Nat} (hc : c ≤ 200000) (ho : o ≤ 200000) : ∀ n, n ≤ nb → ∃ N, lp_f (bn_nextF X d (nI c)) (nI o) n = nI N ∧ N ≤ o ∧ (∀ i, i < n → X 25 i = d → c < f i → N ≤ f i) ∧ (N = o ∨ ∃ i, i < n ∧ X 25 i = d ∧ c < f i ∧ N = f i)
  | 0, _ => ⟨o, rfl, Nat.le_refl o, fun i hi => absurd hi (Nat.not_lt_zero i), Or.inl rfl⟩
  | n + 1, hn => by
    obtain ⟨N, h1, h2, h3, h4⟩ := nxt_ok h (d := d) hc ho n (by omega)
    obtain ⟨b1, b2, b3, b4⟩ := h n (by omega)
    rw [lp_f, h1]
    unfold bn_nextF
    rw [b1]
    simp only [show nI c < nI (f n) ↔ c < f n from nI_ltI (by omega) (by omega), show nI (f n) < nI N ↔ f n < N from nI_ltI (by omega) (by omega)]
    by_cases hh : X 25 n = d ∧ c < f n
    · rw [if_pos hh]
      by_cases hl : f n < N
      · rw [if_pos hl]
        refine ⟨f n, rfl, by omega, fun i hi q r => ?_, Or.inr ⟨n, by omega, hh.1, hh.2, rfl⟩⟩
        by_cases e : i = n
        · subst e; omega
        · have := h3 i (by omega) q r; omega
      · rw [if_neg hl]
        refine ⟨N, rfl, h2, fun i hi q r => ?_, ?_⟩
        · by_cases e : i = n
          · subst e; omega
          · exact h3 i (by omega) q r
        · rcases h4 with h4 | ⟨i, hi, q, r, h4⟩
          · exact Or.inl h4
          · exact Or.inr ⟨i, by omega, q, r, h4⟩
    · rw [if_neg hh]
      refine ⟨N, rfl, h2, fun i hi q r => ?_, ?_⟩
      · by_cases e : i = n
        · subst e; exact absurd ⟨q, r⟩ hh
        · exact h3 i (by omega) q r
      · rcases h4 with h4 | ⟨i, hi, q, r, h4⟩
        · exact Or.inl h4
        · exact Or.inr ⟨i, by omega, q, r, h4⟩
/-- is the driver banned on day a -/
def hB (X : mj_X) (nb : Nat) (d : Int32) (a : Nat) : Bool := lp_any (bn_has X d (nI a)) nb
theorem hB_iff {X : mj_X} {nb : Nat} {f l : Nat → Nat} (h : BF X nb f l) {d : Int32} {a : Nat} (ha : a ≤ 200000) : hB X nb d a = true ↔ ∃ i, i < nb ∧ X 25 i = d ∧ f i ≤ a ∧ a ≤ l i := by
  unfold hB
  rw [lp_any_iff]
  constructor
  · rintro ⟨i, hi, q⟩; exact ⟨i, hi, (bh_iff h ha hi).mp q⟩
  · rintro ⟨i, hi, q⟩; exact ⟨i, hi, (bh_iff h ha hi).mpr q⟩
theorem hB_no {X : mj_X} {nb : Nat} {f l : Nat → Nat} (h : BF X nb f l) {d : Int32} {a : Nat} (ha : a ≤ 200000) : hB X nb d a = false ↔ ∀ i, i < nb → X 25 i = d → f i ≤ a → l i < a := by
  constructor
  · intro q i hi h1 h2
    have : ¬ a ≤ l i := fun r => by rw [(hB_iff h ha).mpr ⟨i, hi, h1, h2, r⟩] at q; exact absurd q (by decide)
    omega
  · intro q
    have : ¬ hB X nb d a = true := fun r => by
      obtain ⟨i, hi, h1, h2, h3⟩ := (hB_iff h ha).mp r
      have := q i hi h1 h2
      omega
    simpa using this
theorem free_ok {X : mj_X} {nb : Nat} {f l : Nat → Nat} (h : BF X nb f l) {d : Int32} : ∀ s a, a ≤ 100001 → cN (fun i => decide (X 25 i = d ∧ a ≤ l i)) nb < s → ∃ K, bn_free X nb d s (nI a) = nI (a + K) ∧ (a + K = a ∨ a + K ≤ 50001) ∧ (∀ j, j < K → hB X nb d (a + j) = true) ∧ hB X nb d (a + K) = false
  | 0, _, _, hs => absurd hs (Nat.not_lt_zero _)
  | s + 1, a, ha, hs => by
    obtain ⟨B, h1, h2, h3, h4⟩ := beh_ok h (d := d) (a := a) (by omega) nb (Nat.le_refl nb)
    rw [bn_free, bn_beh, h1]
    by_cases hBa : B = a
    · subst hBa
      rw [if_pos rfl]
      refine ⟨0, rfl, Or.inl rfl, fun j hj => absurd hj (Nat.not_lt_zero j), ?_⟩
      rw [Nat.add_zero, hB_no h (by omega)]
      intro i hi q1 q2
      by_cases q3 : B ≤ l i
      · have := h3 i hi ((bh_iff h (by omega) hi).mpr ⟨q1, q2, q3⟩); omega
      · omega
    · obtain ⟨i, hi, q, h5⟩ := h4.resolve_left hBa
      obtain ⟨b1, b2, b3, b4⟩ := h i hi
      obtain ⟨q1, q2, q3⟩ := (bh_iff h (by omega) hi).mp q
      rw [if_neg (fun e => by
        have := congrArg Int32.toInt e
        rw [nI_toInt (by omega), nI_toInt (by omega)] at this
        omega)]
      have hlt : cN (fun i => decide (X 25 i = d ∧ B ≤ l i)) nb < cN (fun i => decide (X 25 i = d ∧ a ≤ l i)) nb := by
        refine cN_lt (fun j hj r => ?_) ⟨i, hi, ?_, ?_⟩
        · rw [decide_eq_true_eq] at r ⊢; exact ⟨r.1, by omega⟩
        · rw [decide_eq_true_eq]; exact ⟨q1, q3⟩
        · rw [decide_eq_false_iff_not]; intro r; omega
      obtain ⟨K, k1, k2, k3, k4⟩ := free_ok h (d := d) s B (by omega) (by omega)
      refine ⟨B - a + K, by rw [k1, show a + (B - a + K) = B + K by omega], Or.inr (by omega), fun j hj => ?_, by rw [show a + (B - a + K) = B + K by omega]; exact k4⟩
      by_cases hj2 : j < B - a
      · rw [hB_iff h (by omega)]
        exact ⟨i, hi, q1, by omega, by omega⟩
      · have := k3 (j - (B - a)) (by omega)
        rw [show B + (j - (B - a)) = a + j by omega] at this
        exact this
theorem days_ok {X : mj_X} {nb : Nat} {f l : Nat → Nat} (hnb : nb ≤ 82) (h : BF X nb f l) {d : Int32} {b : Nat} (hb : b ≤ 99999) : ∀ s a tot, a ≤ b + 1 → (if a = b + 1 then 1 else cN (fun i => decide (X 25 i = d ∧ a < f i)) nb + 2) ≤ s → bn_days X nb d (nI b) s (nI tot) (nI a) = nI (tot + cN (fun j => hB X nb d (a + j)) (b + 1 - a))
  | 0, a, tot, ha, hs => by split at hs <;> omega
  | s + 1, a, tot, ha, hs => by
    rw [bn_days]
    simp only [show nI b < nI a ↔ b < a from nI_ltI (by omega) (by omega)]
    by_cases hab : b < a
    · rw [if_pos hab, show b + 1 - a = 0 by omega, cN, Nat.add_zero]
    · rw [if_neg hab]
      rw [if_neg (by omega)] at hs
      obtain ⟨K, k1, k2, k3, k4⟩ := free_ok h (d := d) 83 a (by omega) (by have := cN_le (fun i => decide (X 25 i = d ∧ a ≤ l i)) nb; omega)
      obtain ⟨N, n1, n2, n3, n4⟩ := nxt_ok h (d := d) (c := a + K) (o := b + 1) (by omega) (by omega) nb (Nat.le_refl nb)
      rw [k1, nI_1, bn_next, n1]
      simp only [show nI (b + 1) < nI (a + K) ↔ b + 1 < a + K from nI_ltI (by omega) (by omega)]
      have hN : a < N := by
        rcases n4 with n4 | ⟨i, hi, q1, q2, n4⟩ <;> omega
      have e1 : (if b + 1 < a + K then nI (b + 1) else nI (a + K)) = nI (if b + 1 < a + K then b + 1 else a + K) := by split <;> rfl
      have hms : (if N = b + 1 then 1 else cN (fun i => decide (X 25 i = d ∧ N < f i)) nb + 2) ≤ s := by
        by_cases hNb : N = b + 1
        · rw [if_pos hNb]; omega
        · rw [if_neg hNb]
          obtain ⟨i, hi, q1, q2, q3⟩ := n4.resolve_left hNb
          have : cN (fun i => decide (X 25 i = d ∧ N < f i)) nb < cN (fun i => decide (X 25 i = d ∧ a < f i)) nb := by
            refine cN_lt (fun j hj r => ?_) ⟨i, hi, ?_, ?_⟩
            · rw [decide_eq_true_eq] at r ⊢; exact ⟨r.1, by omega⟩
            · rw [decide_eq_true_eq]; exact ⟨q1, by omega⟩
            · rw [decide_eq_false_iff_not]; intro r; omega
          omega
      have e2 : ∀ m : Nat, a ≤ m → m ≤ 200000 → nI tot + (nI m - nI a) = nI (tot + (m - a)) := fun m h1 h2 => by
        rw [show nI m - nI a = nI (m - a) by
          rw [← Int32.toInt_inj, ti_sub (by rw [nI_toInt (by omega), nI_toInt (by omega)]; omega) (by rw [nI_toInt (by omega), nI_toInt (by omega)]; omega), nI_toInt (by omega), nI_toInt (by omega), nI_toInt (by omega)]; omega, nI_add]
      rw [e1, e2 _ (by split <;> omega) (by split <;> omega), days_ok hnb h hb s N _ n2 hms]
      congr 1
      by_cases hc : b + 1 < a + K
      · rw [if_pos hc]
        have hNb : N = b + 1 := by
          rcases n4 with n4 | ⟨i, hi, q1, q2, n4⟩ <;> omega
        rw [hNb, show b + 1 - (b + 1) = 0 by omega, cN, cN_all (fun j hj => k3 j (by omega))]
        omega
      · rw [if_neg hc, show b + 1 - a = K + ((N - (a + K)) + (b + 1 - N)) by
          have : a + K ≤ N := by rcases n4 with n4 | ⟨i, hi, q1, q2, n4⟩ <;> omega
          omega, cN_add, cN_add, cN_all (fun j hj => k3 j hj), cN_none (n := N - (a + K)) (fun j hj => ?_)]
        · have : a + K ≤ N := by rcases n4 with n4 | ⟨i, hi, q1, q2, n4⟩ <;> omega
          rw [cN_congr (p := fun j => hB X nb d (a + (K + (N - (a + K) + j)))) (q := fun j => hB X nb d (N + j)) (fun j _ => by rw [show a + (K + (N - (a + K) + j)) = N + j by omega])]
          omega
        · show hB X nb d (a + (K + j)) = false
          rw [hB_no h (by omega)]
          intro i hi q1 q2
          have z := (hB_no h (by omega)).mp k4 i hi q1
          by_cases hfi : f i ≤ a + K
          · have := z hfi; omega
          · have := n3 i hi q1 (by omega); omega
