/-! plain facts of folds and of windows -/
theorem lp_f_congr {α : Type} {f g : Nat → α → α} {a : α} : ∀ {n : Nat}, (∀ i r, i < n → f i r = g i r) → lp_f f a n = lp_f g a n
  | 0, _ => rfl
  | n + 1, h => by rw [lp_f, lp_f, lp_f_congr (fun i r hi => h i r (by omega)), h n _ (by omega)]
theorem lp_any_congr {p q : Nat → Bool} : ∀ {n : Nat}, (∀ i, i < n → p i = q i) → lp_any p n = lp_any q n
  | 0, _ => rfl
  | n + 1, h => by rw [lp_any, lp_any, lp_any_congr (fun i hi => h i (by omega)), h n (by omega)]
theorem lp_find_congr {p q : Nat → Bool} : ∀ (k j : Nat), (∀ i, j ≤ i → i < j + k → p i = q i) → lp_find p k j = lp_find q k j
  | 0, _, _ => rfl
  | k + 1, j, h => by rw [lp_find, lp_find, h j (by omega) (by omega), lp_find_congr k (j + 1) (fun i h1 h2 => h i (by omega) (by omega))]
theorem ti_add {a b : Int32} (h1 : -2147483648 ≤ a.toInt + b.toInt) (h2 : a.toInt + b.toInt < 2147483648) : (a + b).toInt = a.toInt + b.toInt := by
  rw [Int32.toInt_add]; simp only [Int.bmod_def]; omega
theorem ti_sub {a b : Int32} (h1 : -2147483648 ≤ a.toInt - b.toInt) (h2 : a.toInt - b.toInt < 2147483648) : (a - b).toInt = a.toInt - b.toInt := by
  rw [Int32.toInt_sub]; simp only [Int.bmod_def]; omega
theorem ti_mul {a b : Int32} (h1 : -2147483648 ≤ a.toInt * b.toInt) (h2 : a.toInt * b.toInt < 2147483648) : (a * b).toInt = a.toInt * b.toInt := by
  rw [Int32.toInt_mul]; simp only [Int.bmod_def]; omega
/-- a sum over the events of integers -/
def sI (g : Nat → Int) : Nat → Int
  | 0 => 0
  | n + 1 => sI g n + g n
theorem sI_le {f g : Nat → Int} : ∀ {n : Nat}, (∀ i, i < n → f i ≤ g i) → sI f n ≤ sI g n
  | 0, _ => Int.le_refl 0
  | n + 1, h => by
    have h1 := sI_le (n := n) (fun i hi => h i (by omega))
    have h2 := h n (by omega)
    rw [sI, sI]; omega
theorem sI_bd {f : Nat → Int} {B : Nat} : ∀ {n : Nat}, (∀ i, i < n → -(B : Int) ≤ f i ∧ f i ≤ B) → -((n * B : Nat) : Int) ≤ sI f n ∧ sI f n ≤ ((n * B : Nat) : Int)
  | 0, _ => by simp [sI]
  | n + 1, h => by
    have h1 := sI_bd (n := n) (fun i hi => h i (by omega))
    have h2 := h n (by omega)
    rw [sI, Nat.succ_mul]; omega
/-- a window that begins at f, w days long, over events on days o with weights g of those that are meant -/
def wT (dv : Nat → Bool) (o g : Nat → Int) (w f : Int) (j : Nat) : Int := if dv j = true ∧ f ≤ o j ∧ o j ≤ f + w - 1 then g j else 0
def wS (dv : Nat → Bool) (o g : Nat → Int) (w : Int) (n : Nat) (f : Int) : Int := sI (wT dv o g w f) n
/-- one day on: no more, unless an event's own beginning is there -/
theorem wS_step {dv cv : Nat → Bool} {o g : Nat → Int} {w f : Int} {n : Nat} (hw : 1 ≤ w) (hg : ∀ j, j < n → (cv j = true → 0 ≤ g j) ∧ (cv j = false → g j ≤ 0))
    (hno : ∀ j, j < n → dv j = true → ¬ (if cv j = true then o j - w + 1 else o j + 1) = f) : wS dv o g w n f ≤ wS dv o g w n (f - 1) := by
  refine sI_le (fun j hj => ?_)
  unfold wT
  have h1 := hno j hj
  obtain ⟨h2, h3⟩ := hg j hj
  cases hd : dv j with
  | false => simp
  | true =>
    have h1 := h1 hd
    cases hc : cv j with
    | true =>
      rw [if_pos hc] at h1
      have h2 := h2 hc
      simp only [true_and]
      split <;> split <;> omega
    | false =>
      rw [if_neg (by rw [hc]; decide)] at h1
      have h3 := h3 hc
      simp only [true_and]
      split <;> split <;> omega
/-- each window is no heavier than one that begins at the earliest day or at an event's own beginning, both in the range -/
theorem wS_cand {dv cv : Nat → Bool} {o g : Nat → Int} {w E : Int} {n : Nat} (hw : 1 ≤ w) (hg : ∀ j, j < n → (cv j = true → 0 ≤ g j) ∧ (cv j = false → g j ≤ 0)) :
    ∀ k : Nat, wS dv o g w n (E + k) ≤ wS dv o g w n E ∨ ∃ j, j < n ∧ dv j = true ∧ E < (if cv j = true then o j - w + 1 else o j + 1) ∧ (if cv j = true then o j - w + 1 else o j + 1) ≤ E + k ∧ wS dv o g w n (E + k) ≤ wS dv o g w n (if cv j = true then o j - w + 1 else o j + 1)
  | 0 => by left; rw [show E + ((0 : Nat) : Int) = E by omega]; exact Int.le_refl _
  | k + 1 => by
    by_cases hex : ∃ j, j < n ∧ dv j = true ∧ (if cv j = true then o j - w + 1 else o j + 1) = E + ((k + 1 : Nat) : Int)
    · obtain ⟨j, h1, h2, h3⟩ := hex
      right
      exact ⟨j, h1, h2, by rw [h3]; omega, by rw [h3]; omega, by rw [h3]; exact Int.le_refl _⟩
    · have hs := wS_step (f := E + ((k + 1 : Nat) : Int)) hw hg (fun j hj hd he => hex ⟨j, hj, hd, he⟩)
      rw [show E + ((k + 1 : Nat) : Int) - 1 = E + (k : Int) by omega] at hs
      rcases wS_cand (dv := dv) (o := o) (E := E) hw hg k with h | ⟨j, h1, h2, h3, h4, h5⟩
      · left; omega
      · right; exact ⟨j, h1, h2, h3, by omega, by omega⟩
/-- the most of a fold of maxima, beginning at a -/
theorem lp_max {F : Nat → Int32 → Int32} {ok : Nat → Prop} {v : Nat → Int32} {a : Int32} : ∀ {n : Nat}, (∀ i r, i < n → (ok i → F i r = if r < v i then v i else r) ∧ (¬ ok i → F i r = r)) →
    (a.toInt ≤ (lp_f F a n).toInt ∧ ∀ i, i < n → ok i → (v i).toInt ≤ (lp_f F a n).toInt) ∧ (lp_f F a n = a ∨ ∃ i, i < n ∧ ok i ∧ lp_f F a n = v i)
  | 0, _ => ⟨⟨Int.le_refl _, fun i hi => absurd hi (Nat.not_lt_zero i)⟩, Or.inl rfl⟩
  | n + 1, h => by
    obtain ⟨⟨h1, h2⟩, h3⟩ := lp_max (F := F) (ok := ok) (v := v) (a := a) (n := n) (fun i r hi => h i r (by omega))
    obtain ⟨g1, g2⟩ := h n (lp_f F a n) (by omega)
    rw [lp_f]
    by_cases hk : ok n
    · rw [g1 hk]
      by_cases hlt : lp_f F a n < v n
      · rw [if_pos hlt]
        have hlt2 := Int32.lt_iff_toInt_lt.mp hlt
        refine ⟨⟨by omega, fun i hi ho => ?_⟩, Or.inr ⟨n, by omega, hk, rfl⟩⟩
        by_cases e : i = n
        · subst e; exact Int.le_refl _
        · have := h2 i (by omega) ho; omega
      · rw [if_neg hlt]
        have hlt2 : ¬ (lp_f F a n).toInt < (v n).toInt := fun q => hlt (Int32.lt_iff_toInt_lt.mpr q)
        refine ⟨⟨h1, fun i hi ho => ?_⟩, ?_⟩
        · by_cases e : i = n
          · subst e; omega
          · exact h2 i (by omega) ho
        · rcases h3 with h3 | ⟨i, a1, a2, a3⟩
          · exact Or.inl h3
          · exact Or.inr ⟨i, by omega, a2, a3⟩
    · rw [g2 hk]
      refine ⟨⟨h1, fun i hi ho => ?_⟩, ?_⟩
      · by_cases e : i = n
        · subst e; exact absurd ho hk
        · exact h2 i (by omega) ho
      · rcases h3 with h3 | ⟨i, a1, a2, a3⟩
        · exact Or.inl h3
        · exact Or.inr ⟨i, by omega, a2, a3⟩
