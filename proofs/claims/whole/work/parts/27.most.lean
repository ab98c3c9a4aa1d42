/-! the heaviest window: the class's few beginnings against all of the reference's -/
/-- what of an event the windows see, in both heaps -/
def wq (X M : mj_X) (o : Nat → Nat) (n : Nat) : Prop := ∀ j, j < n → X 12 j = mE M j 0 ∧ X 14 j = mE M j 2 ∧ X 15 j = nI (o j) ∧ mon M j = nI (o j) ∧ o j ≤ 9999 ∧ (¬ X 14 j = 0 → X 13 j = nI (o j)) ∧ X 23 j = mcnt M j ∧ -18 ≤ (mcnt M j).toInt ∧ (mcnt M j).toInt ≤ 18 ∧ (X 14 j = 0 → 0 ≤ (mcnt M j).toInt) ∧ (¬ X 14 j = 0 → (mcnt M j).toInt ≤ 0)
def wdv (X : mj_X) (d : Int32) (j : Nat) : Bool := decide (X 12 j = d)
def wcv (X : mj_X) (j : Nat) : Bool := decide (X 14 j = 0)
def wg (M : mj_X) (j : Nat) : Int := (mcnt M j).toInt
def wo (o : Nat → Nat) (j : Nat) : Int := (o j : Int)
theorem wT_bd {X M : mj_X} {o : Nat → Nat} {n : Nat} (h : wq X M o n) (d : Int32) (w f : Int) : ∀ j, j < n → -((18 : Nat) : Int) ≤ wT (wdv X d) (wo o) (wg M) w f j ∧ wT (wdv X d) (wo o) (wg M) w f j ≤ ((18 : Nat) : Int) := by
  intro j hj
  have hh := h j hj
  unfold wT wg
  split <;> omega
theorem hvw_eq {X M : mj_X} {o : Nat → Nat} {d s : Int32} {w : Nat} (hw : w ≤ 999) (hX : X 4 0 = nI w) (hs1 : -1001 ≤ s.toInt) (hs2 : s.toInt ≤ 11001) : ∀ n, n ≤ 41 → wq X M o n → (hv_w X d s n).toInt = wS (wdv X d) (wo o) (wg M) w n s.toInt
  | 0, _, _ => rfl
  | n + 1, hn, h => by
    have ih := hvw_eq (d := d) hw hX hs1 hs2 n (by omega) (fun j hj => h j (by omega))
    have bd := sI_bd (wT_bd (fun j hj => h j (by omega) : wq X M o n) d w s.toInt)
    obtain ⟨a1, a2, a3, a4, a5, a6, a7, a8, a9, a10, a11⟩ := h n (by omega)
    have to := nI_toInt (n := o n) (by omega)
    have tw := nI_toInt (n := w) (by omega)
    have es : (X 15 n - s).toInt = (o n : Int) - s.toInt := by rw [ti_sub (by rw [a3, to]; omega) (by rw [a3, to]; omega), a3, to]
    unfold hv_w at ih ⊢
    rw [lp_f, wS, sI, ← wS, ev_wF, wT]
    unfold wS at ih
    have key : (X 12 n = d ∧ 0 ≤ X 15 n - s ∧ X 15 n - s < X 4 0) ↔ (wdv X d n = true ∧ s.toInt ≤ wo o n ∧ wo o n ≤ s.toInt + w - 1) := by
      rw [Int32.le_iff_toInt_le, Int32.lt_iff_toInt_lt, es, hX, tw, tl_0]
      unfold wdv wo
      rw [decide_eq_true_eq]
      constructor
      · rintro ⟨q1, q2, q3⟩; exact ⟨q1, by omega, by omega⟩
      · rintro ⟨q1, q2, q3⟩; exact ⟨q1, by omega, by omega⟩
    by_cases hc : X 12 n = d ∧ 0 ≤ X 15 n - s ∧ X 15 n - s < X 4 0
    · rw [if_pos hc, if_pos (key.mp hc), ti_add (by rw [ih, a7]; omega) (by rw [ih, a7]; omega), ih, a7]
      rfl
    · rw [if_neg hc, if_neg (fun q => hc (key.mpr q)), ih, Int.add_zero]
      rfl
theorem msum_eq {X M : mj_X} {o : Nat → Nat} {d s : Int32} {w : Nat} (hw : w ≤ 999) (hM : M 39 328 = nI w) (hs1 : -1001 ≤ s.toInt) (hs2 : s.toInt ≤ 11001) : ∀ n, n ≤ 41 → wq X M o n → (msum M d s n).toInt = wS (wdv X d) (wo o) (wg M) w n s.toInt
  | 0, _, _ => rfl
  | n + 1, hn, h => by
    have ih := msum_eq (d := d) hw hM hs1 hs2 n (by omega) (fun j hj => h j (by omega))
    have bd := sI_bd (wT_bd (fun j hj => h j (by omega) : wq X M o n) d w s.toInt)
    obtain ⟨a1, a2, a3, a4, a5, a6, a7, a8, a9, a10, a11⟩ := h n (by omega)
    have to := nI_toInt (n := o n) (by omega)
    have tw := nI_toInt (n := w) (by omega)
    have es : (s + M 39 328 - 1).toInt = s.toInt + w - 1 := by
      have e1 : (s + M 39 328).toInt = s.toInt + w := by rw [ti_add (by rw [hM, tw]; omega) (by rw [hM, tw]; omega), hM, tw]
      rw [ti_sub (by rw [e1, tl_1]; omega) (by rw [e1, tl_1]; omega), e1, tl_1]
    unfold msum at ih ⊢
    rw [lp_f, wS, sI, ← wS, msF, wT]
    unfold wS at ih
    have key : (mE M n 0 = d ∧ s ≤ mon M n ∧ mon M n ≤ s + M 39 328 - 1) ↔ (wdv X d n = true ∧ s.toInt ≤ wo o n ∧ wo o n ≤ s.toInt + w - 1) := by
      rw [Int32.le_iff_toInt_le, Int32.le_iff_toInt_le, es, a4, to, ← a1]
      unfold wdv wo
      rw [decide_eq_true_eq]
    by_cases hc : mE M n 0 = d ∧ s ≤ mon M n ∧ mon M n ≤ s + M 39 328 - 1
    · rw [if_pos hc, if_pos (key.mp hc), ti_add (by rw [ih]; omega) (by rw [ih]; omega), ih]
      rfl
    · rw [if_neg hc, if_neg (fun q => hc (key.mpr q)), Int32.add_zero, ih, Int.add_zero]
      rfl
theorem hv_most {X M : mj_X} {o : Nat → Nat} {d : Int32} {t w n : Nat} (ht : t ≤ 9999) (hw1 : 1 ≤ w) (hw : w ≤ 999) (hX : X 4 0 = nI w) (hM : M 39 328 = nI w) (hn : n ≤ 41) (h : wq X M o n) : hv X d (nI t) n = most M d (nI t) n w := by
  have tt := nI_toInt (n := t) (by omega)
  have tw := nI_toInt (n := w) (by omega)
  have eE : (nI t - X 4 0 + 1).toInt = (t : Int) - w + 1 := by
    have e1 : (nI t - X 4 0).toInt = (t : Int) - w := by rw [ti_sub (by rw [hX, tt, tw]; omega) (by rw [hX, tt, tw]; omega), hX, tt, tw]
    rw [ti_add (by rw [e1, tl_1]; omega) (by rw [e1, tl_1]; omega), e1, tl_1]
  have ef : ∀ j, j < w → (nI t - M 39 328 + 1 + nI j).toInt = (t : Int) - w + 1 + j := by
    intro j hj
    have tj := nI_toInt (n := j) (by omega)
    have e2 : (nI t - M 39 328 + 1).toInt = (t : Int) - w + 1 := by rw [hM, ← hX]; exact eE
    rw [ti_add (by rw [e2, tj]; omega) (by rw [e2, tj]; omega), e2, tj]
  have est : ∀ j, j < n → (hv_st X j).toInt = (if wcv X j = true then wo o j - w + 1 else wo o j + 1) := by
    intro j hj
    obtain ⟨a1, a2, a3, a4, a5, a6, a7, a8, a9, a10, a11⟩ := h j hj
    have to := nI_toInt (n := o j) (by omega)
    unfold hv_st wcv wo
    by_cases hc : X 14 j = 0
    · rw [if_pos hc, if_pos (by rw [decide_eq_true_eq]; exact hc)]
      have e1 : (X 15 j - X 4 0).toInt = (o j : Int) - w := by rw [ti_sub (by rw [a3, hX, to, tw]; omega) (by rw [a3, hX, to, tw]; omega), a3, hX, to, tw]
      rw [ti_add (by rw [e1, tl_1]; omega) (by rw [e1, tl_1]; omega), e1, tl_1]
    · rw [if_neg hc, if_neg (by rw [decide_eq_true_eq]; exact hc), a6 hc, ti_add (by rw [to, tl_1]; omega) (by rw [to, tl_1]; omega), to, tl_1]
  have hg : ∀ j, j < n → (wcv X j = true → 0 ≤ wg M j) ∧ (wcv X j = false → wg M j ≤ 0) := by
    intro j hj
    obtain ⟨a1, a2, a3, a4, a5, a6, a7, a8, a9, a10, a11⟩ := h j hj
    unfold wcv wg
    exact ⟨fun q => a10 (by simpa using q), fun q => a11 (by simpa using q)⟩
  -- the class's
  have C := lp_max (F := hv_F X d (nI t) n) (ok := fun j => X 12 j = d ∧ nI t - X 4 0 + 1 < hv_st X j ∧ hv_st X j ≤ nI t) (v := fun j => hv_w X d (hv_st X j) n) (a := hv_w X d (nI t - X 4 0 + 1) n) (n := n)
    (fun i r hi => ⟨fun q => by rw [hv_F, if_pos q], fun q => by rw [hv_F, if_neg q]⟩)
  -- the reference's
  have R := lp_max (F := moF M d (nI t) n) (ok := fun _ => True) (v := fun j => msum M d (nI t - M 39 328 + 1 + nI j) n) (a := -99999) (n := w)
    (fun i r hi => ⟨fun q => rfl, fun q => absurd trivial q⟩)
  obtain ⟨⟨C1, C2⟩, C3⟩ := C
  obtain ⟨⟨R1, R2⟩, R3⟩ := R
  have hms : ∀ j, j < w → (msum M d (nI t - M 39 328 + 1 + nI j) n).toInt = wS (wdv X d) (wo o) (wg M) w n ((t : Int) - w + 1 + j) := fun j hj => by
    rw [msum_eq hw hM (by rw [ef j hj]; omega) (by rw [ef j hj]; omega) n hn h, ef j hj]
  have hE : (hv_w X d (nI t - X 4 0 + 1) n).toInt = wS (wdv X d) (wo o) (wg M) w n ((t : Int) - w + 1) := by
    rw [hvw_eq hw hX (by rw [eE]; omega) (by rw [eE]; omega) n hn h, eE]
  have hK : ∀ j, j < n → (hv_w X d (hv_st X j) n).toInt = wS (wdv X d) (wo o) (wg M) w n (hv_st X j).toInt := fun j hj => by
    have hb : -1001 ≤ (hv_st X j).toInt ∧ (hv_st X j).toInt ≤ 11001 := by
      have hh := h j hj
      rw [est j hj]; unfold wo; split <;> omega
    exact hvw_eq hw hX hb.1 hb.2 n hn h
  rw [hv, most, ← Int32.toInt_inj]
  apply Int.le_antisymm
  · -- the class's value is one of the reference's windows
    have back : ∀ f : Int, (t : Int) - w + 1 ≤ f → f ≤ t → wS (wdv X d) (wo o) (wg M) w n f ≤ (lp_f (moF M d (nI t) n) (-99999) w).toInt := by
      intro f h1 h2
      have := R2 (f - ((t : Int) - w + 1)).toNat (by omega) trivial
      rw [hms _ (by omega)] at this
      rw [show (t : Int) - w + 1 + ((f - ((t : Int) - w + 1)).toNat : Int) = f by omega] at this
      exact this
    rcases C3 with C3 | ⟨i, hi, ho, C3⟩
    · rw [C3, hE]; exact back _ (by omega) (by omega)
    · rw [C3, hK i hi]
      have q1 := Int32.lt_iff_toInt_lt.mp ho.2.1
      have q2 := Int32.le_iff_toInt_le.mp ho.2.2
      rw [eE] at q1
      rw [tt] at q2
      exact back _ (by omega) q2
  · rcases R3 with R3 | ⟨j, hj, -, R3⟩
    · -- not the beginning: there is at least one window
      have := R2 0 (by omega) trivial
      rw [R3, hms 0 (by omega)] at this
      have bd := sI_bd (wT_bd h d w ((t : Int) - w + 1 + (0 : Nat)))
      have bd1 : -((n * 18 : Nat) : Int) ≤ wS (wdv X d) (wo o) (wg M) w n ((t : Int) - w + 1 + (0 : Nat)) := bd.1
      have e9 : (-99999 : Int32).toInt = -99999 := by decide
      rw [e9] at this
      omega
    · rw [R3, hms j hj]
      rcases wS_cand (dv := wdv X d) (cv := wcv X) (o := wo o) (g := wg M) (w := w) (E := (t : Int) - w + 1) (n := n) (by omega) hg j with q | ⟨i, g1, g2, g3, g4, g5⟩
      · rw [← hE] at q; omega
      · rw [← est i g1] at g3 g4 g5
        have := C2 i g1 ⟨by simpa [wdv] using g2, by rw [Int32.lt_iff_toInt_lt, eE]; exact g3, by rw [Int32.le_iff_toInt_le, tt]; omega⟩
        rw [hK i g1] at this
        omega
