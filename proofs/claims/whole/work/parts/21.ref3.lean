set_option maxHeartbeats 1000000 in
theorem c_mundo0 (x : mj_X) (hs : x 37 4 = 0) : mj_CP mX7_undo (shX ++ shM) [.ref 37] x (-2) := by
  refine mj_startP (ls := [some (.ref 37), none]) (by decide) rfl rfl (fun Q hQ => ?_)
  refine mj_aldn dX7_undo_0 rfl ?_
  refine mj_geti fkX7_127 dX7_undo_1 rfl rfl ?_
  refine mj_if_ne (tgt := 10) dX7_undo_4 rfl (fun h_4 => False.elim (by exact h_4 hs)) (fun h_4 => ?_)
  refine mj_bipush dX7_undo_7 nb_m2 ?_
  refine mj_ret rfl dX7_undo_9 ?_
  exact hQ
def mud (x y : mj_X) (u : Nat) : Prop := y 37 4 = nI u ∧ (∀ i, i < 335 → y 39 i = x 40 (335 * u + i)) ∧ y 37 15 = 0 ∧ (∀ i, i ≠ 4 → i ≠ 15 → y 37 i = x 37 i) ∧ ∀ k, k ≠ 37 → k ≠ 39 → y k = x k
set_option maxHeartbeats 1000000 in
theorem c_mundo (x : mj_X) (u : Nat) (hu : u < 6) (hs : x 37 4 = nI (u + 1)) : mj_CI mX7_undo (shX ++ shM) [.ref 37] x (fun z y => z = nI u ∧ mud x y u) := by
  refine mj_startI (ls := [some (.ref 37), none]) (by decide) rfl rfl (fun Q hQ => ?_)
  have e1 : x 37 4 - 1 = nI u := by rw [hs]; exact nI_pred u
  have loop : ∀ (k j : Nat) (y : mj_X), j ≤ 335 → 335 < j + k → (∀ i, i < j → y 39 i = x 40 (335 * u + i)) → (∀ k, k ≠ 39 → y k = mj_up x 37 4 (nI u) k) → mj_V mX7_undo (shX ++ shM) Q y 22 [some (.ref 37), some (.int (nI j))] [] := by
    intro k
    induction k with
    | zero => intro j y h1 h2; omega
    | succ k ih =>
      intro j y h1 h2 g1 g3
      have e4 : y 37 4 = nI u := by rw [g3 37 (by decide), up_eq, upd_eq]
      have eix : 335 * y 37 4 + nI j = nI (335 * u + j) := by rw [e4, ← nI_add, ← pk_mul]; rfl
      have e40 : y 40 (335 * u + j) = x 40 (335 * u + j) := by rw [g3 40 (by decide), up_ne (by decide)]
      refine mj_ildn dX7_undo_22 rfl ?_
      refine mj_sipush dX7_undo_23 ns_335 ?_
      refine mj_ic_ge (tgt := 56) dX7_undo_26 rfl (fun h_26 => ?_) (fun h_26 => ?_)
      · have hj : j = 335 := by have := (nI_leI (a := 335) (b := j) (by decide) (by omega)).mp h_26; omega
        subst hj
        refine mj_aldn dX7_undo_56 rfl ?_
        refine mj_iconst dX7_undo_57 ni_0 ?_
        refine mj_putz fkX7_133 pkX7_15 (by decide) dX7_undo_58 rfl rfl ?_
        refine mj_aldn dX7_undo_61 rfl ?_
        refine mj_geti fkX7_127 dX7_undo_62 rfl rfl ?_
        refine mj_ret rfl dX7_undo_65 ?_
        have e9 : mj_up y 37 15 0 37 4 = nI u := by rw [up_eq, upd_ne (by decide)]; exact e4
        rw [e9]
        refine hQ _ _ ⟨rfl, e9, fun i hi => g1 i hi, by rw [up_eq, upd_eq], fun i a b => ?_, fun k a b => ?_⟩
        · rw [up_eq, upd_ne b, g3 37 (by decide), up_eq, upd_ne a]
        · rw [up_ne a, g3 k b, up_ne a]
      · have hj : j < 335 := by have := mt (nI_leI (a := 335) (b := j) (by decide) (by omega)).mpr h_26; omega
        refine mj_aldn dX7_undo_29 rfl ?_
        refine mj_getr fkX7_13 dX7_undo_30 rfl rfl ?_
        refine mj_ildn dX7_undo_33 rfl ?_
        refine mj_aldn dX7_undo_34 rfl ?_
        refine mj_getr fkX7_16 dX7_undo_35 rfl rfl ?_
        refine mj_sipush dX7_undo_38 ns_335 ?_
        refine mj_aldn dX7_undo_41 rfl ?_
        refine mj_geti fkX7_127 dX7_undo_42 rfl rfl ?_
        refine mj_imul dX7_undo_45 ?_
        refine mj_ildn dX7_undo_46 rfl ?_
        refine mj_iadd dX7_undo_47 ?_
        refine mj_iald dX7_undo_48 rfl (335 * u + j) (by omega) eix (by decide) ?_
        refine mj_iast dX7_undo_49 rfl j hj rfl (by decide) ?_
        refine mj_inc1 dX7_undo_50 ni_1 rfl ?_
        refine mj_goto (tgt := 22) dX7_undo_53 rfl ?_
        refine mj_ls (ih (j + 1) _ (by omega) (by omega) (lt_s (fun i h => ?_) ?_) (fun k a => ?_)) (by rw [nI_1])
        · rw [up_eq, upd_ne (by omega)]; exact g1 i h
        · rw [up_eq, upd_eq]; exact e40
        · rw [up_ne a]; exact g3 k a
  refine mj_aldn dX7_undo_0 rfl ?_
  refine mj_geti fkX7_127 dX7_undo_1 rfl rfl ?_
  refine mj_if_ne (tgt := 10) dX7_undo_4 rfl (fun h_4 => ?_) (fun h_4 => False.elim (by rw [hs] at h_4; exact nI_ne0 (by omega) (by omega) h_4))
  refine mj_aldn dX7_undo_10 rfl ?_
  refine mj_dupr dX7_undo_11 ?_
  refine mj_geti fkX7_127 dX7_undo_12 rfl rfl ?_
  refine mj_iconst dX7_undo_15 ni_1 ?_
  refine mj_isub dX7_undo_16 ?_
  rw [e1]
  refine mj_puti fkX7_127 pkX7_4 dX7_undo_17 rfl rfl ?_
  refine mj_iconst dX7_undo_20 ni_0 ?_
  refine mj_istn1 dX7_undo_21 rfl ?_
  exact loop 336 0 _ (by omega) (by omega) (fun i h => by omega) (fun k h => rfl)
def mbe (x y : mj_X) (k : Nat) : Prop := (∀ i, i < 328 → y 39 i = 0) ∧ (∀ i, i < 6 → y 39 (328 + i) = x 43 i) ∧ y 39 334 = 0 ∧ (∀ i, i < 6 → y 41 i = (if i < k then x 44 i else 0) ∧ y 42 i = (if i < k then x 45 i else 0)) ∧ y 37 6 = nI k ∧ y 37 4 = 0 ∧ y 37 5 = 0 ∧ y 37 15 = 0 ∧ (∀ i, i ≠ 4 → i ≠ 5 → i ≠ 6 → i ≠ 15 → y 37 i = x 37 i) ∧ ∀ k, k ≠ 37 → k ≠ 39 → k ≠ 41 → k ≠ 42 → y k = x k
set_option maxHeartbeats 1000000 in
theorem c_begin (x : mj_X) (k0 : Nat) (hk : k0 ≤ 6) (hs : x 37 10 = nI k0) : mj_CV mX7_begin (shX ++ shM) [.ref 37] x (fun y => mbe x y k0) := by
  refine mj_startV (ls := [some (.ref 37), none]) (by decide) rfl rfl (fun Q hQ => ?_)
  have loop2 : ∀ (k j : Nat) (y : mj_X), j ≤ 6 → 6 < j + k → (∀ i, i < 328 → y 39 i = 0) → (∀ i, i < j → y 39 (328 + i) = x 43 i) → y 39 334 = 0 → (∀ i, i < j → y 41 i = (if i < k0 then x 44 i else 0) ∧ y 42 i = (if i < k0 then x 45 i else 0)) → (∀ k, k ≠ 39 → k ≠ 41 → k ≠ 42 → y k = x k) → mj_V mX7_begin (shX ++ shM) Q y 24 [some (.ref 37), some (.int (nI j))] [] := by
    intro k
    induction k with
    | zero => intro j y h1 h2; omega
    | succ k ih =>
      intro j y h1 h2 g1 g2 g3 g4 g5
      have eix : (328 : Int32) + nI j = nI (328 + j) := nI_add 328 j
      have e43 : y 43 j = x 43 j := by rw [g5 43 (by decide) (by decide) (by decide)]
      have e10 : ∀ v, mj_up y 39 (328 + j) v 37 10 = nI k0 := fun v => by rw [up_ne (by decide), g5 37 (by decide) (by decide) (by decide)]; exact hs
      have e10b : ∀ v w, mj_up (mj_up y 39 (328 + j) v) 41 j w 37 10 = nI k0 := fun v w => by rw [up_ne (by decide)]; exact e10 v
      have e44 : y 44 j = x 44 j := by rw [g5 44 (by decide) (by decide) (by decide)]
      have e45 : y 45 j = x 45 j := by rw [g5 45 (by decide) (by decide) (by decide)]
      have back : j < 6 → ∀ a b : Int32, a = (if j < k0 then x 44 j else 0) → b = (if j < k0 then x 45 j else 0) → mj_V mX7_begin (shX ++ shM) Q (mj_up (mj_up (mj_up y 39 (328 + j) (y 43 j)) 41 j a) 42 j b) 24 [some (.ref 37), some (.int (nI j + 1))] [] := by
        intro hj6 a b ha hb
        refine mj_ls (ih (j + 1) _ (by omega) (by omega) (fun i h => ?_) (lt_s (fun i h => ?_) ?_) ?_ (lt_s (fun i h => ?_) ?_) (fun k a b c => ?_)) (by rw [nI_1])
        · rw [up_ne (by decide), up_ne (by decide), up_eq, upd_ne (by omega)]; exact g1 i h
        · rw [up_ne (by decide), up_ne (by decide), up_eq, upd_ne (by omega)]; exact g2 i h
        · rw [up_ne (by decide), up_ne (by decide), up_eq, upd_eq]; exact e43
        · rw [up_ne (by decide), up_ne (by decide), up_eq, upd_ne (by omega)]; exact g3
        · rw [up_ne (show 41 ≠ 42 by decide), up_eq, upd_ne (by omega), up_ne (show 41 ≠ 39 by decide), up_eq, upd_ne (by omega), up_ne (show 42 ≠ 41 by decide), up_ne (show 42 ≠ 39 by decide)]; exact g4 i h
        · rw [up_ne (show 41 ≠ 42 by decide), up_eq, upd_eq, up_eq, upd_eq]; exact ⟨ha, hb⟩
        · rw [up_ne c, up_ne b, up_ne a]; exact g5 k a b c
      refine mj_ildn dX7_begin_24 rfl ?_
      refine mj_bipush dX7_begin_25 nb_6 ?_
      refine mj_ic_ge (tgt := 100) dX7_begin_27 rfl (fun h_27 => ?_) (fun h_27 => ?_)
      · have hj : j = 6 := by have := (nI_leI (a := 6) (b := j) (by decide) (by omega)).mp h_27; omega
        subst hj
        refine mj_aldn dX7_begin_100 rfl ?_
        refine mj_aldn dX7_begin_101 rfl ?_
        refine mj_geti fkX7_71 dX7_begin_102 rfl rfl ?_
        refine mj_puti fkX7_124 pkX7_6 dX7_begin_105 rfl rfl ?_
        refine mj_aldn dX7_begin_108 rfl ?_
        refine mj_iconst dX7_begin_109 ni_0 ?_
        refine mj_puti fkX7_127 pkX7_4 dX7_begin_110 rfl rfl ?_
        refine mj_aldn dX7_begin_113 rfl ?_
        refine mj_iconst dX7_begin_114 ni_0 ?_
        refine mj_puti fkX7_130 pkX7_5 dX7_begin_115 rfl rfl ?_
        refine mj_aldn dX7_begin_118 rfl ?_
        refine mj_iconst dX7_begin_119 ni_0 ?_
        refine mj_putz fkX7_133 pkX7_15 (by decide) dX7_begin_120 rfl rfl ?_
        refine mj_retv rfl dX7_begin_123 ?_
        have e37 : ∀ i, y 37 i = x 37 i := fun i => by rw [g5 37 (by decide) (by decide) (by decide)]
        refine hQ _ ⟨fun i h => g1 i h, fun i h => g2 i h, g3, fun i h => g4 i h, ?_, rfl, rfl, rfl, fun i a b c d => ?_, fun k a b c d => ?_⟩
        · rw [up_eq, upd_ne (by decide), up_eq, upd_ne (by decide), up_eq, upd_ne (by decide), up_eq, upd_eq, e37]; exact hs
        · rw [up_eq, upd_ne d, up_eq, upd_ne b, up_eq, upd_ne a, up_eq, upd_ne c]; exact e37 i
        · rw [up_ne a, up_ne a, up_ne a, up_ne a]; exact g5 k b c d
      · have hj : j < 6 := by have := mt (nI_leI (a := 6) (b := j) (by decide) (by omega)).mpr h_27; omega
        refine mj_aldn dX7_begin_30 rfl ?_
        refine mj_getr fkX7_13 dX7_begin_31 rfl rfl ?_
        refine mj_sipush dX7_begin_34 ns_328 ?_
        refine mj_ildn dX7_begin_37 rfl ?_
        refine mj_iadd dX7_begin_38 ?_
        refine mj_aldn dX7_begin_39 rfl ?_
        refine mj_getr fkX7_25 dX7_begin_40 rfl rfl ?_
        refine mj_ildn dX7_begin_43 rfl ?_
        refine mj_iald dX7_begin_44 rfl j hj rfl (by decide) ?_
        refine mj_iast dX7_begin_45 rfl (328 + j) (by omega) eix (by decide) ?_
        refine mj_aldn dX7_begin_46 rfl ?_
        refine mj_getr fkX7_19 dX7_begin_47 rfl rfl ?_
        refine mj_ildn dX7_begin_50 rfl ?_
        refine mj_ildn dX7_begin_51 rfl ?_
        refine mj_aldn dX7_begin_52 rfl ?_
        refine mj_geti fkX7_71 dX7_begin_53 rfl rfl ?_
        refine mj_ic_ge (tgt := 68) dX7_begin_56 rfl (fun h_56 => ?_) (fun h_56 => ?_)
        · rw [e10, nI_leI (by omega) (by omega)] at h_56
          refine mj_iconst dX7_begin_68 ni_0 ?_
          refine mj_iast dX7_begin_69 rfl j hj rfl (by decide) ?_
          refine mj_aldn dX7_begin_70 rfl ?_
          refine mj_getr fkX7_22 dX7_begin_71 rfl rfl ?_
          refine mj_ildn dX7_begin_74 rfl ?_
          refine mj_ildn dX7_begin_75 rfl ?_
          refine mj_aldn dX7_begin_76 rfl ?_
          refine mj_geti fkX7_71 dX7_begin_77 rfl rfl ?_
          refine mj_ic_ge (tgt := 92) dX7_begin_80 rfl (fun h_80 => ?_) (fun h_80 => ?_)
          · rw [e10b, nI_leI (by omega) (by omega)] at h_80
            refine mj_iconst dX7_begin_92 ni_0 ?_
            refine mj_iast dX7_begin_93 rfl j hj rfl (by decide) ?_
            refine mj_inc1 dX7_begin_94 ni_1 rfl ?_
            refine mj_goto (tgt := 24) dX7_begin_97 rfl ?_
            exact back hj _ _ (by first | (rw [if_pos (by omega)]; exact e44) | (rw [if_neg (by omega)])) (by first | (rw [if_pos (by omega)]; exact e45) | (rw [if_neg (by omega)]))
          · rw [e10b, nI_leI (by omega) (by omega)] at h_80
            refine mj_aldn dX7_begin_83 rfl ?_
            refine mj_getr fkX7_31 dX7_begin_84 rfl rfl ?_
            refine mj_ildn dX7_begin_87 rfl ?_
            refine mj_iald dX7_begin_88 rfl j hj rfl (by decide) ?_
            refine mj_goto (tgt := 93) dX7_begin_89 rfl ?_
            refine mj_iast dX7_begin_93 rfl j hj rfl (by decide) ?_
            refine mj_inc1 dX7_begin_94 ni_1 rfl ?_
            refine mj_goto (tgt := 24) dX7_begin_97 rfl ?_
            exact back hj _ _ (by first | (rw [if_pos (by omega)]; exact e44) | (rw [if_neg (by omega)])) (by first | (rw [if_pos (by omega)]; exact e45) | (rw [if_neg (by omega)]))
        · rw [e10, nI_leI (by omega) (by omega)] at h_56
          refine mj_aldn dX7_begin_59 rfl ?_
          refine mj_getr fkX7_28 dX7_begin_60 rfl rfl ?_
          refine mj_ildn dX7_begin_63 rfl ?_
          refine mj_iald dX7_begin_64 rfl j hj rfl (by decide) ?_
          refine mj_goto (tgt := 69) dX7_begin_65 rfl ?_
          refine mj_iast dX7_begin_69 rfl j hj rfl (by decide) ?_
          refine mj_aldn dX7_begin_70 rfl ?_
          refine mj_getr fkX7_22 dX7_begin_71 rfl rfl ?_
          refine mj_ildn dX7_begin_74 rfl ?_
          refine mj_ildn dX7_begin_75 rfl ?_
          refine mj_aldn dX7_begin_76 rfl ?_
          refine mj_geti fkX7_71 dX7_begin_77 rfl rfl ?_
          refine mj_ic_ge (tgt := 92) dX7_begin_80 rfl (fun h_80 => ?_) (fun h_80 => ?_)
          · rw [e10b, nI_leI (by omega) (by omega)] at h_80
            refine mj_iconst dX7_begin_92 ni_0 ?_
            refine mj_iast dX7_begin_93 rfl j hj rfl (by decide) ?_
            refine mj_inc1 dX7_begin_94 ni_1 rfl ?_
            refine mj_goto (tgt := 24) dX7_begin_97 rfl ?_
            exact back hj _ _ (by first | (rw [if_pos (by omega)]; exact e44) | (rw [if_neg (by omega)])) (by first | (rw [if_pos (by omega)]; exact e45) | (rw [if_neg (by omega)]))
          · rw [e10b, nI_leI (by omega) (by omega)] at h_80
            refine mj_aldn dX7_begin_83 rfl ?_
            refine mj_getr fkX7_31 dX7_begin_84 rfl rfl ?_
            refine mj_ildn dX7_begin_87 rfl ?_
            refine mj_iald dX7_begin_88 rfl j hj rfl (by decide) ?_
            refine mj_goto (tgt := 93) dX7_begin_89 rfl ?_
            refine mj_iast dX7_begin_93 rfl j hj rfl (by decide) ?_
            refine mj_inc1 dX7_begin_94 ni_1 rfl ?_
            refine mj_goto (tgt := 24) dX7_begin_97 rfl ?_
            exact back hj _ _ (by first | (rw [if_pos (by omega)]; exact e44) | (rw [if_neg (by omega)])) (by first | (rw [if_pos (by omega)]; exact e45) | (rw [if_neg (by omega)]))
  have loop1 : ∀ (k j : Nat) (y : mj_X), j ≤ 335 → 335 < j + k → (∀ i, i < j → y 39 i = 0) → (∀ k, k ≠ 39 → y k = x k) → mj_V mX7_begin (shX ++ shM) Q y 2 [some (.ref 37), some (.int (nI j))] [] := by
    intro k
    induction k with
    | zero => intro j y h1 h2; omega
    | succ k ih =>
      intro j y h1 h2 g1 g3
      refine mj_ildn dX7_begin_2 rfl ?_
      refine mj_sipush dX7_begin_3 ns_335 ?_
      refine mj_ic_ge (tgt := 22) dX7_begin_6 rfl (fun h_6 => ?_) (fun h_6 => ?_)
      · have hj : j = 335 := by have := (nI_leI (a := 335) (b := j) (by decide) (by omega)).mp h_6; omega
        subst hj
        refine mj_iconst dX7_begin_22 ni_0 ?_
        refine mj_istn1 dX7_begin_23 rfl ?_
        exact loop2 7 0 y (by omega) (by omega) (fun i h => g1 i (by omega)) (fun i h => by omega) (g1 334 (by omega)) (fun i h => by omega) (fun k a b c => g3 k a)
      · have hj : j < 335 := by have := mt (nI_leI (a := 335) (b := j) (by decide) (by omega)).mpr h_6; omega
        refine mj_aldn dX7_begin_9 rfl ?_
        refine mj_getr fkX7_13 dX7_begin_10 rfl rfl ?_
        refine mj_ildn dX7_begin_13 rfl ?_
        refine mj_iconst dX7_begin_14 ni_0 ?_
        refine mj_iast dX7_begin_15 rfl j hj rfl (by decide) ?_
        refine mj_inc1 dX7_begin_16 ni_1 rfl ?_
        refine mj_goto (tgt := 2) dX7_begin_19 rfl ?_
        refine mj_ls (ih (j + 1) _ (by omega) (by omega) (lt_s (fun i h => ?_) ?_) (fun k a => ?_)) (by rw [nI_1])
        · rw [up_eq, upd_ne (by omega)]; exact g1 i h
        · rw [up_eq, upd_eq]
        · rw [up_ne a]; exact g3 k a
  refine mj_iconst dX7_begin_0 ni_0 ?_
  refine mj_istn1 dX7_begin_1 rfl ?_
  exact loop1 336 0 x (by omega) (by omega) (fun i h => by omega) (fun k h => rfl)
def mL (x : mj_X) (b : Nat) : Int32 := x 50 b + x 51 b - 1
def mn_has (x : mj_X) (d day : Int32) (b : Nat) : Bool := decide (x 49 b = d ∧ x 50 b ≤ day ∧ day ≤ mL x b)
def mg (x : mj_X) (n : Nat) (d f z e g : Int32) : mj_X := mj_up (mj_up (mj_up (mj_up (mj_up (mj_up (mj_up x 49 n d) 50 n f) 51 n z) 52 n e) 53 n g) 54 n 0) 37 19 (nI (n + 1))
def mcnt (x : mj_X) (e : Nat) : Int32 := if x 47 e = 1 ∨ mE x e 7 = 1 ∨ mE x e 2 = 2 then 0 else if mE x e 2 = 1 then -3 else mE x e 5 * (if x 46 e = 1 then 2 else 1)
def mon (x : mj_X) (e : Nat) : Int32 := if mE x e 2 = 0 then mE x e 3 else mE x e 1
def msF (x : mj_X) (d f : Int32) (e : Nat) (a : Int32) : Int32 := a + (if mE x e 0 = d ∧ f ≤ mon x e ∧ mon x e ≤ f + x 39 328 - 1 then mcnt x e else 0)
def msum (x : mj_X) (d f : Int32) (n : Nat) : Int32 := lp_f (msF x d f) 0 n
def moF (x : mj_X) (d day : Int32) (n j : Nat) (a : Int32) : Int32 := if a < msum x d (day - x 39 328 + 1 + nI j) n then msum x d (day - x 39 328 + 1 + nI j) n else a
def most (x : mj_X) (d day : Int32) (n w : Nat) : Int32 := lp_f (moF x d day n) (-99999) w
def mgrF (x : mj_X) (d day : Int32) (b : Nat) (a : Int32) : Int32 := a + (if x 49 b = d ∧ x 53 b = 1 ∧ day - x 39 331 ≤ mE x (x 52 b).toNatClampNeg 1 ∧ mE x (x 52 b).toNatClampNeg 1 ≤ day then 1 else 0)
def mbgF (x : mj_X) (d : Int32) (b : Nat) (a : Int32) : Int32 := if x 49 b = d ∧ a ≤ mL x b then mL x b + 1 else a
def mshF (x : mj_X) (d day : Int32) (b : Nat) (a : Int32) : Int32 := if x 49 b = d ∧ x 54 b = 0 ∧ x 50 b ≤ day ∧ day ≤ mL x b ∧ (a = -4 ∨ mL x a.toNatClampNeg ≤ mL x b) then nI b else a
def menF (x : mj_X) (d : Int32) (b : Nat) (a : Int32) : Int32 := if x 49 b = d ∧ a < mL x b then mL x b else a
def mctF (x : mj_X) (d : Int32) (b : Nat) (a : Int32) : Int32 := a + (if x 49 b = d then 1 else 0)
def mwl (x : mj_X) (d : Int32) (e : Nat) : Bool := decide (mE x e 0 = d ∧ mE x e 2 = 1 ∧ x 37 5 - mE x e 1 < x 39 328)
set_option maxHeartbeats 1000000 in
theorem c_mlast (x : mj_X) (b : Nat) (hb : b < 82) : mj_CP mX7_lastOf (shX ++ shM) [.ref 37, .int (nI b)] x (mL x b) := by
  refine mj_startP (ls := [some (.ref 37), some (.int (nI b))]) (by decide) rfl rfl (fun Q hQ => ?_)
  refine mj_aldn dX7_lastOf_0 rfl ?_
  refine mj_getr fkX7_46 dX7_lastOf_1 rfl rfl ?_
  refine mj_ildn dX7_lastOf_4 rfl ?_
  refine mj_iald dX7_lastOf_5 rfl b hb rfl (by decide) ?_
  refine mj_aldn dX7_lastOf_6 rfl ?_
  refine mj_getr fkX7_49 dX7_lastOf_7 rfl rfl ?_
  refine mj_ildn dX7_lastOf_10 rfl ?_
  refine mj_iald dX7_lastOf_11 rfl b hb rfl (by decide) ?_
  refine mj_iadd dX7_lastOf_12 ?_
  refine mj_iconst dX7_lastOf_13 ni_1 ?_
  refine mj_isub dX7_lastOf_14 ?_
  refine mj_ret rfl dX7_lastOf_15 ?_
  exact hQ
set_option maxHeartbeats 1000000 in
theorem c_mban (x : mj_X) (nb : Nat) (hb : nb ≤ 82) (hs : x 37 19 = nI nb) (d day : Int32) : mj_CP mX7_isBanned (shX ++ shM) [.ref 37, .int d, .int day] x (bi (lp_any (mn_has x d day) nb)) := by
  refine mj_startP (ls := [some (.ref 37), some (.int d), some (.int day), none, none]) (by decide) rfl rfl (fun Q hQ => ?_)
  have loop : ∀ (k j : Nat), j ≤ nb → nb < j + k → mj_V mX7_isBanned (shX ++ shM) Q x 5 [some (.ref 37), some (.int d), some (.int day), some (.int (bi (lp_any (mn_has x d day) j))), some (.int (nI j))] [] := by
    intro k
    induction k with
    | zero => intro j h1 h2; omega
    | succ k ih =>
      intro j h1 h2 
      refine mj_ild dX7_isBanned_5 rfl ?_
      refine mj_aldn dX7_isBanned_7 rfl ?_
      refine mj_geti fkX7_199 dX7_isBanned_8 rfl rfl ?_
      refine mj_ic_ge (tgt := 64) dX7_isBanned_11 rfl (fun h_11 => ?_) (fun h_11 => ?_)
      · have hj : j = nb := by rw [hs, nI_leI (by omega) (by omega)] at h_11; omega
        subst hj
        refine mj_ildn dX7_isBanned_64 rfl ?_
        refine mj_retz rfl (bi_or _) dX7_isBanned_65 ?_
        exact hQ
      · have hlt : j < nb := by rw [hs, nI_leI (by omega) (by omega)] at h_11; omega
        refine mj_ildn dX7_isBanned_14 rfl ?_
        refine mj_if_ne (tgt := 52) dX7_isBanned_15 rfl (fun h_15 => ?_) (fun h_15 => ?_)
        · rw [bi_nz] at h_15
          refine mj_iconst dX7_isBanned_52 ni_1 ?_
          refine mj_goto (tgt := 57) dX7_isBanned_53 rfl ?_
          refine mj_istn3 dX7_isBanned_57 rfl ?_
          refine mj_inc4 dX7_isBanned_58 ni_1 rfl ?_
          refine mj_goto (tgt := 5) dX7_isBanned_61 rfl ?_
          exact mj_ls (ih (j + 1) (by omega) (by omega)) (by rw [nI_1, lp_any, h_15]; rfl)
        · rw [bi_z] at h_15
          refine mj_aldn dX7_isBanned_18 rfl ?_
          refine mj_getr fkX7_43 dX7_isBanned_19 rfl rfl ?_
          refine mj_ild dX7_isBanned_22 rfl ?_
          refine mj_iald dX7_isBanned_24 rfl j (by omega) rfl (by decide) ?_
          refine mj_ildn dX7_isBanned_25 rfl ?_
          refine mj_ic_ne (tgt := 56) dX7_isBanned_26 rfl (fun h_26 => ?_) (fun h_26 => ?_)
          · refine mj_iconst dX7_isBanned_56 ni_0 ?_
            refine mj_istn3 dX7_isBanned_57 rfl ?_
            refine mj_inc4 dX7_isBanned_58 ni_1 rfl ?_
            refine mj_goto (tgt := 5) dX7_isBanned_61 rfl ?_
            exact mj_ls (ih (j + 1) (by omega) (by omega)) (by rw [nI_1, lp_any, h_15, show mn_has x d day j = false from by unfold mn_has; simp; grind]; rfl)
          · refine mj_ildn dX7_isBanned_29 rfl ?_
            refine mj_i2l dX7_isBanned_30 ?_
            refine mj_aldn dX7_isBanned_31 rfl ?_
            refine mj_getr fkX7_46 dX7_isBanned_32 rfl rfl ?_
            refine mj_ild dX7_isBanned_35 rfl ?_
            refine mj_iald dX7_isBanned_37 rfl j (by omega) rfl (by decide) ?_
            refine mj_i2l dX7_isBanned_38 ?_
            refine mj_aldn dX7_isBanned_39 rfl ?_
            refine mj_ild dX7_isBanned_40 rfl ?_
            refine mj_cvp (K := mX7_lastOf) (c_mlast x j (by omega)) ckX7_lastOf lkX7_202 ⟨Nat.le_of_ble_eq_true rfl, Nat.le_of_ble_eq_true rfl⟩ rfl dX7_isBanned_42 rfl rfl (Nat.le_of_ble_eq_true rfl) ?_
            refine mj_i2l dX7_isBanned_45 ?_
            refine mj_csp (K := mX7_in) (c_in _ x day (x 50 j) (mL x j) _ _ rfl rfl) ckX7_in lkX7_79 ⟨Nat.le_of_ble_eq_true rfl, Nat.le_of_ble_eq_true rfl⟩ rfl dX7_isBanned_46 (Nat.le_of_ble_eq_true rfl) ?_
            refine mj_if_eq (tgt := 56) dX7_isBanned_49 rfl (fun h_49 => ?_) (fun h_49 => ?_)
            · rw [bi_z] at h_49; simp only [inn, decide_eq_false_iff_not] at h_49
              refine mj_iconst dX7_isBanned_56 ni_0 ?_
              refine mj_istn3 dX7_isBanned_57 rfl ?_
              refine mj_inc4 dX7_isBanned_58 ni_1 rfl ?_
              refine mj_goto (tgt := 5) dX7_isBanned_61 rfl ?_
              exact mj_ls (ih (j + 1) (by omega) (by omega)) (by rw [nI_1, lp_any, h_15, show mn_has x d day j = false from by unfold mn_has; simp; grind]; rfl)
            · rw [bi_nz] at h_49; simp only [inn, decide_eq_true_eq] at h_49
              refine mj_iconst dX7_isBanned_52 ni_1 ?_
              refine mj_goto (tgt := 57) dX7_isBanned_53 rfl ?_
              refine mj_istn3 dX7_isBanned_57 rfl ?_
              refine mj_inc4 dX7_isBanned_58 ni_1 rfl ?_
              refine mj_goto (tgt := 5) dX7_isBanned_61 rfl ?_
              exact mj_ls (ih (j + 1) (by omega) (by omega)) (by rw [nI_1, lp_any, h_15, show mn_has x d day j = true from by unfold mn_has; simp; grind]; rfl)
  refine mj_iconst dX7_isBanned_0 ni_0 ?_
  refine mj_istn3 dX7_isBanned_1 rfl ?_
  refine mj_iconst dX7_isBanned_2 ni_0 ?_
  refine mj_ist4 dX7_isBanned_3 rfl ?_
  exact loop (nb + 1) 0 (by omega) (by omega)
set_option maxHeartbeats 1000000 in
theorem c_mgives (x : mj_X) (nb : Nat) (hb : nb < 82) (hs : x 37 19 = nI nb) (d f z e g : Int32) : mj_CV mX7_gives (shX ++ shM) [.ref 37, .int d, .int f, .int z, .int e, .int g] x (fun y => y = mg x nb d f z e g) := by
  refine mj_startV (ls := [some (.ref 37), some (.int d), some (.int f), some (.int z), some (.int e), some (.int g)]) (by decide) rfl rfl (fun Q hQ => ?_)
  refine mj_aldn dX7_gives_0 rfl ?_
  refine mj_getr fkX7_43 dX7_gives_1 rfl rfl ?_
  refine mj_aldn dX7_gives_4 rfl ?_
  refine mj_geti fkX7_199 dX7_gives_5 rfl rfl ?_
  refine mj_ildn dX7_gives_8 rfl ?_
  refine mj_iast dX7_gives_9 rfl nb hb hs (by decide) ?_
  refine mj_aldn dX7_gives_10 rfl ?_
  refine mj_getr fkX7_46 dX7_gives_11 rfl rfl ?_
  refine mj_aldn dX7_gives_14 rfl ?_
  refine mj_geti fkX7_199 dX7_gives_15 rfl rfl ?_
  refine mj_ildn dX7_gives_18 rfl ?_
  refine mj_iast dX7_gives_19 rfl nb hb hs (by decide) ?_
  refine mj_aldn dX7_gives_20 rfl ?_
  refine mj_getr fkX7_49 dX7_gives_21 rfl rfl ?_
  refine mj_aldn dX7_gives_24 rfl ?_
  refine mj_geti fkX7_199 dX7_gives_25 rfl rfl ?_
  refine mj_ildn dX7_gives_28 rfl ?_
  refine mj_iast dX7_gives_29 rfl nb hb hs (by decide) ?_
  refine mj_aldn dX7_gives_30 rfl ?_
  refine mj_getr fkX7_52 dX7_gives_31 rfl rfl ?_
  refine mj_aldn dX7_gives_34 rfl ?_
  refine mj_geti fkX7_199 dX7_gives_35 rfl rfl ?_
  refine mj_ild dX7_gives_38 rfl ?_
  refine mj_iast dX7_gives_40 rfl nb hb hs (by decide) ?_
  refine mj_aldn dX7_gives_41 rfl ?_
  refine mj_getr fkX7_55 dX7_gives_42 rfl rfl ?_
  refine mj_aldn dX7_gives_45 rfl ?_
  refine mj_geti fkX7_199 dX7_gives_46 rfl rfl ?_
  refine mj_ild dX7_gives_49 rfl ?_
  refine mj_iast dX7_gives_51 rfl nb hb hs (by decide) ?_
  refine mj_aldn dX7_gives_52 rfl ?_
  refine mj_getr fkX7_58 dX7_gives_53 rfl rfl ?_
  refine mj_aldn dX7_gives_56 rfl ?_
  refine mj_geti fkX7_199 dX7_gives_57 rfl rfl ?_
  refine mj_iconst dX7_gives_60 ni_0 ?_
  refine mj_iast dX7_gives_61 rfl nb hb hs (by decide) ?_
  refine mj_aldn dX7_gives_62 rfl ?_
  refine mj_dupr dX7_gives_63 ?_
  refine mj_geti fkX7_199 dX7_gives_64 rfl rfl ?_
  refine mj_iconst dX7_gives_67 ni_1 ?_
  refine mj_iadd dX7_gives_68 ?_
  refine mj_puti fkX7_199 pkX7_19 dX7_gives_69 rfl rfl ?_
  refine mj_retv rfl dX7_gives_72 ?_
  exact hQ _ (by unfold mg; rw [← nI_1, ← hs]; rfl)
set_option maxHeartbeats 1000000 in
theorem c_mcnt (x : mj_X) (e : Nat) (he : e < 41) : mj_CP mX7_countOf (shX ++ shM) [.ref 37, .int (nI e)] x (mcnt x e) := by
  refine mj_startP (ls := [some (.ref 37), some (.int (nI e))]) (by decide) rfl rfl (fun Q hQ => ?_)
  refine mj_aldn dX7_countOf_0 rfl ?_
  refine mj_getr fkX7_37 dX7_countOf_1 rfl rfl ?_
  refine mj_ildn dX7_countOf_4 rfl ?_
  refine mj_iald dX7_countOf_5 rfl e he rfl (by decide) ?_
  refine mj_iconst dX7_countOf_6 ni_1 ?_
  refine mj_ic_eq (tgt := 31) dX7_countOf_7 rfl (fun h_7 => ?_) (fun h_7 => ?_)
  · refine mj_iconst dX7_countOf_31 ni_0 ?_
    refine mj_ret rfl dX7_countOf_32 ?_
    exact mj_q hQ (by unfold mcnt; simp [h_7])
  · refine mj_aldn dX7_countOf_10 rfl ?_
    refine mj_ildn dX7_countOf_11 rfl ?_
    refine mj_bipush dX7_countOf_12 nb_7 ?_
    refine mj_cvp (K := mX7_of) (c_of x e 7 (by omega)) ckX7_of lkX7_164 ⟨Nat.le_of_ble_eq_true rfl, Nat.le_of_ble_eq_true rfl⟩ rfl dX7_countOf_14 rfl rfl (Nat.le_of_ble_eq_true rfl) ?_
    refine mj_iconst dX7_countOf_17 ni_1 ?_
    refine mj_ic_eq (tgt := 31) dX7_countOf_18 rfl (fun h_18 => ?_) (fun h_18 => ?_)
    · refine mj_iconst dX7_countOf_31 ni_0 ?_
      refine mj_ret rfl dX7_countOf_32 ?_
      exact mj_q hQ (by unfold mcnt; simp [h_7, h_18])
    · refine mj_aldn dX7_countOf_21 rfl ?_
      refine mj_ildn dX7_countOf_22 rfl ?_
      refine mj_iconst dX7_countOf_23 ni_2 ?_
      refine mj_cvp (K := mX7_of) (c_of x e 2 (by omega)) ckX7_of lkX7_164 ⟨Nat.le_of_ble_eq_true rfl, Nat.le_of_ble_eq_true rfl⟩ rfl dX7_countOf_24 rfl rfl (Nat.le_of_ble_eq_true rfl) ?_
      refine mj_iconst dX7_countOf_27 ni_2 ?_
      refine mj_ic_ne (tgt := 33) dX7_countOf_28 rfl (fun h_28 => ?_) (fun h_28 => ?_)
      · refine mj_aldn dX7_countOf_33 rfl ?_
        refine mj_ildn dX7_countOf_34 rfl ?_
        refine mj_iconst dX7_countOf_35 ni_2 ?_
        refine mj_cvp (K := mX7_of) (c_of x e 2 (by omega)) ckX7_of lkX7_164 ⟨Nat.le_of_ble_eq_true rfl, Nat.le_of_ble_eq_true rfl⟩ rfl dX7_countOf_36 rfl rfl (Nat.le_of_ble_eq_true rfl) ?_
        refine mj_iconst dX7_countOf_39 ni_1 ?_
        refine mj_ic_ne (tgt := 48) dX7_countOf_40 rfl (fun h_40 => ?_) (fun h_40 => ?_)
        · refine mj_aldn dX7_countOf_48 rfl ?_
          refine mj_ildn dX7_countOf_49 rfl ?_
          refine mj_iconst dX7_countOf_50 ni_5 ?_
          refine mj_cvp (K := mX7_of) (c_of x e 5 (by omega)) ckX7_of lkX7_164 ⟨Nat.le_of_ble_eq_true rfl, Nat.le_of_ble_eq_true rfl⟩ rfl dX7_countOf_51 rfl rfl (Nat.le_of_ble_eq_true rfl) ?_
          refine mj_aldn dX7_countOf_54 rfl ?_
          refine mj_getr fkX7_34 dX7_countOf_55 rfl rfl ?_
          refine mj_ildn dX7_countOf_58 rfl ?_
          refine mj_iald dX7_countOf_59 rfl e he rfl (by decide) ?_
          refine mj_iconst dX7_countOf_60 ni_1 ?_
          refine mj_ic_ne (tgt := 68) dX7_countOf_61 rfl (fun h_61 => ?_) (fun h_61 => ?_)
          · refine mj_iconst dX7_countOf_68 ni_1 ?_
            refine mj_imul dX7_countOf_69 ?_
            refine mj_ret rfl dX7_countOf_70 ?_
            exact mj_q hQ (by unfold mcnt; simp [h_7, h_18, h_28, h_40, h_61])
          · refine mj_iconst dX7_countOf_64 ni_2 ?_
            refine mj_goto (tgt := 69) dX7_countOf_65 rfl ?_
            refine mj_imul dX7_countOf_69 ?_
            refine mj_ret rfl dX7_countOf_70 ?_
            exact mj_q hQ (by unfold mcnt; simp [h_7, h_18, h_28, h_40, h_61])
        · refine mj_bipush dX7_countOf_43 nb_m3 ?_
          refine mj_goto (tgt := 70) dX7_countOf_45 rfl ?_
          refine mj_ret rfl dX7_countOf_70 ?_
          exact mj_q hQ (by unfold mcnt; simp [h_7, h_18, h_28, h_40])
      · refine mj_iconst dX7_countOf_31 ni_0 ?_
        refine mj_ret rfl dX7_countOf_32 ?_
        exact mj_q hQ (by unfold mcnt; simp [h_7, h_18, h_28])
set_option maxHeartbeats 1000000 in
theorem c_mgreat (x : mj_X) (nb : Nat) (hb : nb ≤ 82) (hs : x 37 19 = nI nb) (hby : ∀ b, b < nb → ∃ e, e < 41 ∧ x 52 b = nI e) (d day : Int32) : mj_CP mX7_greatOnes (shX ++ shM) [.ref 37, .int d, .int day] x (lp_f (mgrF x d day) 0 nb) := by
  refine mj_startP (ls := [some (.ref 37), some (.int d), some (.int day), none, none]) (by decide) rfl rfl (fun Q hQ => ?_)
  have loop : ∀ (k j : Nat), j ≤ nb → nb < j + k → mj_V mX7_greatOnes (shX ++ shM) Q x 5 [some (.ref 37), some (.int d), some (.int day), some (.int (lp_f (mgrF x d day) 0 j)), some (.int (nI j))] [] := by
    intro k
    induction k with
    | zero => intro j h1 h2; omega
    | succ k ih =>
      intro j h1 h2 
      refine mj_ild dX7_greatOnes_5 rfl ?_
      refine mj_aldn dX7_greatOnes_7 rfl ?_
      refine mj_geti fkX7_199 dX7_greatOnes_8 rfl rfl ?_
      refine mj_ic_ge (tgt := 79) dX7_greatOnes_11 rfl (fun h_11 => ?_) (fun h_11 => ?_)
      · have hj : j = nb := by rw [hs, nI_leI (by omega) (by omega)] at h_11; omega
        subst hj
        refine mj_ildn dX7_greatOnes_79 rfl ?_
        refine mj_ret rfl dX7_greatOnes_80 ?_
        exact hQ
      · have hlt : j < nb := by rw [hs, nI_leI (by omega) (by omega)] at h_11; omega
        obtain ⟨e, he, hbe⟩ := hby j hlt
        have ee : (x 52 j).toNatClampNeg = e := by rw [hbe]; exact nI_clamp (by omega)
        refine mj_ildn dX7_greatOnes_14 rfl ?_
        refine mj_aldn dX7_greatOnes_15 rfl ?_
        refine mj_getr fkX7_43 dX7_greatOnes_16 rfl rfl ?_
        refine mj_ild dX7_greatOnes_19 rfl ?_
        refine mj_iald dX7_greatOnes_21 rfl j (by omega) rfl (by decide) ?_
        refine mj_ildn dX7_greatOnes_22 rfl ?_
        refine mj_ic_ne (tgt := 70) dX7_greatOnes_23 rfl (fun h_23 => ?_) (fun h_23 => ?_)
        · refine mj_iconst dX7_greatOnes_70 ni_0 ?_
          refine mj_iadd dX7_greatOnes_71 ?_
          refine mj_istn3 dX7_greatOnes_72 rfl ?_
          refine mj_inc4 dX7_greatOnes_73 ni_1 rfl ?_
          refine mj_goto (tgt := 5) dX7_greatOnes_76 rfl ?_
          exact mj_ls (ih (j + 1) (by omega) (by omega)) (by clear ih; simp [lp_f, nI_1, mgrF, ee] <;> grind)
        · refine mj_aldn dX7_greatOnes_26 rfl ?_
          refine mj_getr fkX7_55 dX7_greatOnes_27 rfl rfl ?_
          refine mj_ild dX7_greatOnes_30 rfl ?_
          refine mj_iald dX7_greatOnes_32 rfl j (by omega) rfl (by decide) ?_
          refine mj_iconst dX7_greatOnes_33 ni_1 ?_
          refine mj_ic_ne (tgt := 70) dX7_greatOnes_34 rfl (fun h_34 => ?_) (fun h_34 => ?_)
          · refine mj_iconst dX7_greatOnes_70 ni_0 ?_
            refine mj_iadd dX7_greatOnes_71 ?_
            refine mj_istn3 dX7_greatOnes_72 rfl ?_
            refine mj_inc4 dX7_greatOnes_73 ni_1 rfl ?_
            refine mj_goto (tgt := 5) dX7_greatOnes_76 rfl ?_
            exact mj_ls (ih (j + 1) (by omega) (by omega)) (by clear ih; simp [lp_f, nI_1, mgrF, ee] <;> grind)
          · refine mj_aldn dX7_greatOnes_37 rfl ?_
            refine mj_aldn dX7_greatOnes_38 rfl ?_
            refine mj_getr fkX7_52 dX7_greatOnes_39 rfl rfl ?_
            refine mj_ild dX7_greatOnes_42 rfl ?_
            refine mj_iald dX7_greatOnes_44 rfl j (by omega) rfl (by decide) ?_
            rw [hbe]
            refine mj_iconst dX7_greatOnes_45 ni_1 ?_
            refine mj_cvp (K := mX7_of) (c_of x e 1 (by omega)) ckX7_of lkX7_164 ⟨Nat.le_of_ble_eq_true rfl, Nat.le_of_ble_eq_true rfl⟩ rfl dX7_greatOnes_46 rfl rfl (Nat.le_of_ble_eq_true rfl) ?_
            refine mj_i2l dX7_greatOnes_49 ?_
            refine mj_ildn dX7_greatOnes_50 rfl ?_
            refine mj_aldn dX7_greatOnes_51 rfl ?_
            refine mj_iconst dX7_greatOnes_52 ni_3 ?_
            refine mj_cvp (K := mX7_ruleOf) (c_ruleOf x 3 (by decide)) ckX7_ruleOf lkX7_145 ⟨Nat.le_of_ble_eq_true rfl, Nat.le_of_ble_eq_true rfl⟩ rfl dX7_greatOnes_53 rfl rfl (Nat.le_of_ble_eq_true rfl) ?_
            refine mj_isub dX7_greatOnes_56 ?_
            refine mj_i2l dX7_greatOnes_57 ?_
            refine mj_ildn dX7_greatOnes_58 rfl ?_
            refine mj_i2l dX7_greatOnes_59 ?_
            refine mj_csp (K := mX7_in) (c_in _ x (mE x e 1) (day - x 39 331) day _ _ rfl rfl) ckX7_in lkX7_79 ⟨Nat.le_of_ble_eq_true rfl, Nat.le_of_ble_eq_true rfl⟩ rfl dX7_greatOnes_60 (Nat.le_of_ble_eq_true rfl) ?_
            refine mj_if_eq (tgt := 70) dX7_greatOnes_63 rfl (fun h_63 => ?_) (fun h_63 => ?_)
            · rw [bi_z] at h_63; simp only [inn, decide_eq_false_iff_not] at h_63
              refine mj_iconst dX7_greatOnes_70 ni_0 ?_
              refine mj_iadd dX7_greatOnes_71 ?_
              refine mj_istn3 dX7_greatOnes_72 rfl ?_
              refine mj_inc4 dX7_greatOnes_73 ni_1 rfl ?_
              refine mj_goto (tgt := 5) dX7_greatOnes_76 rfl ?_
              exact mj_ls (ih (j + 1) (by omega) (by omega)) (by clear ih; simp [lp_f, nI_1, mgrF, ee] <;> grind)
            · rw [bi_nz] at h_63; simp only [inn, decide_eq_true_eq] at h_63
              refine mj_iconst dX7_greatOnes_66 ni_1 ?_
              refine mj_goto (tgt := 71) dX7_greatOnes_67 rfl ?_
              refine mj_iadd dX7_greatOnes_71 ?_
              refine mj_istn3 dX7_greatOnes_72 rfl ?_
              refine mj_inc4 dX7_greatOnes_73 ni_1 rfl ?_
              refine mj_goto (tgt := 5) dX7_greatOnes_76 rfl ?_
              exact mj_ls (ih (j + 1) (by omega) (by omega)) (by clear ih; simp [lp_f, nI_1, mgrF, ee] <;> grind)
  refine mj_iconst dX7_greatOnes_0 ni_0 ?_
  refine mj_istn3 dX7_greatOnes_1 rfl ?_
  refine mj_iconst dX7_greatOnes_2 ni_0 ?_
  refine mj_ist4 dX7_greatOnes_3 rfl ?_
  exact loop (nb + 1) 0 (by omega) (by omega)
set_option maxHeartbeats 1000000 in
theorem c_mbeg (x : mj_X) (nb : Nat) (hb : nb ≤ 82) (hs : x 37 19 = nI nb) (d day : Int32) : mj_CP mX7_beginOf (shX ++ shM) [.ref 37, .int d, .int day] x (lp_f (mbgF x d) day nb) := by
  refine mj_startP (ls := [some (.ref 37), some (.int d), some (.int day), none, none]) (by decide) rfl rfl (fun Q hQ => ?_)
  have loop : ∀ (k j : Nat), j ≤ nb → nb < j + k → mj_V mX7_beginOf (shX ++ shM) Q x 5 [some (.ref 37), some (.int d), some (.int day), some (.int (lp_f (mbgF x d) day j)), some (.int (nI j))] [] := by
    intro k
    induction k with
    | zero => intro j h1 h2; omega
    | succ k ih =>
      intro j h1 h2 
      refine mj_ild dX7_beginOf_5 rfl ?_
      refine mj_aldn dX7_beginOf_7 rfl ?_
      refine mj_geti fkX7_199 dX7_beginOf_8 rfl rfl ?_
      refine mj_ic_ge (tgt := 54) dX7_beginOf_11 rfl (fun h_11 => ?_) (fun h_11 => ?_)
      · have hj : j = nb := by rw [hs, nI_leI (by omega) (by omega)] at h_11; omega
        subst hj
        refine mj_ildn dX7_beginOf_54 rfl ?_
        refine mj_ret rfl dX7_beginOf_55 ?_
        exact hQ
      · have hlt : j < nb := by rw [hs, nI_leI (by omega) (by omega)] at h_11; omega
        refine mj_aldn dX7_beginOf_14 rfl ?_
        refine mj_getr fkX7_43 dX7_beginOf_15 rfl rfl ?_
        refine mj_ild dX7_beginOf_18 rfl ?_
        refine mj_iald dX7_beginOf_20 rfl j (by omega) rfl (by decide) ?_
        refine mj_ildn dX7_beginOf_21 rfl ?_
        refine mj_ic_ne (tgt := 46) dX7_beginOf_22 rfl (fun h_22 => ?_) (fun h_22 => ?_)
        · refine mj_ildn dX7_beginOf_46 rfl ?_
          refine mj_istn3 dX7_beginOf_47 rfl ?_
          refine mj_inc4 dX7_beginOf_48 ni_1 rfl ?_
          refine mj_goto (tgt := 5) dX7_beginOf_51 rfl ?_
          exact mj_ls (ih (j + 1) (by omega) (by omega)) (by clear ih; simp [lp_f, nI_1, mbgF] <;> grind)
        · refine mj_aldn dX7_beginOf_25 rfl ?_
          refine mj_ild dX7_beginOf_26 rfl ?_
          refine mj_cvp (K := mX7_lastOf) (c_mlast x j (by omega)) ckX7_lastOf lkX7_202 ⟨Nat.le_of_ble_eq_true rfl, Nat.le_of_ble_eq_true rfl⟩ rfl dX7_beginOf_28 rfl rfl (Nat.le_of_ble_eq_true rfl) ?_
          refine mj_ildn dX7_beginOf_31 rfl ?_
          refine mj_ic_lt (tgt := 46) dX7_beginOf_32 rfl (fun h_32 => ?_) (fun h_32 => ?_)
          · refine mj_ildn dX7_beginOf_46 rfl ?_
            refine mj_istn3 dX7_beginOf_47 rfl ?_
            refine mj_inc4 dX7_beginOf_48 ni_1 rfl ?_
            refine mj_goto (tgt := 5) dX7_beginOf_51 rfl ?_
            exact mj_ls (ih (j + 1) (by omega) (by omega)) (by clear ih; simp [lp_f, nI_1, mbgF] <;> grind)
          · refine mj_aldn dX7_beginOf_35 rfl ?_
            refine mj_ild dX7_beginOf_36 rfl ?_
            refine mj_cvp (K := mX7_lastOf) (c_mlast x j (by omega)) ckX7_lastOf lkX7_202 ⟨Nat.le_of_ble_eq_true rfl, Nat.le_of_ble_eq_true rfl⟩ rfl dX7_beginOf_38 rfl rfl (Nat.le_of_ble_eq_true rfl) ?_
            refine mj_iconst dX7_beginOf_41 ni_1 ?_
            refine mj_iadd dX7_beginOf_42 ?_
            refine mj_goto (tgt := 47) dX7_beginOf_43 rfl ?_
            refine mj_istn3 dX7_beginOf_47 rfl ?_
            refine mj_inc4 dX7_beginOf_48 ni_1 rfl ?_
            refine mj_goto (tgt := 5) dX7_beginOf_51 rfl ?_
            exact mj_ls (ih (j + 1) (by omega) (by omega)) (by clear ih; simp [lp_f, nI_1, mbgF] <;> grind)
  refine mj_ildn dX7_beginOf_0 rfl ?_
  refine mj_istn3 dX7_beginOf_1 rfl ?_
  refine mj_iconst dX7_beginOf_2 ni_0 ?_
  refine mj_ist4 dX7_beginOf_3 rfl ?_
  exact loop (nb + 1) 0 (by omega) (by omega)
set_option maxHeartbeats 1000000 in
theorem c_mend (x : mj_X) (nb : Nat) (hb : nb ≤ 82) (hs : x 37 19 = nI nb) (d : Int32) : mj_CP mX7_endOf (shX ++ shM) [.ref 37, .int d] x (lp_f (menF x d) (-1) nb) := by
  refine mj_startP (ls := [some (.ref 37), some (.int d), none, none]) (by decide) rfl rfl (fun Q hQ => ?_)
  have loop : ∀ (k j : Nat), j ≤ nb → nb < j + k → mj_V mX7_endOf (shX ++ shM) Q x 4 [some (.ref 37), some (.int d), some (.int (lp_f (menF x d) (-1) j)), some (.int (nI j))] [] := by
    intro k
    induction k with
    | zero => intro j h1 h2; omega
    | succ k ih =>
      intro j h1 h2 
      refine mj_ildn dX7_endOf_4 rfl ?_
      refine mj_aldn dX7_endOf_5 rfl ?_
      refine mj_geti fkX7_199 dX7_endOf_6 rfl rfl ?_
      refine mj_ic_ge (tgt := 47) dX7_endOf_9 rfl (fun h_9 => ?_) (fun h_9 => ?_)
      · have hj : j = nb := by rw [hs, nI_leI (by omega) (by omega)] at h_9; omega
        subst hj
        refine mj_ildn dX7_endOf_47 rfl ?_
        refine mj_ret rfl dX7_endOf_48 ?_
        exact hQ
      · have hlt : j < nb := by rw [hs, nI_leI (by omega) (by omega)] at h_9; omega
        refine mj_aldn dX7_endOf_12 rfl ?_
        refine mj_getr fkX7_43 dX7_endOf_13 rfl rfl ?_
        refine mj_ildn dX7_endOf_16 rfl ?_
        refine mj_iald dX7_endOf_17 rfl j (by omega) rfl (by decide) ?_
        refine mj_ildn dX7_endOf_18 rfl ?_
        refine mj_ic_ne (tgt := 39) dX7_endOf_19 rfl (fun h_19 => ?_) (fun h_19 => ?_)
        · refine mj_ildn dX7_endOf_39 rfl ?_
          refine mj_istn2 dX7_endOf_40 rfl ?_
          refine mj_inc3 dX7_endOf_41 ni_1 rfl ?_
          refine mj_goto (tgt := 4) dX7_endOf_44 rfl ?_
          exact mj_ls (ih (j + 1) (by omega) (by omega)) (by clear ih; simp [lp_f, nI_1, menF] <;> grind)
        · refine mj_aldn dX7_endOf_22 rfl ?_
          refine mj_ildn dX7_endOf_23 rfl ?_
          refine mj_cvp (K := mX7_lastOf) (c_mlast x j (by omega)) ckX7_lastOf lkX7_202 ⟨Nat.le_of_ble_eq_true rfl, Nat.le_of_ble_eq_true rfl⟩ rfl dX7_endOf_24 rfl rfl (Nat.le_of_ble_eq_true rfl) ?_
          refine mj_ildn dX7_endOf_27 rfl ?_
          refine mj_ic_le (tgt := 39) dX7_endOf_28 rfl (fun h_28 => ?_) (fun h_28 => ?_)
          · refine mj_ildn dX7_endOf_39 rfl ?_
            refine mj_istn2 dX7_endOf_40 rfl ?_
            refine mj_inc3 dX7_endOf_41 ni_1 rfl ?_
            refine mj_goto (tgt := 4) dX7_endOf_44 rfl ?_
            exact mj_ls (ih (j + 1) (by omega) (by omega)) (by clear ih; simp [lp_f, nI_1, menF] <;> grind)
          · refine mj_aldn dX7_endOf_31 rfl ?_
            refine mj_ildn dX7_endOf_32 rfl ?_
            refine mj_cvp (K := mX7_lastOf) (c_mlast x j (by omega)) ckX7_lastOf lkX7_202 ⟨Nat.le_of_ble_eq_true rfl, Nat.le_of_ble_eq_true rfl⟩ rfl dX7_endOf_33 rfl rfl (Nat.le_of_ble_eq_true rfl) ?_
            refine mj_goto (tgt := 40) dX7_endOf_36 rfl ?_
            refine mj_istn2 dX7_endOf_40 rfl ?_
            refine mj_inc3 dX7_endOf_41 ni_1 rfl ?_
            refine mj_goto (tgt := 4) dX7_endOf_44 rfl ?_
            exact mj_ls (ih (j + 1) (by omega) (by omega)) (by clear ih; simp [lp_f, nI_1, menF] <;> grind)
  refine mj_iconst dX7_endOf_0 ni_m1 ?_
  refine mj_istn2 dX7_endOf_1 rfl ?_
  refine mj_iconst dX7_endOf_2 ni_0 ?_
  refine mj_istn3 dX7_endOf_3 rfl ?_
  exact loop (nb + 1) 0 (by omega) (by omega)
theorem msh_val (x : mj_X) (d t : Int32) : ∀ n : Nat, lp_f (mshF x d t) (-4) n = -4 ∨ ∃ j, j < n ∧ lp_f (mshF x d t) (-4) n = nI j
  | 0 => Or.inl rfl
  | n + 1 => by
    rw [lp_f]
    unfold mshF
    split
    · exact Or.inr ⟨n, by omega, rfl⟩
    · rcases msh_val x d t n with h | ⟨j, h1, h2⟩
      · exact Or.inl h
      · exact Or.inr ⟨j, by omega, h2⟩
set_option maxHeartbeats 1000000 in
theorem c_mtosh (x : mj_X) (nb : Nat) (hb : nb ≤ 82) (hs : x 37 19 = nI nb) (d t : Int32) : mj_CP mX7_toShorten (shX ++ shM) [.ref 37, .int d, .int t] x (lp_f (mshF x d t) (-4) nb) := by
  refine mj_startP (ls := [some (.ref 37), some (.int d), some (.int t), none, none]) (by decide) rfl rfl (fun Q hQ => ?_)
  have loop : ∀ (k j : Nat), j ≤ nb → nb < j + k → mj_V mX7_toShorten (shX ++ shM) Q x 6 [some (.ref 37), some (.int d), some (.int t), some (.int (lp_f (mshF x d t) (-4) j)), some (.int (nI j))] [] := by
    intro k
    induction k with
    | zero => intro j h1 h2; omega
    | succ k ih =>
      intro j h1 h2 
      refine mj_ild dX7_toShorten_6 rfl ?_
      refine mj_aldn dX7_toShorten_8 rfl ?_
      refine mj_geti fkX7_199 dX7_toShorten_9 rfl rfl ?_
      refine mj_ic_ge (tgt := 88) dX7_toShorten_12 rfl (fun h_12 => ?_) (fun h_12 => ?_)
      · have hj : j = nb := by rw [hs, nI_leI (by omega) (by omega)] at h_12; omega
        subst hj
        refine mj_ildn dX7_toShorten_88 rfl ?_
        refine mj_ret rfl dX7_toShorten_89 ?_
        exact hQ
      · have hlt : j < nb := by rw [hs, nI_leI (by omega) (by omega)] at h_12; omega
        refine mj_aldn dX7_toShorten_15 rfl ?_
        refine mj_getr fkX7_43 dX7_toShorten_16 rfl rfl ?_
        refine mj_ild dX7_toShorten_19 rfl ?_
        refine mj_iald dX7_toShorten_21 rfl j (by omega) rfl (by decide) ?_
        refine mj_ildn dX7_toShorten_22 rfl ?_
        refine mj_ic_ne (tgt := 82) dX7_toShorten_23 rfl (fun h_23 => ?_) (fun h_23 => ?_)
        · refine mj_inc4 dX7_toShorten_82 ni_1 rfl ?_
          refine mj_goto (tgt := 6) dX7_toShorten_85 rfl ?_
          exact mj_ls (ih (j + 1) (by omega) (by omega)) (by clear ih; rw [lp_f, nI_1, mshF, if_neg (by grind)])
        · refine mj_aldn dX7_toShorten_26 rfl ?_
          refine mj_getr fkX7_58 dX7_toShorten_27 rfl rfl ?_
          refine mj_ild dX7_toShorten_30 rfl ?_
          refine mj_iald dX7_toShorten_32 rfl j (by omega) rfl (by decide) ?_
          refine mj_if_ne (tgt := 82) dX7_toShorten_33 rfl (fun h_33 => ?_) (fun h_33 => ?_)
          · refine mj_inc4 dX7_toShorten_82 ni_1 rfl ?_
            refine mj_goto (tgt := 6) dX7_toShorten_85 rfl ?_
            exact mj_ls (ih (j + 1) (by omega) (by omega)) (by clear ih; rw [lp_f, nI_1, mshF, if_neg (by grind)])
          · refine mj_ildn dX7_toShorten_36 rfl ?_
            refine mj_i2l dX7_toShorten_37 ?_
            refine mj_aldn dX7_toShorten_38 rfl ?_
            refine mj_getr fkX7_46 dX7_toShorten_39 rfl rfl ?_
            refine mj_ild dX7_toShorten_42 rfl ?_
            refine mj_iald dX7_toShorten_44 rfl j (by omega) rfl (by decide) ?_
            refine mj_i2l dX7_toShorten_45 ?_
            refine mj_aldn dX7_toShorten_46 rfl ?_
            refine mj_ild dX7_toShorten_47 rfl ?_
            refine mj_cvp (K := mX7_lastOf) (c_mlast x j (by omega)) ckX7_lastOf lkX7_202 ⟨Nat.le_of_ble_eq_true rfl, Nat.le_of_ble_eq_true rfl⟩ rfl dX7_toShorten_49 rfl rfl (Nat.le_of_ble_eq_true rfl) ?_
            refine mj_i2l dX7_toShorten_52 ?_
            refine mj_csp (K := mX7_in) (c_in _ x t (x 50 j) (mL x j) _ _ rfl rfl) ckX7_in lkX7_79 ⟨Nat.le_of_ble_eq_true rfl, Nat.le_of_ble_eq_true rfl⟩ rfl dX7_toShorten_53 (Nat.le_of_ble_eq_true rfl) ?_
            refine mj_if_eq (tgt := 82) dX7_toShorten_56 rfl (fun h_56 => ?_) (fun h_56 => ?_)
            · rw [bi_z] at h_56; simp only [inn, decide_eq_false_iff_not] at h_56
              refine mj_inc4 dX7_toShorten_82 ni_1 rfl ?_
              refine mj_goto (tgt := 6) dX7_toShorten_85 rfl ?_
              exact mj_ls (ih (j + 1) (by omega) (by omega)) (by clear ih; rw [lp_f, nI_1, mshF, if_neg (by grind)])
            · rw [bi_nz] at h_56; simp only [inn, decide_eq_true_eq] at h_56
              refine mj_ildn dX7_toShorten_59 rfl ?_
              refine mj_bipush dX7_toShorten_60 nb_m4 ?_
              refine mj_ic_eq (tgt := 79) dX7_toShorten_62 rfl (fun h_62 => ?_) (fun h_62 => ?_)
              · refine mj_ild dX7_toShorten_79 rfl ?_
                refine mj_istn3 dX7_toShorten_81 rfl ?_
                refine mj_inc4 dX7_toShorten_82 ni_1 rfl ?_
                refine mj_goto (tgt := 6) dX7_toShorten_85 rfl ?_
                exact mj_ls (ih (j + 1) (by omega) (by omega)) (by clear ih; rw [lp_f, nI_1, mshF, if_pos ⟨h_23, h_33, h_56.1, h_56.2, Or.inl h_62⟩])
              · obtain ⟨i, hi1, hi2⟩ : ∃ i, i < j ∧ lp_f (mshF x d t) (-4) j = nI i := by
                  rcases msh_val x d t j with h | h
                  · exact absurd h h_62
                  · exact h
                have ec : (nI i).toNatClampNeg = i := nI_clamp (by omega)
                refine mj_aldn dX7_toShorten_65 rfl ?_
                refine mj_ild dX7_toShorten_66 rfl ?_
                refine mj_cvp (K := mX7_lastOf) (c_mlast x j (by omega)) ckX7_lastOf lkX7_202 ⟨Nat.le_of_ble_eq_true rfl, Nat.le_of_ble_eq_true rfl⟩ rfl dX7_toShorten_68 rfl rfl (Nat.le_of_ble_eq_true rfl) ?_
                refine mj_aldn dX7_toShorten_71 rfl ?_
                refine mj_ildn dX7_toShorten_72 rfl ?_
                rw [hi2]
                refine mj_cvp (K := mX7_lastOf) (c_mlast x i (by omega)) ckX7_lastOf lkX7_202 ⟨Nat.le_of_ble_eq_true rfl, Nat.le_of_ble_eq_true rfl⟩ rfl dX7_toShorten_73 rfl rfl (Nat.le_of_ble_eq_true rfl) ?_
                refine mj_ic_lt (tgt := 82) dX7_toShorten_76 rfl (fun h_76 => ?_) (fun h_76 => ?_)
                · refine mj_inc4 dX7_toShorten_82 ni_1 rfl ?_
                  refine mj_goto (tgt := 6) dX7_toShorten_85 rfl ?_
                  exact mj_ls (ih (j + 1) (by omega) (by omega)) (by clear ih; rw [lp_f, nI_1, mshF, if_neg (by rw [hi2, ec]; grind), hi2])
                · refine mj_ild dX7_toShorten_79 rfl ?_
                  refine mj_istn3 dX7_toShorten_81 rfl ?_
                  refine mj_inc4 dX7_toShorten_82 ni_1 rfl ?_
                  refine mj_goto (tgt := 6) dX7_toShorten_85 rfl ?_
                  exact mj_ls (ih (j + 1) (by omega) (by omega)) (by clear ih; rw [lp_f, nI_1, mshF, if_pos ⟨h_23, h_33, h_56.1, h_56.2, Or.inr (by rw [hi2, ec]; grind)⟩])
  refine mj_bipush dX7_toShorten_0 nb_m4 ?_
  refine mj_istn3 dX7_toShorten_2 rfl ?_
  refine mj_iconst dX7_toShorten_3 ni_0 ?_
  refine mj_ist4 dX7_toShorten_4 rfl ?_
  exact loop (nb + 1) 0 (by omega) (by omega)
def m_atP (x : mj_X) (d k : Int32) (j : Nat) : Bool := decide (x 49 j = d ∧ lp_f (mctF x d) 0 j = k)
set_option maxHeartbeats 1000000 in
theorem c_mbanAt (x : mj_X) (nb : Nat) (hb : nb ≤ 82) (hs : x 37 19 = nI nb) (d k0 : Int32) : mj_CP mX7_banAt (shX ++ shM) [.ref 37, .int d, .int k0] x (opI (lp_find (m_atP x d k0) nb 0) (fun j => nI j) (-4)) := by
  refine mj_startP (ls := [some (.ref 37), some (.int d), some (.int k0), none, none]) (by decide) rfl rfl (fun Q hQ => ?_)
  have loop : ∀ (k j : Nat), j ≤ nb → nb < j + k → (∀ i, i < j → m_atP x d k0 i = false) → mj_V mX7_banAt (shX ++ shM) Q x 5 [some (.ref 37), some (.int d), some (.int k0), some (.int (lp_f (mctF x d) 0 j)), some (.int (nI j))] [] := by
    intro k
    induction k with
    | zero => intro j h1 h2; omega
    | succ k ih =>
      intro j h1 h2 hp
      refine mj_ild dX7_banAt_5 rfl ?_
      refine mj_aldn dX7_banAt_7 rfl ?_
      refine mj_geti fkX7_199 dX7_banAt_8 rfl rfl ?_
      refine mj_ic_ge (tgt := 42) dX7_banAt_11 rfl (fun h_11 => ?_) (fun h_11 => ?_)
      · have hj : j = nb := by rw [hs, nI_leI (by omega) (by omega)] at h_11; omega
        subst hj
        refine mj_bipush dX7_banAt_42 nb_m4 ?_
        refine mj_ret rfl dX7_banAt_44 ?_
        exact mj_q hQ (by rw [lp_find_no j 0 j (by omega) (fun i _ h => hp i h)]; rfl)
      · have hlt : j < nb := by rw [hs, nI_leI (by omega) (by omega)] at h_11; omega
        refine mj_aldn dX7_banAt_14 rfl ?_
        refine mj_getr fkX7_43 dX7_banAt_15 rfl rfl ?_
        refine mj_ild dX7_banAt_18 rfl ?_
        refine mj_iald dX7_banAt_20 rfl j (by omega) rfl (by decide) ?_
        refine mj_ildn dX7_banAt_21 rfl ?_
        refine mj_ic_ne (tgt := 36) dX7_banAt_22 rfl (fun h_22 => ?_) (fun h_22 => ?_)
        · refine mj_inc4 dX7_banAt_36 ni_1 rfl ?_
          refine mj_goto (tgt := 5) dX7_banAt_39 rfl ?_
          exact mj_ls (ih (j + 1) (by omega) (by omega) (lt_s hp (by simp [m_atP, h_11, h_22]))) (by simp [lp_f, nI_1, mctF, h_11, h_22])
        · refine mj_ildn dX7_banAt_25 rfl ?_
          refine mj_ildn dX7_banAt_26 rfl ?_
          refine mj_ic_ne (tgt := 33) dX7_banAt_27 rfl (fun h_27 => ?_) (fun h_27 => ?_)
          · refine mj_inc3 dX7_banAt_33 ni_1 rfl ?_
            refine mj_inc4 dX7_banAt_36 ni_1 rfl ?_
            refine mj_goto (tgt := 5) dX7_banAt_39 rfl ?_
            exact mj_ls (ih (j + 1) (by omega) (by omega) (lt_s hp (by simp [m_atP, h_11, h_22, h_27]))) (by simp [lp_f, nI_1, mctF, h_11, h_22, h_27])
          · refine mj_ild dX7_banAt_30 rfl ?_
            refine mj_ret rfl dX7_banAt_32 ?_
            exact mj_q hQ (by rw [lp_find_yes (i := j) (by simp [m_atP, h_22, h_27]) nb 0 (by omega) (by omega) (fun l _ h => hp l h)]; rfl)
  refine mj_iconst dX7_banAt_0 ni_0 ?_
  refine mj_istn3 dX7_banAt_1 rfl ?_
  refine mj_iconst dX7_banAt_2 ni_0 ?_
  refine mj_ist4 dX7_banAt_3 rfl ?_
  exact loop (nb + 1) 0 (by omega) (by omega) (fun i hi => by omega)
set_option maxHeartbeats 1000000 in
theorem c_mwl (x : mj_X) (n : Nat) (hn : n ≤ 41) (hs : x 39 334 = nI n) (d : Int32) : mj_CP mX7_wasLight (shX ++ shM) [.ref 37, .int d] x (bi (lp_any (mwl x d) n)) := by
  refine mj_startP (ls := [some (.ref 37), some (.int d), none, none]) (by decide) rfl rfl (fun Q hQ => ?_)
  have loop : ∀ (k j : Nat), j ≤ n → n < j + k → mj_V mX7_wasLight (shX ++ shM) Q x 4 [some (.ref 37), some (.int d), some (.int (bi (lp_any (mwl x d) j))), some (.int (nI j))] [] := by
    intro k
    induction k with
    | zero => intro j h1 h2; omega
    | succ k ih =>
      intro j h1 h2 
      refine mj_ildn dX7_wasLight_4 rfl ?_
      refine mj_aldn dX7_wasLight_5 rfl ?_
      refine mj_getr fkX7_13 dX7_wasLight_6 rfl rfl ?_
      refine mj_sipush dX7_wasLight_9 ns_334 ?_
      refine mj_iald dX7_wasLight_12 rfl 334 (by decide) rfl (by decide) ?_
      refine mj_ic_ge (tgt := 71) dX7_wasLight_13 rfl (fun h_13 => ?_) (fun h_13 => ?_)
      · have hj : j = n := by rw [hs, nI_leI (by omega) (by omega)] at h_13; omega
        subst hj
        refine mj_ildn dX7_wasLight_71 rfl ?_
        refine mj_retz rfl (bi_or _) dX7_wasLight_72 ?_
        exact hQ
      · have hlt : j < n := by rw [hs, nI_leI (by omega) (by omega)] at h_13; omega
        refine mj_ildn dX7_wasLight_16 rfl ?_
        refine mj_if_ne (tgt := 59) dX7_wasLight_17 rfl (fun h_17 => ?_) (fun h_17 => ?_)
        · rw [bi_nz] at h_17
          refine mj_iconst dX7_wasLight_59 ni_1 ?_
          refine mj_goto (tgt := 64) dX7_wasLight_60 rfl ?_
          refine mj_istn2 dX7_wasLight_64 rfl ?_
          refine mj_inc3 dX7_wasLight_65 ni_1 rfl ?_
          refine mj_goto (tgt := 4) dX7_wasLight_68 rfl ?_
          exact mj_ls (ih (j + 1) (by omega) (by omega)) (by rw [nI_1, lp_any, h_17]; rfl)
        · rw [bi_z] at h_17
          refine mj_aldn dX7_wasLight_20 rfl ?_
          refine mj_ildn dX7_wasLight_21 rfl ?_
          refine mj_iconst dX7_wasLight_22 ni_0 ?_
          refine mj_cvp (K := mX7_of) (c_of x j 0 (by omega)) ckX7_of lkX7_164 ⟨Nat.le_of_ble_eq_true rfl, Nat.le_of_ble_eq_true rfl⟩ rfl dX7_wasLight_23 rfl rfl (Nat.le_of_ble_eq_true rfl) ?_
          refine mj_ildn dX7_wasLight_26 rfl ?_
          refine mj_ic_ne (tgt := 63) dX7_wasLight_27 rfl (fun h_27 => ?_) (fun h_27 => ?_)
          · refine mj_iconst dX7_wasLight_63 ni_0 ?_
            refine mj_istn2 dX7_wasLight_64 rfl ?_
            refine mj_inc3 dX7_wasLight_65 ni_1 rfl ?_
            refine mj_goto (tgt := 4) dX7_wasLight_68 rfl ?_
            exact mj_ls (ih (j + 1) (by omega) (by omega)) (by rw [nI_1, lp_any, h_17, show mwl x d j = false from by unfold mwl; simp; grind]; rfl)
          · refine mj_aldn dX7_wasLight_30 rfl ?_
            refine mj_ildn dX7_wasLight_31 rfl ?_
            refine mj_iconst dX7_wasLight_32 ni_2 ?_
            refine mj_cvp (K := mX7_of) (c_of x j 2 (by omega)) ckX7_of lkX7_164 ⟨Nat.le_of_ble_eq_true rfl, Nat.le_of_ble_eq_true rfl⟩ rfl dX7_wasLight_33 rfl rfl (Nat.le_of_ble_eq_true rfl) ?_
            refine mj_iconst dX7_wasLight_36 ni_1 ?_
            refine mj_ic_ne (tgt := 63) dX7_wasLight_37 rfl (fun h_37 => ?_) (fun h_37 => ?_)
            · refine mj_iconst dX7_wasLight_63 ni_0 ?_
              refine mj_istn2 dX7_wasLight_64 rfl ?_
              refine mj_inc3 dX7_wasLight_65 ni_1 rfl ?_
              refine mj_goto (tgt := 4) dX7_wasLight_68 rfl ?_
              exact mj_ls (ih (j + 1) (by omega) (by omega)) (by rw [nI_1, lp_any, h_17, show mwl x d j = false from by unfold mwl; simp; grind]; rfl)
            · refine mj_aldn dX7_wasLight_40 rfl ?_
              refine mj_geti fkX7_130 dX7_wasLight_41 rfl rfl ?_
              refine mj_aldn dX7_wasLight_44 rfl ?_
              refine mj_ildn dX7_wasLight_45 rfl ?_
              refine mj_iconst dX7_wasLight_46 ni_1 ?_
              refine mj_cvp (K := mX7_of) (c_of x j 1 (by omega)) ckX7_of lkX7_164 ⟨Nat.le_of_ble_eq_true rfl, Nat.le_of_ble_eq_true rfl⟩ rfl dX7_wasLight_47 rfl rfl (Nat.le_of_ble_eq_true rfl) ?_
              refine mj_isub dX7_wasLight_50 ?_
              refine mj_aldn dX7_wasLight_51 rfl ?_
              refine mj_iconst dX7_wasLight_52 ni_0 ?_
              refine mj_cvp (K := mX7_ruleOf) (c_ruleOf x 0 (by decide)) ckX7_ruleOf lkX7_145 ⟨Nat.le_of_ble_eq_true rfl, Nat.le_of_ble_eq_true rfl⟩ rfl dX7_wasLight_53 rfl rfl (Nat.le_of_ble_eq_true rfl) ?_
              refine mj_ic_ge (tgt := 63) dX7_wasLight_56 rfl (fun h_56 => ?_) (fun h_56 => ?_)
              · refine mj_iconst dX7_wasLight_63 ni_0 ?_
                refine mj_istn2 dX7_wasLight_64 rfl ?_
                refine mj_inc3 dX7_wasLight_65 ni_1 rfl ?_
                refine mj_goto (tgt := 4) dX7_wasLight_68 rfl ?_
                exact mj_ls (ih (j + 1) (by omega) (by omega)) (by rw [nI_1, lp_any, h_17, show mwl x d j = false from by unfold mwl; simp; grind]; rfl)
              · refine mj_iconst dX7_wasLight_59 ni_1 ?_
                refine mj_goto (tgt := 64) dX7_wasLight_60 rfl ?_
                refine mj_istn2 dX7_wasLight_64 rfl ?_
                refine mj_inc3 dX7_wasLight_65 ni_1 rfl ?_
                refine mj_goto (tgt := 4) dX7_wasLight_68 rfl ?_
                exact mj_ls (ih (j + 1) (by omega) (by omega)) (by rw [nI_1, lp_any, h_17, show mwl x d j = true from by unfold mwl; simp; grind]; rfl)
  refine mj_iconst dX7_wasLight_0 ni_0 ?_
  refine mj_istn2 dX7_wasLight_1 rfl ?_
  refine mj_iconst dX7_wasLight_2 ni_0 ?_
  refine mj_istn3 dX7_wasLight_3 rfl ?_
  exact loop (n + 1) 0 (by omega) (by omega)
def m_see (x : mj_X) (a : Int32) (j : Nat) : Bool := if a = 0 then true else if mE x j 7 = 1 then false else if a = 1 then true else if a = 2 then decide (x 37 5 - mE x j 1 < x 39 332) else decide (x 47 j = 0 ∧ x 37 5 - mE x j 3 < x 39 333)
set_option maxHeartbeats 1000000 in
theorem c_msee (x : mj_X) (a : Int32) (j : Nat) (hj : j < 41) : mj_CP mX7_isSeen (shX ++ shM) [.ref 37, .int a, .int (nI j)] x (bi (m_see x a j)) := by
  refine mj_startP (ls := [some (.ref 37), some (.int a), some (.int (nI j))]) (by decide) rfl rfl (fun Q hQ => ?_)
  refine mj_ildn dX7_isSeen_0 rfl ?_
  refine mj_if_eq (tgt := 15) dX7_isSeen_1 rfl (fun h_1 => ?_) (fun h_1 => ?_)
  · refine mj_ildn dX7_isSeen_15 rfl ?_
    refine mj_if_ne (tgt := 23) dX7_isSeen_16 rfl (fun h_16 => ?_) (fun h_16 => ?_)
    · refine mj_iconst dX7_isSeen_23 ni_0 ?_
      refine mj_retz rfl (by decide) dX7_isSeen_24 ?_
      exact mj_q hQ (by unfold m_see bi; simp only [h_1, h_16]; (try simp); (try grind))
    · refine mj_iconst dX7_isSeen_19 ni_1 ?_
      refine mj_goto (tgt := 24) dX7_isSeen_20 rfl ?_
      refine mj_retz rfl (by decide) dX7_isSeen_24 ?_
      exact mj_q hQ (by unfold m_see bi; simp only [h_1, h_16]; (try simp); (try grind))
  · refine mj_aldn dX7_isSeen_4 rfl ?_
    refine mj_ildn dX7_isSeen_5 rfl ?_
    refine mj_bipush dX7_isSeen_6 nb_7 ?_
    refine mj_cvp (K := mX7_of) (c_of x j 7 (by omega)) ckX7_of lkX7_164 ⟨Nat.le_of_ble_eq_true rfl, Nat.le_of_ble_eq_true rfl⟩ rfl dX7_isSeen_8 rfl rfl (Nat.le_of_ble_eq_true rfl) ?_
    refine mj_iconst dX7_isSeen_11 ni_1 ?_
    refine mj_ic_ne (tgt := 25) dX7_isSeen_12 rfl (fun h_12 => ?_) (fun h_12 => ?_)
    · refine mj_ildn dX7_isSeen_25 rfl ?_
      refine mj_iconst dX7_isSeen_26 ni_1 ?_
      refine mj_ic_eq (tgt := 85) dX7_isSeen_27 rfl (fun h_27 => ?_) (fun h_27 => ?_)
      · refine mj_iconst dX7_isSeen_85 ni_1 ?_
        refine mj_goto (tgt := 90) dX7_isSeen_86 rfl ?_
        refine mj_retz rfl (by decide) dX7_isSeen_90 ?_
        exact mj_q hQ (by unfold m_see bi; simp only [h_1, h_12, h_27]; (try simp); (try grind))
      · refine mj_ildn dX7_isSeen_30 rfl ?_
        refine mj_iconst dX7_isSeen_31 ni_2 ?_
        refine mj_ic_ne (tgt := 57) dX7_isSeen_32 rfl (fun h_32 => ?_) (fun h_32 => ?_)
        · refine mj_aldn dX7_isSeen_57 rfl ?_
          refine mj_getr fkX7_37 dX7_isSeen_58 rfl rfl ?_
          refine mj_ildn dX7_isSeen_61 rfl ?_
          refine mj_iald dX7_isSeen_62 rfl j hj rfl (by decide) ?_
          refine mj_if_ne (tgt := 89) dX7_isSeen_63 rfl (fun h_63 => ?_) (fun h_63 => ?_)
          · refine mj_iconst dX7_isSeen_89 ni_0 ?_
            refine mj_retz rfl (by decide) dX7_isSeen_90 ?_
            exact mj_q hQ (by unfold m_see bi; simp only [h_1, h_12, h_27, h_32, h_63]; (try simp); (try grind))
          · refine mj_aldn dX7_isSeen_66 rfl ?_
            refine mj_geti fkX7_130 dX7_isSeen_67 rfl rfl ?_
            refine mj_aldn dX7_isSeen_70 rfl ?_
            refine mj_ildn dX7_isSeen_71 rfl ?_
            refine mj_iconst dX7_isSeen_72 ni_3 ?_
            refine mj_cvp (K := mX7_of) (c_of x j 3 (by omega)) ckX7_of lkX7_164 ⟨Nat.le_of_ble_eq_true rfl, Nat.le_of_ble_eq_true rfl⟩ rfl dX7_isSeen_73 rfl rfl (Nat.le_of_ble_eq_true rfl) ?_
            refine mj_isub dX7_isSeen_76 ?_
            refine mj_aldn dX7_isSeen_77 rfl ?_
            refine mj_iconst dX7_isSeen_78 ni_5 ?_
            refine mj_cvp (K := mX7_ruleOf) (c_ruleOf x 5 (by decide)) ckX7_ruleOf lkX7_145 ⟨Nat.le_of_ble_eq_true rfl, Nat.le_of_ble_eq_true rfl⟩ rfl dX7_isSeen_79 rfl rfl (Nat.le_of_ble_eq_true rfl) ?_
            refine mj_ic_ge (tgt := 89) dX7_isSeen_82 rfl (fun h_82 => ?_) (fun h_82 => ?_)
            · refine mj_iconst dX7_isSeen_89 ni_0 ?_
              refine mj_retz rfl (by decide) dX7_isSeen_90 ?_
              exact mj_q hQ (by unfold m_see bi; simp only [h_1, h_12, h_27, h_32, h_63, h_82]; (try simp); (try grind))
            · refine mj_iconst dX7_isSeen_85 ni_1 ?_
              refine mj_goto (tgt := 90) dX7_isSeen_86 rfl ?_
              refine mj_retz rfl (by decide) dX7_isSeen_90 ?_
              exact mj_q hQ (by unfold m_see bi; simp only [h_1, h_12, h_27, h_32, h_63, h_82]; (try simp); (try grind))
        · refine mj_aldn dX7_isSeen_35 rfl ?_
          refine mj_geti fkX7_130 dX7_isSeen_36 rfl rfl ?_
          refine mj_aldn dX7_isSeen_39 rfl ?_
          refine mj_ildn dX7_isSeen_40 rfl ?_
          refine mj_iconst dX7_isSeen_41 ni_1 ?_
          refine mj_cvp (K := mX7_of) (c_of x j 1 (by omega)) ckX7_of lkX7_164 ⟨Nat.le_of_ble_eq_true rfl, Nat.le_of_ble_eq_true rfl⟩ rfl dX7_isSeen_42 rfl rfl (Nat.le_of_ble_eq_true rfl) ?_
          refine mj_isub dX7_isSeen_45 ?_
          refine mj_aldn dX7_isSeen_46 rfl ?_
          refine mj_iconst dX7_isSeen_47 ni_4 ?_
          refine mj_cvp (K := mX7_ruleOf) (c_ruleOf x 4 (by decide)) ckX7_ruleOf lkX7_145 ⟨Nat.le_of_ble_eq_true rfl, Nat.le_of_ble_eq_true rfl⟩ rfl dX7_isSeen_48 rfl rfl (Nat.le_of_ble_eq_true rfl) ?_
          refine mj_ic_ge (tgt := 89) dX7_isSeen_51 rfl (fun h_51 => ?_) (fun h_51 => ?_)
          · refine mj_iconst dX7_isSeen_89 ni_0 ?_
            refine mj_retz rfl (by decide) dX7_isSeen_90 ?_
            exact mj_q hQ (by unfold m_see bi; simp only [h_1, h_12, h_27, h_32, h_51]; (try simp); (try grind))
          · refine mj_goto (tgt := 85) dX7_isSeen_54 rfl ?_
            refine mj_iconst dX7_isSeen_85 ni_1 ?_
            refine mj_goto (tgt := 90) dX7_isSeen_86 rfl ?_
            refine mj_retz rfl (by decide) dX7_isSeen_90 ?_
            exact mj_q hQ (by unfold m_see bi; simp only [h_1, h_12, h_27, h_32, h_51]; (try simp); (try grind))
    · refine mj_ildn dX7_isSeen_15 rfl ?_
      refine mj_if_ne (tgt := 23) dX7_isSeen_16 rfl (fun h_16 => ?_) (fun h_16 => ?_)
      · refine mj_iconst dX7_isSeen_23 ni_0 ?_
        refine mj_retz rfl (by decide) dX7_isSeen_24 ?_
        exact mj_q hQ (by unfold m_see bi; simp only [h_1, h_12, h_16]; (try simp); (try grind))
      · refine mj_iconst dX7_isSeen_19 ni_1 ?_
        refine mj_goto (tgt := 24) dX7_isSeen_20 rfl ?_
        refine mj_retz rfl (by decide) dX7_isSeen_24 ?_
        exact mj_q hQ (by unfold m_see bi; simp only [h_1, h_12, h_16]; (try simp); (try grind))
