/-! plain helpers -/
def bi (b : Bool) : Int32 := if b then 1 else 0
theorem bi_z {b : Bool} : (bi b = 0) = (b = false) := by cases b <;> decide
theorem bi_nz {b : Bool} : (¬ bi b = 0) = (b = true) := by cases b <;> decide
theorem bi_or (b : Bool) : bi b = 0 ∨ bi b = 1 := by cases b <;> simp [bi]
theorem ti_ne {a b : Int32} (h : ¬ a = b) : a.toInt ≠ b.toInt := fun e => h (Int32.toInt_inj.mp e)
def lp_f {α : Type} (f : Nat → α → α) (a : α) : Nat → α
  | 0 => a
  | n + 1 => f n (lp_f f a n)
def lp_any (p : Nat → Bool) : Nat → Bool
  | 0 => false
  | n + 1 => lp_any p n || p n
theorem lp_any_true {p : Nat → Bool} {j : Nat} (h : p j = true) : ∀ {n : Nat}, j < n → lp_any p n = true
  | 0, hn => by omega
  | n + 1, hn => by
    by_cases e : j = n
    · subst e
      simp [lp_any, h]
    · simp [lp_any, lp_any_true h (n := n) (by omega)]
theorem lp_any_iff {p : Nat → Bool} : ∀ {n : Nat}, lp_any p n = true ↔ ∃ j, j < n ∧ p j = true
  | 0 => by simp [lp_any]
  | n + 1 => by
    constructor
    · intro h
      rw [lp_any, Bool.or_eq_true] at h
      rcases h with h | h
      · obtain ⟨j, h1, h2⟩ := lp_any_iff.mp h
        exact ⟨j, by omega, h2⟩
      · exact ⟨n, by omega, h⟩
    · rintro ⟨j, h1, h2⟩
      exact lp_any_true h2 h1
def lp_find (p : Nat → Bool) : Nat → Nat → Option Nat
  | 0, _ => none
  | k + 1, j => if p j then some j else lp_find p k (j + 1)
theorem nl_lt {j n : Nat} (h : j < n) (hn : n < 2 ^ 31) : ¬ nI n ≤ nI j := nI_ge h hn
theorem mj_q {Q : Option Value → mj_X → Prop} {v z : Int32} {x : mj_X} (h : Q (some (.int z)) x) (e : v = z) : Q (some (.int v)) x := e ▸ h
theorem mj_ls {M : mj_M} {sh : List mj_S} {Q : Option Value → mj_X → Prop} {x : mj_X} {pc : Nat} {ls ls' : List (Option Value)} {st : List Value} (h : mj_V M sh Q x pc ls' st) (e : ls = ls') : mj_V M sh Q x pc ls st := e ▸ h
theorem mj_xl {M : mj_M} {sh : List mj_S} {Q : Option Value → mj_X → Prop} {x x' : mj_X} {pc : Nat} {ls ls' : List (Option Value)} {st : List Value} (h : mj_V M sh Q x' pc ls' st) (ex : x = x') (e : ls = ls') : mj_V M sh Q x pc ls st := by subst ex; subst e; exact h
theorem mj_ss {M : mj_M} {sh : List mj_S} {Q : Option Value → mj_X → Prop} {x : mj_X} {pc : Nat} {ls : List (Option Value)} {st st' : List Value} (h : mj_V M sh Q x pc ls st') (e : st = st') : mj_V M sh Q x pc ls st := e ▸ h
def mj_pk (T : u_T) (N kf : Nat) (ty : FieldType) : Prop := (∃ ty0 : Nat → FieldType, ∀ k, k < N → parseFieldDescriptor (T k).2.2.1 = some (ty0 k)) ∧ (∀ a, a < N → ∀ b, b < N → a ≠ b → (T a).2.1 ≠ (T b).2.1) ∧ (T kf).2.2.2 = false ∧ parseFieldDescriptor (T kf).2.2.1 = some ty
section MJP
variable {M : mj_M} {sh : List mj_S} {Q : Option Value → mj_X → Prop} {x : mj_X} {pc : Nat} {ls : List (Option Value)} {st : List Value} {av : List Value}
theorem mj_puti {ci kf idx c0 : Nat} {C : String} {T : u_T} {N : Nat} {fs : List (Option Nat)} {v : Int32} (hk : mj_fk M.1.cls idx ci kf C T N) (hp : mj_pk T N kf .int) (hd : decode M.2.1 pc = .ok (.putfield idx, 3)) (hsh : sh[c0]? = some (.inl (ci, fs))) (hf : fs[kf]? = some none) (k : mj_V M sh Q (mj_up x c0 kf v) (pc + 3) ls st) : mj_V M sh Q x pc ls (.int v :: .ref c0 :: st) := by
  obtain ⟨⟨ty0, h1⟩, h2, h3, h4⟩ := hp
  exact mj_put hk h1 h2 h3 h4 rfl rfl hd hsh hf k
theorem mj_putz {ci kf idx c0 : Nat} {C : String} {T : u_T} {N : Nat} {fs : List (Option Nat)} {v : Int32} (hk : mj_fk M.1.cls idx ci kf C T N) (hp : mj_pk T N kf .boolean) (hv : v = 0 ∨ v = 1) (hd : decode M.2.1 pc = .ok (.putfield idx, 3)) (hsh : sh[c0]? = some (.inl (ci, fs))) (hf : fs[kf]? = some none) (k : mj_V M sh Q (mj_up x c0 kf v) (pc + 3) ls st) : mj_V M sh Q x pc ls (.int v :: .ref c0 :: st) := by
  obtain ⟨⟨ty0, h1⟩, h2, h3, h4⟩ := hp
  exact mj_put hk h1 h2 h3 h4 (by rcases hv with rfl | rfl <;> rfl) (by rcases hv with rfl | rfl <;> rfl) hd hsh hf k
theorem mj_startP {z : Int32} (hy : plainName M.1.cls = true) (hen : mj_en av M.2.2.1 = ls) (hlen : ls.length = M.2.2.1) (k : ∀ Q : Option Value → mj_X → Prop, Q (some (.int z)) x → mj_V M sh Q x 0 ls []) : mj_CP M sh av x z :=
  mj_start hy hen hlen (k _ ⟨z, rfl, rfl, rfl⟩)
theorem mj_startI {QK : Int32 → mj_X → Prop} (hy : plainName M.1.cls = true) (hen : mj_en av M.2.2.1 = ls) (hlen : ls.length = M.2.2.1) (k : ∀ Q : Option Value → mj_X → Prop, (∀ z x', QK z x' → Q (some (.int z)) x') → mj_V M sh Q x 0 ls []) : mj_CI M sh av x QK :=
  mj_start hy hen hlen (k _ (fun z x' h => ⟨z, rfl, h⟩))
theorem mj_startV {QK : mj_X → Prop} (hy : plainName M.1.cls = true) (hen : mj_en av M.2.2.1 = ls) (hlen : ls.length = M.2.2.1) (k : ∀ Q : Option Value → mj_X → Prop, (∀ x', QK x' → Q none x') → mj_V M sh Q x 0 ls []) : mj_CV M sh av x QK :=
  mj_start hy hen hlen (k _ (fun x' h => ⟨rfl, h⟩))
theorem mj_CP.mono {z z' : Int32} (h : mj_CP M sh av x z) (e : z = z') : mj_CP M sh av x z' := e ▸ h
theorem mj_CI.mono {Q1 Q2 : Int32 → mj_X → Prop} (h : mj_CI M sh av x Q1) (hw : ∀ z x', Q1 z x' → Q2 z x') : mj_CI M sh av x Q2 :=
  mj_weak h (fun r x' ⟨z, e, q⟩ => ⟨z, e, hw z x' q⟩)
theorem mj_CV.mono {Q1 Q2 : mj_X → Prop} (h : mj_CV M sh av x Q1) (hw : ∀ x', Q1 x' → Q2 x') : mj_CV M sh av x Q2 :=
  mj_weak h (fun r x' ⟨e, q⟩ => ⟨e, hw x' q⟩)
end MJP
theorem up_ne {x : mj_X} {k k' i : Nat} {v : Int32} (h : k' ≠ k) : mj_up x k i v k' = x k' := by simp [mj_up, h]
theorem up_eq {x : mj_X} {k i : Nat} {v : Int32} : mj_up x k i v k = upd (x k) i v := by simp [mj_up]
theorem upd_eq {f : Nat → Int32} {i : Nat} {v : Int32} : upd f i v i = v := by simp [upd]
theorem upd_ne {f : Nat → Int32} {i j : Nat} {v : Int32} (h : j ≠ i) : upd f i v j = f j := by simp [upd, h]
theorem up_at {x : mj_X} {k i k' j : Nat} {v : Int32} : mj_up x k i v k' j = if k' = k ∧ j = i then v else x k' j := by
  by_cases h : k' = k
  · subst h
    by_cases h2 : j = i <;> simp [mj_up, upd, h2]
  · simp [mj_up, h]
theorem tl_m10 : (-10 : Int32).toInt = -10 := by decide
theorem tl_m9 : (-9 : Int32).toInt = -9 := by decide
theorem tl_m8 : (-8 : Int32).toInt = -8 := by decide
theorem tl_m7 : (-7 : Int32).toInt = -7 := by decide
theorem tl_m6 : (-6 : Int32).toInt = -6 := by decide
theorem tl_m5 : (-5 : Int32).toInt = -5 := by decide
theorem tl_m4 : (-4 : Int32).toInt = -4 := by decide
theorem tl_m3 : (-3 : Int32).toInt = -3 := by decide
theorem tl_m2 : (-2 : Int32).toInt = -2 := by decide
theorem tl_m1 : (-1 : Int32).toInt = -1 := by decide
theorem tl_0 : (0 : Int32).toInt = 0 := by decide
theorem tl_1 : (1 : Int32).toInt = 1 := by decide
theorem tl_2 : (2 : Int32).toInt = 2 := by decide
theorem tl_3 : (3 : Int32).toInt = 3 := by decide
theorem tl_4 : (4 : Int32).toInt = 4 := by decide
theorem tl_5 : (5 : Int32).toInt = 5 := by decide
theorem tl_6 : (6 : Int32).toInt = 6 := by decide
theorem tl_7 : (7 : Int32).toInt = 7 := by decide
theorem tl_8 : (8 : Int32).toInt = 8 := by decide
theorem tl_9 : (9 : Int32).toInt = 9 := by decide
theorem tl_10 : (10 : Int32).toInt = 10 := by decide
theorem tl_11 : (11 : Int32).toInt = 11 := by decide
theorem tl_12 : (12 : Int32).toInt = 12 := by decide
theorem tl_13 : (13 : Int32).toInt = 13 := by decide
theorem tl_14 : (14 : Int32).toInt = 14 := by decide
theorem tl_15 : (15 : Int32).toInt = 15 := by decide
theorem tl_16 : (16 : Int32).toInt = 16 := by decide
theorem tl_17 : (17 : Int32).toInt = 17 := by decide
theorem tl_18 : (18 : Int32).toInt = 18 := by decide
theorem tl_19 : (19 : Int32).toInt = 19 := by decide
theorem tl_20 : (20 : Int32).toInt = 20 := by decide
theorem tl_21 : (21 : Int32).toInt = 21 := by decide
theorem tl_22 : (22 : Int32).toInt = 22 := by decide
theorem tl_23 : (23 : Int32).toInt = 23 := by decide
theorem tl_24 : (24 : Int32).toInt = 24 := by decide
theorem tl_25 : (25 : Int32).toInt = 25 := by decide
theorem tl_26 : (26 : Int32).toInt = 26 := by decide
theorem tl_27 : (27 : Int32).toInt = 27 := by decide
theorem tl_28 : (28 : Int32).toInt = 28 := by decide
theorem tl_29 : (29 : Int32).toInt = 29 := by decide
theorem tl_30 : (30 : Int32).toInt = 30 := by decide
theorem tl_31 : (31 : Int32).toInt = 31 := by decide
theorem tl_32 : (32 : Int32).toInt = 32 := by decide
theorem tl_33 : (33 : Int32).toInt = 33 := by decide
theorem tl_34 : (34 : Int32).toInt = 34 := by decide
theorem tl_35 : (35 : Int32).toInt = 35 := by decide
theorem tl_36 : (36 : Int32).toInt = 36 := by decide
theorem tl_37 : (37 : Int32).toInt = 37 := by decide
theorem tl_38 : (38 : Int32).toInt = 38 := by decide
theorem tl_39 : (39 : Int32).toInt = 39 := by decide
theorem tl_40 : (40 : Int32).toInt = 40 := by decide
theorem tl_41 : (41 : Int32).toInt = 41 := by decide
theorem tl_42 : (42 : Int32).toInt = 42 := by decide
theorem tl_43 : (43 : Int32).toInt = 43 := by decide
theorem tl_44 : (44 : Int32).toInt = 44 := by decide
theorem tl_45 : (45 : Int32).toInt = 45 := by decide
theorem tl_46 : (46 : Int32).toInt = 46 := by decide
theorem tl_47 : (47 : Int32).toInt = 47 := by decide
theorem tl_48 : (48 : Int32).toInt = 48 := by decide
theorem tl_49 : (49 : Int32).toInt = 49 := by decide
theorem tl_50 : (50 : Int32).toInt = 50 := by decide
theorem tl_51 : (51 : Int32).toInt = 51 := by decide
theorem tl_52 : (52 : Int32).toInt = 52 := by decide
theorem tl_53 : (53 : Int32).toInt = 53 := by decide
theorem tl_54 : (54 : Int32).toInt = 54 := by decide
theorem tl_55 : (55 : Int32).toInt = 55 := by decide
theorem tl_56 : (56 : Int32).toInt = 56 := by decide
theorem tl_57 : (57 : Int32).toInt = 57 := by decide
theorem tl_58 : (58 : Int32).toInt = 58 := by decide
theorem tl_59 : (59 : Int32).toInt = 59 := by decide
theorem tl_81 : (81 : Int32).toInt = 81 := by decide
theorem tl_82 : (82 : Int32).toInt = 82 := by decide
theorem tl_83 : (83 : Int32).toInt = 83 := by decide
theorem tl_99 : (99 : Int32).toInt = 99 := by decide
theorem tl_100 : (100 : Int32).toInt = 100 := by decide
theorem tl_126 : (126 : Int32).toInt = 126 := by decide
theorem tl_200 : (200 : Int32).toInt = 200 := by decide
theorem tl_300 : (300 : Int32).toInt = 300 := by decide
theorem tl_999 : (999 : Int32).toInt = 999 := by decide
theorem tl_9999 : (9999 : Int32).toInt = 9999 := by decide
theorem tl_99999 : (99999 : Int32).toInt = 99999 := by decide
theorem tl_100000 : (100000 : Int32).toInt = 100000 := by decide
theorem pkX0_7 : mj_pk TX0 8 7 .int := ⟨⟨tyX0, tyX0_ok⟩, nmX0, rfl, by decide +kernel⟩
theorem pkX1_3 : mj_pk TX1 7 3 .int := ⟨⟨tyX1, tyX1_ok⟩, nmX1, rfl, by decide +kernel⟩
theorem pkX1_4 : mj_pk TX1 7 4 .int := ⟨⟨tyX1, tyX1_ok⟩, nmX1, rfl, by decide +kernel⟩
theorem pkX1_5 : mj_pk TX1 7 5 .int := ⟨⟨tyX1, tyX1_ok⟩, nmX1, rfl, by decide +kernel⟩
theorem pkX1_6 : mj_pk TX1 7 6 .int := ⟨⟨tyX1, tyX1_ok⟩, nmX1, rfl, by decide +kernel⟩
theorem pkX2_12 : mj_pk TX2 13 12 .int := ⟨⟨tyX2, tyX2_ok⟩, nmX2, rfl, by decide +kernel⟩
theorem pkX3_3 : mj_pk TX3 4 3 .int := ⟨⟨tyX3, tyX3_ok⟩, nmX3, rfl, by decide +kernel⟩
theorem pkX4_1 : mj_pk TX4 5 1 .int := ⟨⟨tyX4, tyX4_ok⟩, nmX4, rfl, by decide +kernel⟩
theorem pkX4_2 : mj_pk TX4 5 2 .int := ⟨⟨tyX4, tyX4_ok⟩, nmX4, rfl, by decide +kernel⟩
theorem pkX4_3 : mj_pk TX4 5 3 .int := ⟨⟨tyX4, tyX4_ok⟩, nmX4, rfl, by decide +kernel⟩
theorem pkX4_4 : mj_pk TX4 5 4 .int := ⟨⟨tyX4, tyX4_ok⟩, nmX4, rfl, by decide +kernel⟩
theorem pkX5_3 : mj_pk TX5 4 3 .int := ⟨⟨tyX5, tyX5_ok⟩, nmX5, rfl, by decide +kernel⟩
theorem pkX6_7 : mj_pk TX6 8 7 .int := ⟨⟨tyX6, tyX6_ok⟩, nmX6, rfl, by decide +kernel⟩
theorem pkX7_0 : mj_pk TX7 26 0 .int := ⟨⟨tyX7, tyX7_ok⟩, nmX7, rfl, by decide +kernel⟩
theorem pkX7_4 : mj_pk TX7 26 4 .int := ⟨⟨tyX7, tyX7_ok⟩, nmX7, rfl, by decide +kernel⟩
theorem pkX7_5 : mj_pk TX7 26 5 .int := ⟨⟨tyX7, tyX7_ok⟩, nmX7, rfl, by decide +kernel⟩
theorem pkX7_6 : mj_pk TX7 26 6 .int := ⟨⟨tyX7, tyX7_ok⟩, nmX7, rfl, by decide +kernel⟩
theorem pkX7_10 : mj_pk TX7 26 10 .int := ⟨⟨tyX7, tyX7_ok⟩, nmX7, rfl, by decide +kernel⟩
theorem pkX7_13 : mj_pk TX7 26 13 .int := ⟨⟨tyX7, tyX7_ok⟩, nmX7, rfl, by decide +kernel⟩
theorem pkX7_14 : mj_pk TX7 26 14 .int := ⟨⟨tyX7, tyX7_ok⟩, nmX7, rfl, by decide +kernel⟩
theorem pkX7_15 : mj_pk TX7 26 15 .boolean := ⟨⟨tyX7, tyX7_ok⟩, nmX7, rfl, by decide +kernel⟩
theorem pkX7_19 : mj_pk TX7 26 19 .int := ⟨⟨tyX7, tyX7_ok⟩, nmX7, rfl, by decide +kernel⟩
