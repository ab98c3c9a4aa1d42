theorem fgt {t w j : Nat} (ht : t ≤ 9999) (hw : w ≤ 999) (hj : j ≤ 1000) : nI t < nI t - nI w + 1 + nI j ↔ w ≤ j := by
  rw [Int32.lt_iff_toInt_lt, Int32.toInt_add, Int32.toInt_add, Int32.toInt_sub, nI_toInt (n := t) (by omega), nI_toInt (n := w) (by omega), nI_toInt (n := j) (by omega), tl_1]
  simp only [Int.bmod_def]
  omega
set_option maxHeartbeats 1000000 in
theorem c_most (x : mj_X) (t : Nat) (ht : t ≤ 9999) (w : Nat) (hw : w ≤ 999) (hx : x 39 328 = nI w) (n : Nat) (hn : n ≤ 41) (d : Int32) : mj_CP mX7_mostOf (shX ++ shM) [.ref 37, .int d, .int (nI t), .int (nI n)] x (most x d (nI t) n w) := by
  refine mj_startP (ls := [some (.ref 37), some (.int d), some (.int (nI t)), some (.int (nI n)), none, none, none, none, none]) (by decide) rfl rfl (fun Q hQ => ?_)
  have inner : ∀ (mo fr : Int32), (∀ w8 : Option Value, mj_V mX7_mostOf (shX ++ shM) Q x 117 [some (.ref 37), some (.int d), some (.int (nI t)), some (.int (nI n)), some (.int mo), some (.int fr), some (.int (msum x d fr n)), some (.int (nI n)), w8] []) → ∀ (k j : Nat) (w8 : Option Value), j ≤ n → n < j + k → mj_V mX7_mostOf (shX ++ shM) Q x 27 [some (.ref 37), some (.int d), some (.int (nI t)), some (.int (nI n)), some (.int mo), some (.int fr), some (.int (lp_f (msF x d fr) 0 j)), some (.int (nI j)), w8] [] := by
    intro mo fr hout k
    induction k with
    | zero => intro j w8 h1 h2; omega
    | succ k ih =>
      intro j w8 h1 h2
      refine mj_ild dX7_mostOf_27 rfl ?_
      refine mj_ildn dX7_mostOf_29 rfl ?_
      refine mj_ic_ge (tgt := 117) dX7_mostOf_30 rfl (fun h_30 => ?_) (fun h_30 => ?_)
      · have hj : j = n := by rw [nI_leI (by omega) (by omega)] at h_30; omega
        subst hj
        exact hout _
      · have hlt : j < n := by rw [nI_leI (by omega) (by omega)] at h_30; omega
        refine mj_aldn dX7_mostOf_33 rfl ?_
        refine mj_ild dX7_mostOf_34 rfl ?_
        refine mj_iconst dX7_mostOf_36 ni_2 ?_
        refine mj_cvp (K := mX7_of) (c_of x j 2 (by omega)) ckX7_of lkX7_164 ⟨Nat.le_of_ble_eq_true rfl, Nat.le_of_ble_eq_true rfl⟩ rfl dX7_mostOf_37 rfl rfl (Nat.le_of_ble_eq_true rfl) ?_
        refine mj_if_ne (tgt := 53) dX7_mostOf_40 rfl (fun h_40 => ?_) (fun h_40 => ?_)
        · have eon : mon x j = mE x j 1 := by unfold mon; rw [if_neg h_40]
          refine mj_aldn dX7_mostOf_53 rfl ?_
          refine mj_ild dX7_mostOf_54 rfl ?_
          refine mj_iconst dX7_mostOf_56 ni_1 ?_
          refine mj_cvp (K := mX7_of) (c_of x j 1 (by omega)) ckX7_of lkX7_164 ⟨Nat.le_of_ble_eq_true rfl, Nat.le_of_ble_eq_true rfl⟩ rfl dX7_mostOf_57 rfl rfl (Nat.le_of_ble_eq_true rfl) ?_
          rw [← eon]
          refine mj_ist8 dX7_mostOf_60 rfl ?_
          refine mj_ild dX7_mostOf_62 rfl ?_
          refine mj_aldn dX7_mostOf_64 rfl ?_
          refine mj_ild dX7_mostOf_65 rfl ?_
          refine mj_iconst dX7_mostOf_67 ni_0 ?_
          refine mj_cvp (K := mX7_of) (c_of x j 0 (by omega)) ckX7_of lkX7_164 ⟨Nat.le_of_ble_eq_true rfl, Nat.le_of_ble_eq_true rfl⟩ rfl dX7_mostOf_68 rfl rfl (Nat.le_of_ble_eq_true rfl) ?_
          refine mj_ildn dX7_mostOf_71 rfl ?_
          refine mj_ic_ne (tgt := 107) dX7_mostOf_72 rfl (fun h_72 => ?_) (fun h_72 => ?_)
          · refine mj_iconst dX7_mostOf_107 ni_0 ?_
            refine mj_iadd dX7_mostOf_108 ?_
            refine mj_ist6 dX7_mostOf_109 rfl ?_
            refine mj_inc7 dX7_mostOf_111 ni_1 rfl ?_
            refine mj_goto (tgt := 27) dX7_mostOf_114 rfl ?_
            exact mj_ls (ih (j + 1) (some (.int (mon x j))) (by omega) (by omega)) (by clear ih hout; rw [nI_1, lp_f, msF, if_neg (by grind)])
          · refine mj_ild dX7_mostOf_75 rfl ?_
            refine mj_i2l dX7_mostOf_77 ?_
            refine mj_ild dX7_mostOf_78 rfl ?_
            refine mj_i2l dX7_mostOf_80 ?_
            refine mj_ild dX7_mostOf_81 rfl ?_
            refine mj_aldn dX7_mostOf_83 rfl ?_
            refine mj_iconst dX7_mostOf_84 ni_0 ?_
            refine mj_cvp (K := mX7_ruleOf) (c_ruleOf x 0 (by decide)) ckX7_ruleOf lkX7_145 ⟨Nat.le_of_ble_eq_true rfl, Nat.le_of_ble_eq_true rfl⟩ rfl dX7_mostOf_85 rfl rfl (Nat.le_of_ble_eq_true rfl) ?_
            refine mj_iadd dX7_mostOf_88 ?_
            refine mj_iconst dX7_mostOf_89 ni_1 ?_
            refine mj_isub dX7_mostOf_90 ?_
            refine mj_i2l dX7_mostOf_91 ?_
            refine mj_csp (K := mX7_in) (c_in _ x (mon x j) fr (fr + x 39 328 - 1) _ _ rfl rfl) ckX7_in lkX7_79 ⟨Nat.le_of_ble_eq_true rfl, Nat.le_of_ble_eq_true rfl⟩ rfl dX7_mostOf_92 (Nat.le_of_ble_eq_true rfl) ?_
            refine mj_if_eq (tgt := 107) dX7_mostOf_95 rfl (fun h_95 => ?_) (fun h_95 => ?_)
            · rw [bi_z] at h_95; simp only [inn, decide_eq_false_iff_not] at h_95
              refine mj_iconst dX7_mostOf_107 ni_0 ?_
              refine mj_iadd dX7_mostOf_108 ?_
              refine mj_ist6 dX7_mostOf_109 rfl ?_
              refine mj_inc7 dX7_mostOf_111 ni_1 rfl ?_
              refine mj_goto (tgt := 27) dX7_mostOf_114 rfl ?_
              exact mj_ls (ih (j + 1) (some (.int (mon x j))) (by omega) (by omega)) (by clear ih hout; rw [nI_1, lp_f, msF, if_neg (by grind)])
            · rw [bi_nz] at h_95; simp only [inn, decide_eq_true_eq] at h_95
              refine mj_aldn dX7_mostOf_98 rfl ?_
              refine mj_ild dX7_mostOf_99 rfl ?_
              refine mj_cvp (K := mX7_countOf) (c_mcnt x j (by omega)) ckX7_countOf lkX7_206 ⟨Nat.le_of_ble_eq_true rfl, Nat.le_of_ble_eq_true rfl⟩ rfl dX7_mostOf_101 rfl rfl (Nat.le_of_ble_eq_true rfl) ?_
              refine mj_goto (tgt := 108) dX7_mostOf_104 rfl ?_
              refine mj_iadd dX7_mostOf_108 ?_
              refine mj_ist6 dX7_mostOf_109 rfl ?_
              refine mj_inc7 dX7_mostOf_111 ni_1 rfl ?_
              refine mj_goto (tgt := 27) dX7_mostOf_114 rfl ?_
              exact mj_ls (ih (j + 1) (some (.int (mon x j))) (by omega) (by omega)) (by clear ih hout; rw [nI_1, lp_f, msF, if_pos ⟨h_72, h_95⟩])
        · have eon : mon x j = mE x j 3 := by unfold mon; rw [if_pos h_40]
          refine mj_aldn dX7_mostOf_43 rfl ?_
          refine mj_ild dX7_mostOf_44 rfl ?_
          refine mj_iconst dX7_mostOf_46 ni_3 ?_
          refine mj_cvp (K := mX7_of) (c_of x j 3 (by omega)) ckX7_of lkX7_164 ⟨Nat.le_of_ble_eq_true rfl, Nat.le_of_ble_eq_true rfl⟩ rfl dX7_mostOf_47 rfl rfl (Nat.le_of_ble_eq_true rfl) ?_
          refine mj_goto (tgt := 60) dX7_mostOf_50 rfl ?_
          rw [← eon]
          refine mj_ist8 dX7_mostOf_60 rfl ?_
          refine mj_ild dX7_mostOf_62 rfl ?_
          refine mj_aldn dX7_mostOf_64 rfl ?_
          refine mj_ild dX7_mostOf_65 rfl ?_
          refine mj_iconst dX7_mostOf_67 ni_0 ?_
          refine mj_cvp (K := mX7_of) (c_of x j 0 (by omega)) ckX7_of lkX7_164 ⟨Nat.le_of_ble_eq_true rfl, Nat.le_of_ble_eq_true rfl⟩ rfl dX7_mostOf_68 rfl rfl (Nat.le_of_ble_eq_true rfl) ?_
          refine mj_ildn dX7_mostOf_71 rfl ?_
          refine mj_ic_ne (tgt := 107) dX7_mostOf_72 rfl (fun h_72 => ?_) (fun h_72 => ?_)
          · refine mj_iconst dX7_mostOf_107 ni_0 ?_
            refine mj_iadd dX7_mostOf_108 ?_
            refine mj_ist6 dX7_mostOf_109 rfl ?_
            refine mj_inc7 dX7_mostOf_111 ni_1 rfl ?_
            refine mj_goto (tgt := 27) dX7_mostOf_114 rfl ?_
            exact mj_ls (ih (j + 1) (some (.int (mon x j))) (by omega) (by omega)) (by clear ih hout; rw [nI_1, lp_f, msF, if_neg (by grind)])
          · refine mj_ild dX7_mostOf_75 rfl ?_
            refine mj_i2l dX7_mostOf_77 ?_
            refine mj_ild dX7_mostOf_78 rfl ?_
            refine mj_i2l dX7_mostOf_80 ?_
            refine mj_ild dX7_mostOf_81 rfl ?_
            refine mj_aldn dX7_mostOf_83 rfl ?_
            refine mj_iconst dX7_mostOf_84 ni_0 ?_
            refine mj_cvp (K := mX7_ruleOf) (c_ruleOf x 0 (by decide)) ckX7_ruleOf lkX7_145 ⟨Nat.le_of_ble_eq_true rfl, Nat.le_of_ble_eq_true rfl⟩ rfl dX7_mostOf_85 rfl rfl (Nat.le_of_ble_eq_true rfl) ?_
            refine mj_iadd dX7_mostOf_88 ?_
            refine mj_iconst dX7_mostOf_89 ni_1 ?_
            refine mj_isub dX7_mostOf_90 ?_
            refine mj_i2l dX7_mostOf_91 ?_
            refine mj_csp (K := mX7_in) (c_in _ x (mon x j) fr (fr + x 39 328 - 1) _ _ rfl rfl) ckX7_in lkX7_79 ⟨Nat.le_of_ble_eq_true rfl, Nat.le_of_ble_eq_true rfl⟩ rfl dX7_mostOf_92 (Nat.le_of_ble_eq_true rfl) ?_
            refine mj_if_eq (tgt := 107) dX7_mostOf_95 rfl (fun h_95 => ?_) (fun h_95 => ?_)
            · rw [bi_z] at h_95; simp only [inn, decide_eq_false_iff_not] at h_95
              refine mj_iconst dX7_mostOf_107 ni_0 ?_
              refine mj_iadd dX7_mostOf_108 ?_
              refine mj_ist6 dX7_mostOf_109 rfl ?_
              refine mj_inc7 dX7_mostOf_111 ni_1 rfl ?_
              refine mj_goto (tgt := 27) dX7_mostOf_114 rfl ?_
              exact mj_ls (ih (j + 1) (some (.int (mon x j))) (by omega) (by omega)) (by clear ih hout; rw [nI_1, lp_f, msF, if_neg (by grind)])
            · rw [bi_nz] at h_95; simp only [inn, decide_eq_true_eq] at h_95
              refine mj_aldn dX7_mostOf_98 rfl ?_
              refine mj_ild dX7_mostOf_99 rfl ?_
              refine mj_cvp (K := mX7_countOf) (c_mcnt x j (by omega)) ckX7_countOf lkX7_206 ⟨Nat.le_of_ble_eq_true rfl, Nat.le_of_ble_eq_true rfl⟩ rfl dX7_mostOf_101 rfl rfl (Nat.le_of_ble_eq_true rfl) ?_
              refine mj_goto (tgt := 108) dX7_mostOf_104 rfl ?_
              refine mj_iadd dX7_mostOf_108 ?_
              refine mj_ist6 dX7_mostOf_109 rfl ?_
              refine mj_inc7 dX7_mostOf_111 ni_1 rfl ?_
              refine mj_goto (tgt := 27) dX7_mostOf_114 rfl ?_
              exact mj_ls (ih (j + 1) (some (.int (mon x j))) (by omega) (by omega)) (by clear ih hout; rw [nI_1, lp_f, msF, if_pos ⟨h_72, h_95⟩])
  have outer : ∀ (k j : Nat) (w6 w7 w8 : Option Value), j ≤ w → w < j + k → mj_V mX7_mostOf (shX ++ shM) Q x 15 [some (.ref 37), some (.int d), some (.int (nI t)), some (.int (nI n)), some (.int (lp_f (moF x d (nI t) n) (-99999) j)), some (.int (nI t - x 39 328 + 1 + nI j)), w6, w7, w8] [] := by
    intro k
    induction k with
    | zero => intro j w6 w7 w8 h1 h2; omega
    | succ k ih =>
      intro j w6 w7 w8 h1 h2
      have e9 : nI t - x 39 328 + 1 + nI j + 1 = nI t - x 39 328 + 1 + nI (j + 1) := by rw [Int32.add_assoc, nI_1]
      refine mj_ild dX7_mostOf_15 rfl ?_
      refine mj_ildn dX7_mostOf_17 rfl ?_
      refine mj_ic_gt (tgt := 139) dX7_mostOf_18 rfl (fun h_18 => ?_) (fun h_18 => ?_)
      · have hj : j = w := by rw [hx, fgt ht hw (by omega)] at h_18; omega
        subst hj
        refine mj_ild dX7_mostOf_139 rfl ?_
        refine mj_ret rfl dX7_mostOf_141 ?_
        exact hQ
      · have hlt : j < w := by rw [hx, fgt ht hw (by omega)] at h_18; omega
        refine mj_iconst dX7_mostOf_21 ni_0 ?_
        refine mj_ist6 dX7_mostOf_22 rfl ?_
        refine mj_iconst dX7_mostOf_24 ni_0 ?_
        refine mj_ist7 dX7_mostOf_25 rfl ?_
        refine inner _ _ (fun w9 => ?_) (n + 1) 0 _ (by omega) (by omega)
        refine mj_ild dX7_mostOf_117 rfl ?_
        refine mj_ild dX7_mostOf_119 rfl ?_
        refine mj_ic_le (tgt := 129) dX7_mostOf_121 rfl (fun h_121 => ?_) (fun h_121 => ?_)
        · refine mj_ild dX7_mostOf_129 rfl ?_
          refine mj_ist4 dX7_mostOf_131 rfl ?_
          refine mj_inc5 dX7_mostOf_133 ni_1 rfl ?_
          refine mj_goto (tgt := 15) dX7_mostOf_136 rfl ?_
          exact mj_ls (ih (j + 1) (some (.int (msum x d (nI t - x 39 328 + 1 + nI j) n))) (some (.int (nI n))) w9 (by omega) (by omega)) (by clear ih inner; rw [e9, lp_f, moF, if_neg (by grind)])
        · refine mj_ild dX7_mostOf_124 rfl ?_
          refine mj_goto (tgt := 131) dX7_mostOf_126 rfl ?_
          refine mj_ist4 dX7_mostOf_131 rfl ?_
          refine mj_inc5 dX7_mostOf_133 ni_1 rfl ?_
          refine mj_goto (tgt := 15) dX7_mostOf_136 rfl ?_
          exact mj_ls (ih (j + 1) (some (.int (msum x d (nI t - x 39 328 + 1 + nI j) n))) (some (.int (nI n))) w9 (by omega) (by omega)) (by clear ih inner; rw [e9, lp_f, moF, if_pos (by grind)])
  refine mj_ldc kkX7_205 dX7_mostOf_0 ?_
  refine mj_ist4 dX7_mostOf_2 rfl ?_
  refine mj_ildn dX7_mostOf_4 rfl ?_
  refine mj_aldn dX7_mostOf_5 rfl ?_
  refine mj_iconst dX7_mostOf_6 ni_0 ?_
  refine mj_cvp (K := mX7_ruleOf) (c_ruleOf x 0 (by decide)) ckX7_ruleOf lkX7_145 ⟨Nat.le_of_ble_eq_true rfl, Nat.le_of_ble_eq_true rfl⟩ rfl dX7_mostOf_7 rfl rfl (Nat.le_of_ble_eq_true rfl) ?_
  refine mj_isub dX7_mostOf_10 ?_
  refine mj_iconst dX7_mostOf_11 ni_1 ?_
  refine mj_iadd dX7_mostOf_12 ?_
  refine mj_ist5 dX7_mostOf_13 rfl ?_
  exact mj_ls (outer (w + 1) 0 none none none (by omega) (by omega)) (by rw [nI_0, Int32.add_zero]; rfl)
def mbN (x : mj_X) : Nat := (x 37 19).toNatClampNeg
theorem mbN_eq {x : mj_X} {n : Nat} (hn : n ≤ 82) (h : x 37 19 = nI n) : mbN x = n := by unfold mbN; rw [h]; exact nI_clamp (by omega)
def msv (x : mj_X) (e : Nat) : Int32 := lp_f (mshF x (mE x e 0) (mE x e 1)) (-4) (mbN x)
def msh (x : mj_X) (e : Nat) : mj_X := if msv x e = -4 then mj_up x 48 e 1 else mj_up (mj_up (mj_up x 48 e 0) 51 (msv x e).toNatClampNeg (if x 51 (msv x e).toNatClampNeg - x 51 (msv x e).toNatClampNeg / 4 < mE x e 1 - x 50 (msv x e).toNatClampNeg + 1 then mE x e 1 - x 50 (msv x e).toNatClampNeg + 1 else x 51 (msv x e).toNatClampNeg - x 51 (msv x e).toNatClampNeg / 4)) 54 (msv x e).toNatClampNeg 1
set_option maxHeartbeats 1000000 in
theorem c_mshort (x : mj_X) (e : Nat) (he : e < 41) (nb : Nat) (hb : nb ≤ 82) (hs : x 37 19 = nI nb) : mj_CV mX7_shortens (shX ++ shM) [.ref 37, .int (nI e)] x (fun y => y = msh x e) := by
  refine mj_startV (ls := [some (.ref 37), some (.int (nI e)), none, none, none, none]) (by decide) rfl rfl (fun Q hQ => ?_)
  have esv : lp_f (mshF x (mE x e 0) (mE x e 1)) (-4) nb = msv x e := by unfold msv; rw [mbN_eq hb hs]
  refine mj_aldn dX7_shortens_0 rfl ?_
  refine mj_ildn dX7_shortens_1 rfl ?_
  refine mj_iconst dX7_shortens_2 ni_1 ?_
  refine mj_cvp (K := mX7_of) (c_of x e 1 (by omega)) ckX7_of lkX7_164 ⟨Nat.le_of_ble_eq_true rfl, Nat.le_of_ble_eq_true rfl⟩ rfl dX7_shortens_3 rfl rfl (Nat.le_of_ble_eq_true rfl) ?_
  refine mj_istn2 dX7_shortens_6 rfl ?_
  refine mj_aldn dX7_shortens_7 rfl ?_
  refine mj_aldn dX7_shortens_8 rfl ?_
  refine mj_ildn dX7_shortens_9 rfl ?_
  refine mj_iconst dX7_shortens_10 ni_0 ?_
  refine mj_cvp (K := mX7_of) (c_of x e 0 (by omega)) ckX7_of lkX7_164 ⟨Nat.le_of_ble_eq_true rfl, Nat.le_of_ble_eq_true rfl⟩ rfl dX7_shortens_11 rfl rfl (Nat.le_of_ble_eq_true rfl) ?_
  refine mj_ildn dX7_shortens_14 rfl ?_
  refine mj_cvp (K := mX7_toShorten) (c_mtosh x nb hb hs (mE x e 0) (mE x e 1)) ckX7_toShorten lkX7_173 ⟨Nat.le_of_ble_eq_true rfl, Nat.le_of_ble_eq_true rfl⟩ rfl dX7_shortens_15 rfl rfl (Nat.le_of_ble_eq_true rfl) ?_
  rw [esv]
  rcases msh_val x (mE x e 0) (mE x e 1) nb with h4 | ⟨i, hi, h4⟩
  · rw [esv] at h4
    rw [h4]
    refine mj_istn3 dX7_shortens_18 rfl ?_
    refine mj_aldn dX7_shortens_19 rfl ?_
    refine mj_getr fkX7_40 dX7_shortens_20 rfl rfl ?_
    refine mj_ildn dX7_shortens_23 rfl ?_
    refine mj_ildn dX7_shortens_24 rfl ?_
    refine mj_bipush dX7_shortens_25 nb_m4 ?_
    refine mj_ic_ne (tgt := 34) dX7_shortens_27 rfl (fun h_27 => False.elim (by exact h_27 rfl)) (fun h_27 => ?_)
    refine mj_iconst dX7_shortens_30 ni_1 ?_
    refine mj_goto (tgt := 35) dX7_shortens_31 rfl ?_
    refine mj_iast dX7_shortens_35 rfl e he rfl (by decide) ?_
    refine mj_ildn dX7_shortens_36 rfl ?_
    refine mj_bipush dX7_shortens_37 nb_m4 ?_
    refine mj_ic_eq (tgt := 98) dX7_shortens_39 rfl (fun h_39 => ?_) (fun h_39 => False.elim (by exact h_39 rfl))
    refine mj_retv rfl dX7_shortens_98 ?_
    exact hQ _ (by unfold msh; rw [if_pos h4])
  · rw [esv] at h4
    have hn4 : ¬ nI i = -4 := fun h => by have := nI_toInt (n := i) (by omega); rw [h] at this; exact absurd this (by rw [tl_m4]; omega)
    have ec : (nI i).toNatClampNeg = i := nI_clamp (by omega)
    have hQ : Q none (mj_up (mj_up (mj_up x 48 e 0) 51 i (if x 51 i - x 51 i / 4 < mE x e 1 - x 50 i + 1 then mE x e 1 - x 50 i + 1 else x 51 i - x 51 i / 4)) 54 i 1) := hQ _ (by unfold msh; rw [h4, if_neg hn4, ec])
    rw [h4]
    refine mj_istn3 dX7_shortens_18 rfl ?_
    refine mj_aldn dX7_shortens_19 rfl ?_
    refine mj_getr fkX7_40 dX7_shortens_20 rfl rfl ?_
    refine mj_ildn dX7_shortens_23 rfl ?_
    refine mj_ildn dX7_shortens_24 rfl ?_
    refine mj_bipush dX7_shortens_25 nb_m4 ?_
    refine mj_ic_ne (tgt := 34) dX7_shortens_27 rfl (fun h_27 => ?_) (fun h_27 => False.elim (by exact hn4 h_27))
    refine mj_iconst dX7_shortens_34 ni_0 ?_
    refine mj_iast dX7_shortens_35 rfl e he rfl (by decide) ?_
    refine mj_ildn dX7_shortens_36 rfl ?_
    refine mj_bipush dX7_shortens_37 nb_m4 ?_
    refine mj_ic_eq (tgt := 98) dX7_shortens_39 rfl (fun h_39 => False.elim (by exact hn4 h_39)) (fun h_39 => ?_)
    refine mj_aldn dX7_shortens_42 rfl ?_
    refine mj_getr fkX7_49 dX7_shortens_43 rfl rfl ?_
    refine mj_ildn dX7_shortens_46 rfl ?_
    refine mj_iald dX7_shortens_47 rfl i (by omega) rfl (by decide) ?_
    refine mj_aldn dX7_shortens_48 rfl ?_
    refine mj_getr fkX7_49 dX7_shortens_49 rfl rfl ?_
    refine mj_ildn dX7_shortens_52 rfl ?_
    refine mj_iald dX7_shortens_53 rfl i (by omega) rfl (by decide) ?_
    refine mj_iconst dX7_shortens_54 ni_4 ?_
    refine mj_idiv dX7_shortens_55 (by decide) ?_
    refine mj_isub dX7_shortens_56 ?_
    refine mj_ist4 dX7_shortens_57 rfl ?_
    refine mj_ildn dX7_shortens_59 rfl ?_
    refine mj_aldn dX7_shortens_60 rfl ?_
    refine mj_getr fkX7_46 dX7_shortens_61 rfl rfl ?_
    refine mj_ildn dX7_shortens_64 rfl ?_
    refine mj_iald dX7_shortens_65 rfl i (by omega) rfl (by decide) ?_
    refine mj_isub dX7_shortens_66 ?_
    refine mj_iconst dX7_shortens_67 ni_1 ?_
    refine mj_iadd dX7_shortens_68 ?_
    refine mj_ist5 dX7_shortens_69 rfl ?_
    refine mj_aldn dX7_shortens_71 rfl ?_
    refine mj_getr fkX7_49 dX7_shortens_72 rfl rfl ?_
    refine mj_ildn dX7_shortens_75 rfl ?_
    refine mj_ild dX7_shortens_76 rfl ?_
    refine mj_ild dX7_shortens_78 rfl ?_
    refine mj_ic_ge (tgt := 88) dX7_shortens_80 rfl (fun h_80 => ?_) (fun h_80 => ?_)
    · have h80 : ¬ x 51 i - x 51 i / 4 < mE x e 1 - x 50 i + 1 := by have h : mE x e 1 - x 50 i + 1 ≤ x 51 i - x 51 i / 4 := h_80; grind
      rw [if_neg h80] at hQ
      refine mj_ild dX7_shortens_88 rfl ?_
      refine mj_iast dX7_shortens_90 rfl i (by omega) rfl (by decide) ?_
      refine mj_aldn dX7_shortens_91 rfl ?_
      refine mj_getr fkX7_58 dX7_shortens_92 rfl rfl ?_
      refine mj_ildn dX7_shortens_95 rfl ?_
      refine mj_iconst dX7_shortens_96 ni_1 ?_
      refine mj_iast dX7_shortens_97 rfl i (by omega) rfl (by decide) ?_
      refine mj_retv rfl dX7_shortens_98 ?_
      exact hQ
    · have h80 : x 51 i - x 51 i / 4 < mE x e 1 - x 50 i + 1 := by have h : ¬ mE x e 1 - x 50 i + 1 ≤ x 51 i - x 51 i / 4 := h_80; grind
      rw [if_pos h80] at hQ
      refine mj_ild dX7_shortens_83 rfl ?_
      refine mj_goto (tgt := 90) dX7_shortens_85 rfl ?_
      refine mj_iast dX7_shortens_90 rfl i (by omega) rfl (by decide) ?_
      refine mj_aldn dX7_shortens_91 rfl ?_
      refine mj_getr fkX7_58 dX7_shortens_92 rfl rfl ?_
      refine mj_ildn dX7_shortens_95 rfl ?_
      refine mj_iconst dX7_shortens_96 ni_1 ?_
      refine mj_iast dX7_shortens_97 rfl i (by omega) rfl (by decide) ?_
      refine mj_retv rfl dX7_shortens_98 ?_
      exact hQ
def msp (x : mj_X) (d : Int32) (u : Nat) : mj_X := fun c => if c = 47 then (fun k => if k < u ∧ mE x k 0 = d then 1 else x 47 k) else x c
theorem msp_0 (x : mj_X) (d : Int32) : msp x d 0 = x := by
  funext c
  by_cases h : c = 47
  · subst h; simp [msp]
  · simp [msp, h]
theorem msp_yes {x : mj_X} {d : Int32} {j : Nat} (h : mE x j 0 = d) : mj_up (msp x d j) 47 j 1 = msp x d (j + 1) := by
  funext c e
  simp only [up_at, msp]
  by_cases h1 : c = 47
  · subst h1
    by_cases he : e = j
    · subst he; simp [h]
    · simp [he, show (e < j + 1) = (e < j) by simp; omega]
  · simp [h1]
theorem msp_no {x : mj_X} {d : Int32} {j : Nat} (h : ¬ mE x j 0 = d) : mj_up (msp x d j) 47 j (msp x d j 47 j) = msp x d (j + 1) := by
  rw [up_self rfl]
  funext c e
  simp only [msp]
  by_cases h1 : c = 47
  · subst h1
    by_cases he : e = j
    · subst he; simp [h]
    · simp [show (e < j + 1) = (e < j) by simp; omega]
  · simp [h1]
theorem msp_ne {x : mj_X} {d : Int32} {u c : Nat} (h : c ≠ 47) : msp x d u c = x c := by simp [msp, h]
def mdb (x : mj_X) (e : Nat) : Bool := lp_any (mn_has x (mE x e 0) (mE x e 3)) (mbN x)
def mown (x : mj_X) (e : Nat) : Int32 := x 42 (mE x e 4).toNatClampNeg
def mc1 (x : mj_X) (e : Nat) : mj_X := mj_up x 46 e (bi (mdb x e))
def mc2 (x : mj_X) (e : Nat) : mj_X := if 0 < mown x e then mg (mc1 x e) (mbN x) (mE x e 0) (mE x e 1) (mown x e) (nI e) 0 else mc1 x e
def mgn (x : mj_X) (d t : Int32) : Int32 := lp_f (mgrF x d t) 0 (mbN x)
def mtm (x : mj_X) (d t : Int32) : Int32 := if mgn x d t = 0 then 1 else if mgn x d t = 1 then 2 else 4
def mgr (x : mj_X) (e : Nat) : mj_X := msp (mg x (mbN x) (mE x e 0) (lp_f (mbgF x (mE x e 0)) (mE x e 1) (mbN x)) (x 39 330 * mtm x (mE x e 0) (mE x e 1)) (nI e) 1) (mE x e 0) (e + 1)
def mw (x : mj_X) : Nat := (x 39 328).toNatClampNeg
def mcv (x : mj_X) (e : Nat) : mj_X := if mE x e 7 = 1 then x else if mE x e 6 = 1 ∨ most (mc2 x e) (mE x e 0) (mE x e 3) (e + 1) (mw x) < x 39 329 then mc2 x e else mgr (mc2 x e) e
def m_by (x : mj_X) (nb : Nat) : Prop := ∀ b, b < nb → ∃ e, e < 41 ∧ x 52 b = nI e
set_option maxHeartbeats 1000000 in
theorem c_mconv (x : mj_X) (e : Nat) (he : e < 41) (nb : Nat) (hb : nb < 81) (hs : x 37 19 = nI nb) (hby : m_by x nb) (o w kc : Nat) (ho : o ≤ 9999) (heo : mE x e 3 = nI o) (hw : w ≤ 999) (hw8 : x 39 328 = nI w) (hkc : kc < 6) (hec : mE x e 4 = nI kc) : mj_CV mX7_convicts (shX ++ shM) [.ref 37, .int (nI e)] x (fun y => y = mcv x e) := by
  refine mj_startV (ls := [some (.ref 37), some (.int (nI e)), none, none, none, none]) (by decide) rfl rfl (fun Q hQ => ?_)
  have ebn := mbN_eq (x := x) (by omega) hs
  have eow : mown x e = x 42 kc := by unfold mown; rw [hec, nI_clamp (by omega)]
  have emw : mw x = w := by unfold mw; rw [hw8, nI_clamp (by omega)]
  have e81 : nI e + 1 = nI (e + 1) := nI_1 e
  have spl : ∀ (z : mj_X) (w4 : Int32), (∀ k, mE z k 0 = mE x k 0) → Q none (msp z (mE x e 0) (e + 1)) → ∀ (k j : Nat), j ≤ e + 1 → e + 1 < j + k → mj_V mX7_convicts (shX ++ shM) Q (msp z (mE x e 0) j) 168 [some (.ref 37), some (.int (nI e)), some (.int (mE x e 0)), some (.int (mE x e 1)), some (.int w4), some (.int (nI j))] [] := by
    intro z w4 hz hQ9 k
    induction k with
    | zero => intro j h1 h2; omega
    | succ k ih =>
      intro j h1 h2
      have e0 : mE (msp z (mE x e 0) j) j 0 = mE z j 0 := by unfold mE; rw [msp_ne (by decide)]
      refine mj_ild dX7_convicts_168 rfl ?_
      refine mj_ildn dX7_convicts_170 rfl ?_
      refine mj_ic_gt (tgt := 209) dX7_convicts_171 rfl (fun h_171 => ?_) (fun h_171 => ?_)
      · have hj : j = e + 1 := by have := (nI_ltI (a := e) (b := j) (by omega) (by omega)).mp h_171; omega
        subst hj
        refine mj_retv rfl dX7_convicts_209 ?_
        exact hQ9
      · have hlt : j < e + 1 := by have := mt (nI_ltI (a := e) (b := j) (by omega) (by omega)).mpr h_171; omega
        refine mj_aldn dX7_convicts_174 rfl ?_
        refine mj_getr fkX7_37 dX7_convicts_175 rfl rfl ?_
        refine mj_ild dX7_convicts_178 rfl ?_
        refine mj_aldn dX7_convicts_180 rfl ?_
        refine mj_ild dX7_convicts_181 rfl ?_
        refine mj_iconst dX7_convicts_183 ni_0 ?_
        refine mj_cvp (K := mX7_of) (c_of (msp z (mE x e 0) j) j 0 (by omega)) ckX7_of lkX7_164 ⟨Nat.le_of_ble_eq_true rfl, Nat.le_of_ble_eq_true rfl⟩ rfl dX7_convicts_184 rfl rfl (Nat.le_of_ble_eq_true rfl) ?_
        refine mj_ildn dX7_convicts_187 rfl ?_
        refine mj_ic_ne (tgt := 195) dX7_convicts_188 rfl (fun h_188 => ?_) (fun h_188 => ?_)
        · rw [e0] at h_188
          refine mj_aldn dX7_convicts_195 rfl ?_
          refine mj_getr fkX7_37 dX7_convicts_196 rfl rfl ?_
          refine mj_ild dX7_convicts_199 rfl ?_
          refine mj_iald dX7_convicts_201 rfl j (by omega) rfl (by decide) ?_
          refine mj_iast dX7_convicts_202 rfl j (by omega) rfl (by decide) ?_
          refine mj_inc5 dX7_convicts_203 ni_1 rfl ?_
          refine mj_goto (tgt := 168) dX7_convicts_206 rfl ?_
          exact mj_xl (ih (j + 1) (by omega) (by omega)) (by first | exact msp_yes h_188 | exact msp_no h_188) (by rw [nI_1])
        · rw [e0] at h_188
          refine mj_iconst dX7_convicts_191 ni_1 ?_
          refine mj_goto (tgt := 202) dX7_convicts_192 rfl ?_
          refine mj_iast dX7_convicts_202 rfl j (by omega) rfl (by decide) ?_
          refine mj_inc5 dX7_convicts_203 ni_1 rfl ?_
          refine mj_goto (tgt := 168) dX7_convicts_206 rfl ?_
          exact mj_xl (ih (j + 1) (by omega) (by omega)) (by first | exact msp_yes h_188 | exact msp_no h_188) (by rw [nI_1])
  have gtail : ∀ (y : mj_X) (m : Nat), y = mc2 x e → y 37 19 = nI m → m < 82 → m_by y m → y 39 = x 39 → Q none (mgr (mc2 x e) e) → mj_V mX7_convicts (shX ++ shM) Q y 118 [some (.ref 37), some (.int (nI e)), some (.int (mE x e 0)), some (.int (mE x e 1)), none, none] [] := by
    intro y m hy h1 h2 h3 h39 hQ9
    have eE : ∀ k i, mE y k i = mE x k i := fun k i => by unfold mE; rw [h39]
    have em := mbN_eq (x := y) (by omega) h1
    have rest : ∀ v : Int32, v = mtm y (mE x e 0) (mE x e 1) → mj_V mX7_convicts (shX ++ shM) Q y 159 [some (.ref 37), some (.int (nI e)), some (.int (mE x e 0)), some (.int (mE x e 1)), some (.int (mgn y (mE x e 0) (mE x e 1))), none] [.int v, .int (y 39 330), .int (lp_f (mbgF y (mE x e 0)) (mE x e 1) m), .int (mE x e 0), .ref 37] := by
      intro v hv
      refine mj_imul dX7_convicts_159 ?_
      refine mj_ildn dX7_convicts_160 rfl ?_
      refine mj_iconst dX7_convicts_161 ni_1 ?_
      refine mj_cvv (K := mX7_gives) (c_mgives y m h2 h1 (mE x e 0) (lp_f (mbgF y (mE x e 0)) (mE x e 1) m) (y 39 330 * v) (nI e) 1) ckX7_gives lkX7_213 ⟨Nat.le_of_ble_eq_true rfl, Nat.le_of_ble_eq_true rfl⟩ rfl dX7_convicts_162 rfl rfl (Nat.le_of_ble_eq_true rfl) (fun x_162 q_162 => ?_)
      refine mj_iconst dX7_convicts_165 ni_0 ?_
      refine mj_ist5 dX7_convicts_166 rfl ?_
      have ez : ∀ k, mE x_162 k 0 = mE x k 0 := fun k => by rw [q_162]; exact eE k 0
      exact mj_xl (spl x_162 _ ez (by
        rw [q_162]
        have : mgr (mc2 x e) e = msp (mg y m (mE x e 0) (lp_f (mbgF y (mE x e 0)) (mE x e 1) m) (y 39 330 * v) (nI e) 1) (mE x e 0) (e + 1) := by rw [← hy]; unfold mgr; rw [em, eE, eE, hv]
        rw [← this]; exact hQ9) (e + 2) 0 (by omega) (by omega)) (msp_0 _ _).symm rfl
    refine mj_aldn dX7_convicts_118 rfl ?_
    refine mj_ildn dX7_convicts_119 rfl ?_
    refine mj_ildn dX7_convicts_120 rfl ?_
    refine mj_cvp (K := mX7_greatOnes) (c_mgreat y m (by omega) h1 h3 (mE x e 0) (mE x e 1)) ckX7_greatOnes lkX7_219 ⟨Nat.le_of_ble_eq_true rfl, Nat.le_of_ble_eq_true rfl⟩ rfl dX7_convicts_121 rfl rfl (Nat.le_of_ble_eq_true rfl) ?_
    rw [show lp_f (mgrF y (mE x e 0) (mE x e 1)) 0 m = mgn y (mE x e 0) (mE x e 1) from by unfold mgn; rw [em]]
    refine mj_ist4 dX7_convicts_124 rfl ?_
    refine mj_aldn dX7_convicts_126 rfl ?_
    refine mj_ildn dX7_convicts_127 rfl ?_
    refine mj_aldn dX7_convicts_128 rfl ?_
    refine mj_ildn dX7_convicts_129 rfl ?_
    refine mj_ildn dX7_convicts_130 rfl ?_
    refine mj_cvp (K := mX7_beginOf) (c_mbeg y m (by omega) h1 (mE x e 0) (mE x e 1)) ckX7_beginOf lkX7_222 ⟨Nat.le_of_ble_eq_true rfl, Nat.le_of_ble_eq_true rfl⟩ rfl dX7_convicts_131 rfl rfl (Nat.le_of_ble_eq_true rfl) ?_
    refine mj_aldn dX7_convicts_134 rfl ?_
    refine mj_iconst dX7_convicts_135 ni_2 ?_
    refine mj_cvp (K := mX7_ruleOf) (c_ruleOf y 2 (by decide)) ckX7_ruleOf lkX7_145 ⟨Nat.le_of_ble_eq_true rfl, Nat.le_of_ble_eq_true rfl⟩ rfl dX7_convicts_136 rfl rfl (Nat.le_of_ble_eq_true rfl) ?_
    refine mj_ild dX7_convicts_139 rfl ?_
    refine mj_if_ne (tgt := 148) dX7_convicts_141 rfl (fun h_141 => ?_) (fun h_141 => ?_)
    · refine mj_ild dX7_convicts_148 rfl ?_
      refine mj_iconst dX7_convicts_150 ni_1 ?_
      refine mj_ic_ne (tgt := 158) dX7_convicts_151 rfl (fun h_151 => ?_) (fun h_151 => ?_)
      · refine mj_iconst dX7_convicts_158 ni_4 ?_
        exact rest _ (by unfold mtm; rw [if_neg h_141, if_neg h_151])
      · refine mj_iconst dX7_convicts_154 ni_2 ?_
        refine mj_goto (tgt := 159) dX7_convicts_155 rfl ?_
        exact rest _ (by unfold mtm; rw [if_neg h_141, if_pos h_151])
    · refine mj_iconst dX7_convicts_144 ni_1 ?_
      refine mj_goto (tgt := 159) dX7_convicts_145 rfl ?_
      exact rest _ (by unfold mtm; rw [if_pos h_141])
  have tail : ∀ (y : mj_X) (m : Nat), y = mc2 x e → y 37 19 = nI m → m < 82 → m_by y m → y 39 = x 39 → ¬ mE x e 7 = 1 → mj_V mX7_convicts (shX ++ shM) Q y 84 [some (.ref 37), some (.int (nI e)), some (.int (mE x e 0)), some (.int (mE x e 1)), none, none] [] := by
    intro y m hy h1 h2 h3 h39 h7
    have eE : ∀ k i, mE y k i = mE x k i := fun k i => by unfold mE; rw [h39]
    have e329 : y 39 329 = x 39 329 := by rw [h39]
    have e3 : mE y e 3 = nI o := by rw [eE]; exact heo
    have e328 : y 39 328 = nI w := by rw [h39]; exact hw8
    have em : most y (mE x e 0) (nI o) (e + 1) w = most (mc2 x e) (mE x e 0) (mE x e 3) (e + 1) (mw x) := by rw [hy, emw, heo]
    refine mj_aldn dX7_convicts_84 rfl ?_
    refine mj_ildn dX7_convicts_85 rfl ?_
    refine mj_bipush dX7_convicts_86 nb_6 ?_
    refine mj_cvp (K := mX7_of) (c_of y e 6 (by omega)) ckX7_of lkX7_164 ⟨Nat.le_of_ble_eq_true rfl, Nat.le_of_ble_eq_true rfl⟩ rfl dX7_convicts_88 rfl rfl (Nat.le_of_ble_eq_true rfl) ?_
    refine mj_iconst dX7_convicts_91 ni_1 ?_
    refine mj_ic_eq (tgt := 117) dX7_convicts_92 rfl (fun h_92 => ?_) (fun h_92 => ?_)
    · rw [eE] at h_92
      refine mj_retv rfl dX7_convicts_117 ?_
      exact hQ _ (by unfold mcv; rw [if_neg h7, if_pos (by first | exact Or.inl h_92 | exact Or.inr (by grind))]; exact hy)
    · rw [eE] at h_92
      refine mj_aldn dX7_convicts_95 rfl ?_
      refine mj_ildn dX7_convicts_96 rfl ?_
      refine mj_aldn dX7_convicts_97 rfl ?_
      refine mj_ildn dX7_convicts_98 rfl ?_
      refine mj_iconst dX7_convicts_99 ni_3 ?_
      refine mj_cvp (K := mX7_of) (c_of y e 3 (by omega)) ckX7_of lkX7_164 ⟨Nat.le_of_ble_eq_true rfl, Nat.le_of_ble_eq_true rfl⟩ rfl dX7_convicts_100 rfl rfl (Nat.le_of_ble_eq_true rfl) ?_
      refine mj_ildn dX7_convicts_103 rfl ?_
      refine mj_iconst dX7_convicts_104 ni_1 ?_
      refine mj_iadd dX7_convicts_105 ?_
      rw [e3, e81]
      refine mj_cvp (K := mX7_mostOf) (c_most y o ho w hw e328 (e + 1) (by omega) (mE x e 0)) ckX7_mostOf lkX7_216 ⟨Nat.le_of_ble_eq_true rfl, Nat.le_of_ble_eq_true rfl⟩ rfl dX7_convicts_106 rfl rfl (Nat.le_of_ble_eq_true rfl) ?_
      refine mj_aldn dX7_convicts_109 rfl ?_
      refine mj_iconst dX7_convicts_110 ni_1 ?_
      refine mj_cvp (K := mX7_ruleOf) (c_ruleOf y 1 (by decide)) ckX7_ruleOf lkX7_145 ⟨Nat.le_of_ble_eq_true rfl, Nat.le_of_ble_eq_true rfl⟩ rfl dX7_convicts_111 rfl rfl (Nat.le_of_ble_eq_true rfl) ?_
      refine mj_ic_ge (tgt := 118) dX7_convicts_114 rfl (fun h_114 => ?_) (fun h_114 => ?_)
      · rw [e329, em] at h_114
        exact gtail y m hy h1 h2 h3 h39 (hQ _ (by unfold mcv; rw [if_neg h7, if_neg (fun h => h.elim (fun q => h_92 q) (fun q => by grind))]))
      · rw [e329, em] at h_114
        refine mj_retv rfl dX7_convicts_117 ?_
        exact hQ _ (by unfold mcv; rw [if_neg h7, if_pos (by first | exact Or.inl h_92 | exact Or.inr (by grind))]; exact hy)
  have mid : ¬ mE x e 7 = 1 → mj_V mX7_convicts (shX ++ shM) Q (mc1 x e) 51 [some (.ref 37), some (.int (nI e)), some (.int (mE x e 0)), some (.int (mE x e 1)), none, none] [] := by
    intro h7
    have e4 : mE (mc1 x e) e 4 = nI kc := hec
    refine mj_aldn dX7_convicts_51 rfl ?_
    refine mj_getr fkX7_22 dX7_convicts_52 rfl rfl ?_
    refine mj_aldn dX7_convicts_55 rfl ?_
    refine mj_ildn dX7_convicts_56 rfl ?_
    refine mj_iconst dX7_convicts_57 ni_4 ?_
    refine mj_cvp (K := mX7_of) (c_of (mc1 x e) e 4 (by omega)) ckX7_of lkX7_164 ⟨Nat.le_of_ble_eq_true rfl, Nat.le_of_ble_eq_true rfl⟩ rfl dX7_convicts_58 rfl rfl (Nat.le_of_ble_eq_true rfl) ?_
    rw [e4]
    refine mj_iald dX7_convicts_61 rfl kc hkc rfl (by decide) ?_
    refine mj_if_le (tgt := 84) dX7_convicts_62 rfl (fun h_62 => ?_) (fun h_62 => ?_)
    · have h0 : ¬ 0 < mown x e := by rw [eow]; have h : x 42 kc ≤ 0 := h_62; grind
      exact tail (mc1 x e) nb (by unfold mc2; rw [if_neg h0]) hs (by omega) hby rfl h7
    · have h0 : 0 < mown x e := by rw [eow]; have h : ¬ x 42 kc ≤ 0 := h_62; grind
      refine mj_aldn dX7_convicts_65 rfl ?_
      refine mj_ildn dX7_convicts_66 rfl ?_
      refine mj_ildn dX7_convicts_67 rfl ?_
      refine mj_aldn dX7_convicts_68 rfl ?_
      refine mj_getr fkX7_22 dX7_convicts_69 rfl rfl ?_
      refine mj_aldn dX7_convicts_72 rfl ?_
      refine mj_ildn dX7_convicts_73 rfl ?_
      refine mj_iconst dX7_convicts_74 ni_4 ?_
      refine mj_cvp (K := mX7_of) (c_of (mc1 x e) e 4 (by omega)) ckX7_of lkX7_164 ⟨Nat.le_of_ble_eq_true rfl, Nat.le_of_ble_eq_true rfl⟩ rfl dX7_convicts_75 rfl rfl (Nat.le_of_ble_eq_true rfl) ?_
      rw [e4]
      refine mj_iald dX7_convicts_78 rfl kc hkc rfl (by decide) ?_
      refine mj_ildn dX7_convicts_79 rfl ?_
      refine mj_iconst dX7_convicts_80 ni_0 ?_
      refine mj_cvv (K := mX7_gives) (c_mgives (mc1 x e) nb (by omega) hs (mE x e 0) (mE x e 1) (x 42 kc) (nI e) 0) ckX7_gives lkX7_213 ⟨Nat.le_of_ble_eq_true rfl, Nat.le_of_ble_eq_true rfl⟩ rfl dX7_convicts_81 rfl rfl (Nat.le_of_ble_eq_true rfl) (fun x_81 q_81 => ?_)
      refine tail x_81 (nb + 1) (by rw [q_81]; unfold mc2; rw [if_pos h0, eow, ebn]) (by rw [q_81]; unfold mg; rw [up_eq, upd_eq]) (by omega) (fun b hb2 => ?_) (by rw [q_81]; rfl) h7
      by_cases hbe : b = nb
      · subst hbe
        exact ⟨e, he, by rw [q_81]; unfold mg; simp [up_at]⟩
      · obtain ⟨e9, h91, h92⟩ := hby b (by omega)
        refine ⟨e9, h91, ?_⟩
        rw [q_81]; unfold mg mc1; simp [up_at, hbe, h92]
  refine mj_aldn dX7_convicts_0 rfl ?_
  refine mj_ildn dX7_convicts_1 rfl ?_
  refine mj_iconst dX7_convicts_2 ni_0 ?_
  refine mj_cvp (K := mX7_of) (c_of x e 0 (by omega)) ckX7_of lkX7_164 ⟨Nat.le_of_ble_eq_true rfl, Nat.le_of_ble_eq_true rfl⟩ rfl dX7_convicts_3 rfl rfl (Nat.le_of_ble_eq_true rfl) ?_
  refine mj_istn2 dX7_convicts_6 rfl ?_
  refine mj_aldn dX7_convicts_7 rfl ?_
  refine mj_ildn dX7_convicts_8 rfl ?_
  refine mj_iconst dX7_convicts_9 ni_1 ?_
  refine mj_cvp (K := mX7_of) (c_of x e 1 (by omega)) ckX7_of lkX7_164 ⟨Nat.le_of_ble_eq_true rfl, Nat.le_of_ble_eq_true rfl⟩ rfl dX7_convicts_10 rfl rfl (Nat.le_of_ble_eq_true rfl) ?_
  refine mj_istn3 dX7_convicts_13 rfl ?_
  refine mj_aldn dX7_convicts_14 rfl ?_
  refine mj_ildn dX7_convicts_15 rfl ?_
  refine mj_bipush dX7_convicts_16 nb_7 ?_
  refine mj_cvp (K := mX7_of) (c_of x e 7 (by omega)) ckX7_of lkX7_164 ⟨Nat.le_of_ble_eq_true rfl, Nat.le_of_ble_eq_true rfl⟩ rfl dX7_convicts_18 rfl rfl (Nat.le_of_ble_eq_true rfl) ?_
  refine mj_iconst dX7_convicts_21 ni_1 ?_
  refine mj_ic_ne (tgt := 26) dX7_convicts_22 rfl (fun h_22 => ?_) (fun h_22 => ?_)
  · refine mj_aldn dX7_convicts_26 rfl ?_
    refine mj_getr fkX7_34 dX7_convicts_27 rfl rfl ?_
    refine mj_ildn dX7_convicts_30 rfl ?_
    refine mj_aldn dX7_convicts_31 rfl ?_
    refine mj_ildn dX7_convicts_32 rfl ?_
    refine mj_aldn dX7_convicts_33 rfl ?_
    refine mj_ildn dX7_convicts_34 rfl ?_
    refine mj_iconst dX7_convicts_35 ni_3 ?_
    refine mj_cvp (K := mX7_of) (c_of x e 3 (by omega)) ckX7_of lkX7_164 ⟨Nat.le_of_ble_eq_true rfl, Nat.le_of_ble_eq_true rfl⟩ rfl dX7_convicts_36 rfl rfl (Nat.le_of_ble_eq_true rfl) ?_
    refine mj_cvp (K := mX7_isBanned) (c_mban x nb (by omega) hs (mE x e 0) (mE x e 3)) ckX7_isBanned lkX7_209 ⟨Nat.le_of_ble_eq_true rfl, Nat.le_of_ble_eq_true rfl⟩ rfl dX7_convicts_39 rfl rfl (Nat.le_of_ble_eq_true rfl) ?_
    refine mj_if_eq (tgt := 49) dX7_convicts_42 rfl (fun h_42 => ?_) (fun h_42 => ?_)
    · rw [bi_z] at h_42
      refine mj_iconst dX7_convicts_49 ni_0 ?_
      refine mj_iast dX7_convicts_50 rfl e he rfl (by decide) ?_
      exact mj_xl (mid h_22) (by unfold mc1 mdb; rw [ebn, h_42]; rfl) rfl
    · rw [bi_nz] at h_42
      refine mj_iconst dX7_convicts_45 ni_1 ?_
      refine mj_goto (tgt := 50) dX7_convicts_46 rfl ?_
      refine mj_iast dX7_convicts_50 rfl e he rfl (by decide) ?_
      exact mj_xl (mid h_22) (by unfold mc1 mdb; rw [ebn, h_42]; rfl) rfl
  · refine mj_retv rfl dX7_convicts_25 ?_
    exact hQ _ (by unfold mcv; rw [if_pos h_22])
