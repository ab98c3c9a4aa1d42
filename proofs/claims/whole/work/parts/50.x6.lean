/-! PointsOffice() -/
theorem g_cw {p : Program} {l : Launch} {e : Env} {R : Room} {s : State} {m : MethodId} {args : Array Value} {below : List Frame} {meth : Method} {c : Code} {D : va_G} {ad : Nat → Nat} {cA : ClassId} {h0 nL : Nat} {Q0 : State → Prop} {gw gw' : List gS} {n1 n2 pc : Nat} {ls : List (Option Value)} {st : List Value} (h : gw = gw') (k : gW p l e R s m args below meth c D ad cA h0 Q0 nL gw' n1 n2 pc ls st) : gW p l e R s m args below meth c D ad cA h0 Q0 nL gw n1 n2 pc ls st := by subst h; exact k
theorem g_of_at {x : mj_X} {sh : List mj_S} {k ci : Nat} {fs : List (Option Nat)} (h : sh[k]? = some (.inl (ci, fs))) : (g_of x sh)[k]? = some (.inl (ci, fs.mapIdx (g_f (x k)))) := by
  unfold g_of; rw [List.getElem?_mapIdx, h]; rfl
theorem g_getr {p : Program} {l : Launch} {e : Env} {R : Room} {s : State} {m : MethodId} {args : Array Value} {below : List Frame} {meth : Method} {c : Code} {D : va_G} {ad : Nat → Nat} {cA : ClassId} {h0 k0 : Nat} {Q0 : State → Prop} {M : mj_M} {n1 n2 pc : Nat} {ls : List (Option Value)} {st : List Value} {ci kf idx c0 c1 : Nat} {C : String} {T : u_T} {N : Nat} {sh : List mj_S} {x : mj_X} {fs : List (Option Nat)} (B : gB M p s m meth c D ad cA h0 k0) (hk : mj_fk M.1.cls idx ci kf C T N) (hd : decode M.2.1 pc = .ok (.getfield idx, 3)) (he : sh[c0]? = some (.inl (ci, fs))) (hf : fs[kf]? = some (some c1)) (k : gW p l e R s m args below meth c D ad cA h0 Q0 M.2.2.1 (g_of x sh) n1 n2 (pc + 3) ls (.ref c1 :: st)) : gW p l e R s m args below meth c D ad cA h0 Q0 M.2.2.1 (g_of x sh) n1 n2 pc ls (.ref c0 :: st) :=
  g_get (v := .ref c1) B hk hd (g_of_at he) (by rw [List.getElem?_mapIdx, hf]; rfl) k
def LPx (j : Nat) (x : mj_X) : Prop := x 1 1 = nI j ∧ (∀ i, i < j → x 2 i = txB.getD i 0) ∧ ∀ c, c ≠ 1 → c ≠ 2 → x c = fun _ => 0
/-- what PointsOffice() leaves -/
def XP (y : mj_X) : Prop := ∃ x w, LPx 46 x ∧ tx_A x w 3 (tx_all (tx_pk (x 2) 46) 46 200 tx_in) ∧ y = mj_up w 1 1 0
set_option maxHeartbeats 4000000 in
set_option maxRecDepth 100000 in
theorem n6b {p : Program} {l : Launch} {e : Env} {s : State} {m : MethodId} {args : Array Value} {below : List Frame} {meth : Method} {c : Code} {D : va_G} {ad : Nat → Nat} {cA : ClassId} {h0 : Nat} (B : gB mX6_init p s m meth c D ad cA h0 1) : gW p l e (g_rm mX6_init 36 1365) s m args below meth c D ad cA h0 (MQ below (gQc D ad cA h0 (fun g => ∃ y, XP y ∧ g = g_of y shX)) args s 36 1365 (gA h0)) 2 (g_of (fun _ _ => 0) (shX ++ [])) 36 1365 93 [some (.ref 0), none] [] := by
  have loop : ∀ (f j : Nat) (x : mj_X), j ≤ 46 → 46 < j + f → LPx j x → gW p l e (g_rm mX6_init 36 1365) s m args below meth c D ad cA h0 (MQ below (gQc D ad cA h0 (fun g => ∃ y, XP y ∧ g = g_of y shX)) args s 36 1365 (gA h0)) 2 (g_of x (shX ++ [])) 36 1365 95 [some (.ref 0), some (.int (nI j))] [] := by
    intro f
    induction f with
    | zero => intro j x h1 h2; omega
    | succ f ih =>
      intro j x h1 h2 hx
      refine g_ildn B dX6_init_95 rfl ?_
      refine g_ldcS B rfl rfl dX6_init_96 ?_
      refine s_callV (As := []) (st := [.int (nI j)]) B (by rw [g_of_len]; decide) (by rw [g_of_len]; rfl) (j_len _ (by rw [g_of_len]; decide)) rfl ckJ0_length_8abf5 jm58 ⟨by decide, by decide⟩ ⟨by decide, by decide⟩ rfl dX6_init_98 (Nat.le_of_ble_eq_true rfl) ?_
      refine g_ic_ge (tgt := 124) B dX6_init_101 rfl (fun h => ?_) (fun h => ?_)
      · have hj : j = 46 := by rw [nI_leI (by omega) (by omega)] at h; omega
        subst hj
        refine g_aldn B dX6_init_124 rfl ?_
        refine g_getr (c1 := 1) B fkX6_10 dX6_init_125 rfl rfl ?_
        refine g_aldn B dX6_init_128 rfl ?_
        refine g_getr (c1 := 3) B fkX6_19 dX6_init_129 rfl rfl ?_
        refine g_callV (c0 := 1) (As := [.ref 3]) (st := []) B (by decide) (c_into [] x 46 (by decide) hx.1 3 (by decide) ⟨rfl, rfl, rfl, rfl⟩) ckX4_readInto lkX6_72 ⟨by decide, by decide⟩ ⟨by decide, by decide⟩ rfl dX6_init_132 rfl rfl (by decide) (fun r w q => ?_)
        obtain ⟨q1, q2⟩ := q
        subst q1
        refine g_aldn B dX6_init_135 rfl ?_
        refine g_getr (c1 := 1) B fkX6_10 dX6_init_136 rfl rfl ?_
        refine g_callV (c0 := 1) (As := []) (st := []) B (by decide) (c_tclear [] w) ckX4_clear lkX6_76 ⟨by decide, by decide⟩ ⟨by decide, by decide⟩ rfl dX6_init_139 rfl rfl (by decide) (fun r y q => ?_)
        obtain ⟨q3, q4⟩ := q
        subst q3
        exact g_retv B rfl dX6_init_142 ⟨y, ⟨x, w, hx, q2, q4⟩, rfl⟩
      · have hj : j < 46 := by rw [nI_leI (by omega) (by omega)] at h; omega
        refine g_aldn B dX6_init_104 rfl ?_
        refine g_getr (c1 := 1) B fkX6_10 dX6_init_105 rfl rfl ?_
        refine g_ldcS B rfl rfl dX6_init_108 ?_
        refine g_ildn B dX6_init_110 rfl ?_
        refine s_callV (As := [.int (nI j)]) (st := [.ref 1]) B (by rw [g_of_len]; decide) (by rw [g_of_len]; rfl) (j_char _ (by rw [g_of_len]; decide) j hj) rfl ckJ0_charAt_5068e jm64 ⟨by decide, by decide⟩ ⟨by decide, by decide⟩ rfl dX6_init_111 (Nat.le_of_ble_eq_true rfl) ?_
        refine g_callV (c0 := 1) (As := [.int (txB.getD j 0)]) (st := []) B (by decide) (c_tadd [] x j (by omega) hx.1 (txB.getD j 0)) ckX4_add lkX6_68 ⟨by decide, by decide⟩ ⟨by decide, by decide⟩ rfl dX6_init_114 rfl rfl (by decide) (fun r y q => ?_)
        obtain ⟨z, q1, q2, q3⟩ := q
        subst q1 q2
        refine g_popi B dX6_init_117 ?_
        refine g_iinc (v := nI j) (k1 := 1) B dX6_init_118 (by decide) rfl (fun i hi => by cases hi; rfl) ?_
        refine g_goto (tgt := 95) B dX6_init_121 rfl ?_
        have hy : LPx (j + 1) y := by
          subst q3
          refine ⟨by rw [up_eq, upd_eq], fun i hi => ?_, fun c h1 h2 => by rw [up_ne h1, up_ne h2]; exact hx.2.2 c h1 h2⟩
          rw [up_ne (by decide), up_eq]
          by_cases e : i = j
          · subst e; rw [upd_eq]
          · rw [upd_ne e]; exact hx.2.1 i (by omega)
        have := ih (j + 1) y (by omega) (by omega) hy
        rw [← nI_1] at this
        exact this
  refine g_iconst (v := 0) B dX6_init_93 (by decide) ?_
  refine g_istn B dX6_init_94 (by decide) (fun i hi => by cases hi; rfl) ?_
  exact loop 47 0 (fun _ _ => 0) (by decide) (by decide) ⟨rfl, fun i hi => absurd hi (Nat.not_lt_zero i), fun _ _ _ => rfl⟩
set_option maxHeartbeats 4000000 in
set_option maxRecDepth 100000 in
theorem n6 : gC mX6_init 36 1365 [.inl (6, [.null, .null, .null, .null, .null, .null, .null, .int 0])] [.ref 0] (fun g => ∃ y, XP y ∧ g = g_of y shX) := by
  refine g_start (ls := [some (.ref 0), none]) (by decide) rfl rfl (fun p l e s m args below meth c D ad cA h0 B hnm => ?_)
  refine g_aldn B dX6_init_0 rfl ?_
  refine g_obj B woX6_1 wO1 wO2 dX6_init_1 (by decide) (by decide) ?_
  refine g_aldn B dX6_init_4 rfl ?_
  refine g_new (ci := 4) (vs := [.null, .int 0, .int 0, .int 0, .int 0]) B (by decide) rfl rfl inX4 tyX4 tyX4_ok (fun j hj => by rcases (show j = 0 ∨ j = 1 ∨ j = 2 ∨ j = 3 ∨ j = 4 by omega) with rfl | rfl | rfl | rfl | rfl <;> rfl) (fun _ => rfl) clX6_7 cnX4 czX4 (by decide) (by decide) dX6_init_5 ?_
  refine g_dupr B dX6_init_8 ?_
  refine g_callI (c0 := 1) (As := []) (st := [.ref 1, .ref 0]) B (by decide) rfl n4 ckX4_init ciX4_init rfl rfl lkX6_9 ⟨by decide, by decide⟩ ⟨by decide, by decide⟩ rfl dX6_init_9 (by decide) (fun gw_0 q_0 => ?_)
  subst q_0
  refine g_putF (c1 := 1) (ty := .object "PointsOffice$RuleText") B (by decide) fkX6_10 flX6_10 rfl hnm tyX6_ok nmX6 rfl (by decide +kernel) (fun _ => rfl) (fun _ => rfl) rfl (by decide) dX6_init_12 ?_
  refine g_aldn B dX6_init_15 rfl ?_
  refine g_new (ci := 5) (vs := [.null, .null, .null, .int 0]) B (by decide) rfl rfl inX5 tyX5 tyX5_ok (fun j hj => by rcases (show j = 0 ∨ j = 1 ∨ j = 2 ∨ j = 3 by omega) with rfl | rfl | rfl | rfl <;> rfl) (fun _ => rfl) clX6_16 cnX5 czX5 (by decide) (by decide) dX6_init_16 ?_
  refine g_dupr B dX6_init_19 ?_
  refine g_callI (c0 := 3) (As := []) (st := [.ref 3, .ref 0]) B (by decide) rfl n5 ckX5_init ciX5_init rfl rfl lkX6_18 ⟨by decide, by decide⟩ ⟨by decide, by decide⟩ rfl dX6_init_20 (by decide) (fun gw_1 q_1 => ?_)
  subst q_1
  refine g_putF (c1 := 3) (ty := .object "PointsOffice$Rules") B (by decide) fkX6_19 flX6_19 rfl hnm tyX6_ok nmX6 rfl (by decide +kernel) (fun _ => rfl) (fun _ => rfl) rfl (by decide) dX6_init_23 ?_
  refine g_aldn B dX6_init_26 rfl ?_
  refine g_new (ci := 5) (vs := [.null, .null, .null, .int 0]) B (by decide) rfl rfl inX5 tyX5 tyX5_ok (fun j hj => by rcases (show j = 0 ∨ j = 1 ∨ j = 2 ∨ j = 3 by omega) with rfl | rfl | rfl | rfl <;> rfl) (fun _ => rfl) clX6_16 cnX5 czX5 (by decide) (by decide) dX6_init_27 ?_
  refine g_dupr B dX6_init_30 ?_
  refine g_callI (c0 := 7) (As := []) (st := [.ref 7, .ref 0]) B (by decide) rfl n5b ckX5_init ciX5_init rfl rfl lkX6_18 ⟨by decide, by decide⟩ ⟨by decide, by decide⟩ rfl dX6_init_31 (by decide) (fun gw_2 q_2 => ?_)
  subst q_2
  refine g_putF (c1 := 7) (ty := .object "PointsOffice$Rules") B (by decide) fkX6_23 flX6_23 rfl hnm tyX6_ok nmX6 rfl (by decide +kernel) (fun _ => rfl) (fun _ => rfl) rfl (by decide) dX6_init_34 ?_
  refine g_aldn B dX6_init_37 rfl ?_
  refine g_new (ci := 2) (vs := [.null, .null, .null, .null, .null, .null, .null, .null, .null, .null, .null, .null, .int 0]) B (by decide) rfl rfl inX2 tyX2 tyX2_ok (fun j hj => by rcases (show j = 0 ∨ j = 1 ∨ j = 2 ∨ j = 3 ∨ j = 4 ∨ j = 5 ∨ j = 6 ∨ j = 7 ∨ j = 8 ∨ j = 9 ∨ j = 10 ∨ j = 11 ∨ j = 12 by omega) with rfl | rfl | rfl | rfl | rfl | rfl | rfl | rfl | rfl | rfl | rfl | rfl | rfl <;> rfl) (fun _ => rfl) clX6_26 cnX2 czX2 (by decide) (by decide) dX6_init_38 ?_
  refine g_dupr B dX6_init_41 ?_
  refine g_callI (c0 := 11) (As := []) (st := [.ref 11, .ref 0]) B (by decide) rfl n2 ckX2_init ciX2_init rfl rfl lkX6_28 ⟨by decide, by decide⟩ ⟨by decide, by decide⟩ rfl dX6_init_42 (by decide) (fun gw_3 q_3 => ?_)
  subst q_3
  refine g_putF (c1 := 11) (ty := .object "PointsOffice$Events") B (by decide) fkX6_29 flX6_29 rfl hnm tyX6_ok nmX6 rfl (by decide +kernel) (fun _ => rfl) (fun _ => rfl) rfl (by decide) dX6_init_45 ?_
  refine g_aldn B dX6_init_48 rfl ?_
  refine g_new (ci := 0) (vs := [.null, .null, .null, .null, .null, .null, .null, .int 0]) B (by decide) rfl rfl inX0 tyX0 tyX0_ok (fun j hj => by rcases (show j = 0 ∨ j = 1 ∨ j = 2 ∨ j = 3 ∨ j = 4 ∨ j = 5 ∨ j = 6 ∨ j = 7 by omega) with rfl | rfl | rfl | rfl | rfl | rfl | rfl | rfl <;> rfl) (fun _ => rfl) clX6_33 cnX0 czX0 (by decide) (by decide) dX6_init_49 ?_
  refine g_dupr B dX6_init_52 ?_
  refine g_callI (c0 := 24) (As := []) (st := [.ref 24, .ref 0]) B (by decide) rfl n0 ckX0_init ciX0_init rfl rfl lkX6_35 ⟨by decide, by decide⟩ ⟨by decide, by decide⟩ rfl dX6_init_53 (by decide) (fun gw_4 q_4 => ?_)
  subst q_4
  refine g_putF (c1 := 24) (ty := .object "PointsOffice$Bans") B (by decide) fkX6_36 flX6_36 rfl hnm tyX6_ok nmX6 rfl (by decide +kernel) (fun _ => rfl) (fun _ => rfl) rfl (by decide) dX6_init_56 ?_
  refine g_aldn B dX6_init_59 rfl ?_
  refine g_new (ci := 3) (vs := [.null, .null, .null, .int 0]) B (by decide) rfl rfl inX3 tyX3 tyX3_ok (fun j hj => by rcases (show j = 0 ∨ j = 1 ∨ j = 2 ∨ j = 3 by omega) with rfl | rfl | rfl | rfl <;> rfl) (fun _ => rfl) clX6_40 cnX3 czX3 (by decide) (by decide) dX6_init_60 ?_
  refine g_dupr B dX6_init_63 ?_
  refine g_aldn B dX6_init_64 rfl ?_
  refine g_get (v := .ref 3) B fkX6_19 dX6_init_65 rfl rfl ?_
  refine g_aldn B dX6_init_68 rfl ?_
  refine g_get (v := .ref 11) B fkX6_29 dX6_init_69 rfl rfl ?_
  refine g_aldn B dX6_init_72 rfl ?_
  refine g_get (v := .ref 24) B fkX6_36 dX6_init_73 rfl rfl ?_
  refine g_callI (c0 := 32) (As := [.ref 3, .ref 11, .ref 24]) (st := [.ref 32, .ref 0]) B (by decide) rfl n3 ckX3_init ciX3_init rfl rfl lkX6_42 ⟨by decide, by decide⟩ ⟨by decide, by decide⟩ rfl dX6_init_76 (by decide) (fun gw_5 q_5 => ?_)
  subst q_5
  refine g_putF (c1 := 32) (ty := .object "PointsOffice$Reckoner") B (by decide) fkX6_45 flX6_45 rfl hnm tyX6_ok nmX6 rfl (by decide +kernel) (fun _ => rfl) (fun _ => rfl) rfl (by decide) dX6_init_79 ?_
  refine g_aldn B dX6_init_82 rfl ?_
  refine g_new (ci := 1) (vs := [.null, .null, .null, .int 0, .int 0, .int 0, .int 0]) B (by decide) rfl rfl inX1 tyX1 tyX1_ok (fun j hj => by rcases (show j = 0 ∨ j = 1 ∨ j = 2 ∨ j = 3 ∨ j = 4 ∨ j = 5 ∨ j = 6 by omega) with rfl | rfl | rfl | rfl | rfl | rfl | rfl <;> rfl) (fun _ => rfl) clX6_49 cnX1 czX1 (by decide) (by decide) dX6_init_83 ?_
  refine g_dupr B dX6_init_86 ?_
  refine g_callI (c0 := 33) (As := []) (st := [.ref 33, .ref 0]) B (by decide) rfl n1c ckX1_init ciX1_init rfl rfl lkX6_51 ⟨by decide, by decide⟩ ⟨by decide, by decide⟩ rfl dX6_init_87 (by decide) (fun gw_6 q_6 => ?_)
  subst q_6
  refine g_putF (c1 := 33) (ty := .object "PointsOffice$Changes") B (by decide) fkX6_52 flX6_52 rfl hnm tyX6_ok nmX6 rfl (by decide +kernel) (fun _ => rfl) (fun _ => rfl) rfl (by decide) dX6_init_90 ?_
  refine g_cw (gw' := g_of (fun _ _ => 0) (shX ++ [])) rfl ?_
  exact n6b B

