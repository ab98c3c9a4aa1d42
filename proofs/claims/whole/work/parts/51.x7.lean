/-! PointsOfficeModel(): behind any 37 cells -/
def gmw (pre : List gS) (vs : List Value) (arrs : List gS) : List gS := pre ++ (.inl (7, vs) :: arrs)
theorem gmw_len {pre : List gS} {vs : List Value} {arrs : List gS} {a : Nat} (hp : pre.length = 37) (ha : arrs.length = a) : (gmw pre vs arrs).length = 38 + a := by
  unfold gmw; rw [List.length_append, List.length_cons]; omega
theorem gmw_app {pre : List gS} {vs : List Value} {arrs : List gS} {q : gS} : gmw pre vs arrs ++ [q] = gmw pre vs (arrs ++ [q]) := by
  unfold gmw; rw [List.append_assoc]; rfl
theorem gmw_at {pre : List gS} {vs : List Value} {arrs : List gS} (hp : pre.length = 37) : (gmw pre vs arrs)[37]? = some (.inl (7, vs)) := by
  unfold gmw; rw [List.getElem?_append_right (by omega), hp]; rfl
theorem gmw_set {pre : List gS} {vs vs' : List Value} {arrs : List gS} (hp : pre.length = 37) : (gmw pre vs arrs).set 37 (.inl (7, vs')) = gmw pre vs' arrs := by
  unfold gmw; rw [List.set_append_right _ _ (by omega), hp]; rfl
theorem m_arr {p : Program} {l : Launch} {e : Env} {R : Room} {s : State} {m : MethodId} {args : Array Value} {below : List Frame} {meth : Method} {c : Code} {D : va_G} {ad : Nat → Nat} {cA : ClassId} {h0 k0 : Nat} {Q0 : State → Prop} {n1 n2 pc : Nat} {ls : List (Option Value)} {pre : List gS} {vs : List Value} {arrs : List gS} {n a kf idx : Nat} {i : Int32} (B : gB mX7_init p s m meth c D ad cA h0 k0) (hp : pre.length = 37) (ha : arrs.length = a) (ha2 : a < 60) (hn : k0 + n1 = 38 + a) (hnm : meth.name = "<init>") (hi : i = nI n) (hn2 : n ≤ 100000) (hcells : n1 + 1 ≤ R.cells) (hslots : n2 + n ≤ R.slots)
    (hd1 : decode cX7_init pc = .ok (.newarray .int, 2)) (hk : mj_fk RX7 idx 7 kf RX7 TX7 26) (h5 : mj_wd (.fieldLink RX7 idx RX7 (TX7 kf).2.1 (TX7 kf).2.2.1)) (hfin : (TX7 kf).2.2.2 = true) (hdty : parseFieldDescriptor (TX7 kf).2.2.1 = some (.array .int)) (hkl : kf < vs.length) (hd2 : decode cX7_init (pc + 2) = .ok (.putfield idx, 3))
    (k : gW p l e R s m args below meth c D ad cA h0 Q0 1 (gmw pre (vs.set kf (.ref (38 + a))) (arrs ++ [.inr (n, fun _ => 0)])) (n1 + 1) (n2 + n) (pc + 2 + 3) ls []) : gW p l e R s m args below meth c D ad cA h0 Q0 1 (gmw pre vs arrs) n1 n2 pc ls [.int i, .ref 37] := by
  have hlen := gmw_len (vs := vs) hp ha
  refine g_newa (M := mX7_init) (n := n) B (by omega) (by omega) hi hn2 wA hcells hslots hd1 ?_
  rw [gmw_app, hlen]
  have ha' : (arrs ++ [(.inr (n, fun _ => 0) : gS)]).length = a + 1 := by rw [List.length_append, ha]; rfl
  have hlen2 := gmw_len (vs := vs) hp ha'
  refine g_putF (M := mX7_init) (c1 := 38 + a) (ty := .array .int) B (by omega) hk h5 rfl hnm tyX7_ok nmX7 hfin hdty (fun _ => rfl) (fun _ => rfl) (gmw_at hp) hkl hd2 ?_
  rw [gmw_set hp]
  exact k
theorem g_of_app {x : mj_X} {a b : List mj_S} : g_of x (a ++ b) = g_of x a ++ b.mapIdx (fun k q => g_c (x (k + a.length)) q) := by
  unfold g_of; rw [List.mapIdx_append]
theorem g_of_cg {x y : mj_X} {a : List mj_S} (h : ∀ k, k < a.length → x k = y k) : g_of x a = g_of y a := by
  unfold g_of
  apply List.ext_getElem?
  intro k
  rw [List.getElem?_mapIdx, List.getElem?_mapIdx]
  cases hq : a[k]? with
  | none => rfl
  | some q => show some (g_c (x k) q) = some (g_c (y k) q); rw [h k (List.getElem?_eq_some_iff.mp hq).1]
def mx0 (y : mj_X) : mj_X := fun c => if c < 37 then y c else fun _ => 0
/-- the reference's own state where its constructor has done its work -/
def mxr (z : mj_X) : mj_X := mj_up (mj_up (mj_up (mj_up (mj_up (mj_up z 43 0 60) 43 1 12) 43 2 10) 43 3 150) 43 4 120) 43 5 90
def mxc (z : mj_X) (k : Nat) (p b : Int32) : mj_X := mj_up (mj_up (mj_up z 44 k p) 45 k b) 37 10 (nI (k + 1))
def XM (y z : mj_X) : Prop := ∃ z1 : mj_X, ((∀ i, i < 6 → z1 43 i = mj_st2 i) ∧ z1 37 10 = 0 ∧ (∀ i, i ≠ 10 → z1 37 i = mx0 y 37 i) ∧ ∀ k, k ≠ 37 → k ≠ 43 → z1 k = mx0 y k) ∧ mbe (mxc (mxc (mxc (mxc (mxr z1) 0 3 0) 1 6 0) 2 4 5) 3 9 20) z 4
theorem mxc_10 (z : mj_X) (k : Nat) (p b : Int32) : mxc z k p b 37 10 = nI (k + 1) := by unfold mxc; rw [up_eq, upd_eq]
theorem mxr_37 (z : mj_X) : mxr z 37 = z 37 := by unfold mxr; rw [up_ne (by decide), up_ne (by decide), up_ne (by decide), up_ne (by decide), up_ne (by decide), up_ne (by decide)]
theorem gmw_of (y : mj_X) : gmw (g_of y shX) [.int 0, .ref 38, .ref 39, .ref 40, .int 0, .int 0, .int 0, .ref 41, .ref 42, .ref 43, .int 0, .ref 44, .ref 45, .int 0, .int 0, .int 0, .ref 46, .ref 47, .ref 48, .int 0, .ref 49, .ref 50, .ref 51, .ref 52, .ref 53, .ref 54] [.inr (200, fun _ => 0), .inr (335, fun _ => 0), .inr (2010, fun _ => 0), .inr (6, fun _ => 0), .inr (6, fun _ => 0), .inr (6, fun _ => 0), .inr (6, fun _ => 0), .inr (6, fun _ => 0), .inr (41, fun _ => 0), .inr (41, fun _ => 0), .inr (41, fun _ => 0), .inr (82, fun _ => 0), .inr (82, fun _ => 0), .inr (82, fun _ => 0), .inr (82, fun _ => 0), .inr (82, fun _ => 0), .inr (82, fun _ => 0)] = g_of (mx0 y) (shX ++ shM) := by
  rw [g_of_app, g_of_cg (x := mx0 y) (y := y) (a := shX) (fun k hk => if_pos hk)]
  have z : (fun (k : Nat) (q : mj_S) => g_c (mx0 y (k + shX.length)) q) = fun _ q => g_c (fun _ => 0) q := by
    funext k q
    rw [show mx0 y (k + shX.length) = fun _ => 0 from if_neg (Nat.not_lt.mpr (Nat.le_add_left 37 k))]
  rw [z]
  unfold gmw
  exact congrArg (fun w => g_of y shX ++ w) rfl
set_option maxHeartbeats 2000000 in
set_option maxRecDepth 100000 in
theorem n7b (y : mj_X) {p : Program} {l : Launch} {e : Env} {s : State} {m : MethodId} {args : Array Value} {below : List Frame} {meth : Method} {c : Code} {D : va_G} {ad : Nat → Nat} {cA : ClassId} {h0 : Nat} (B : gB mX7_init p s m meth c D ad cA h0 38) : gW p l e (g_rm mX7_init 17 3190) s m args below meth c D ad cA h0 (MQ below (gQc D ad cA h0 (fun g => ∃ z, XM y z ∧ g = g_of z (shX ++ shM))) args s 17 3190 (gA h0)) 1 (g_of (mx0 y) (shX ++ shM)) 17 3190 143 [some (.ref 37)] [] := by
  refine g_aldn B dX7_init_143 rfl ?_
  refine g_callV (sh := shX ++ shM) (x := mx0 y) (c0 := 37) (As := []) (st := []) B (by decide) (c_empty (mx0 y)) ckX7_empty lkX7_61 ⟨Nat.le_of_ble_eq_true rfl, Nat.le_of_ble_eq_true rfl⟩ ⟨Nat.le_of_ble_eq_true rfl, Nat.le_of_ble_eq_true rfl⟩ rfl dX7_init_144 rfl rfl (by decide) (fun r z1 q => ?_)
  obtain ⟨q1, q2⟩ := q
  subst q1
  refine g_aldn B dX7_init_147 rfl ?_
  refine g_getr (c1 := 43) B fkX7_25 dX7_init_148 rfl rfl ?_
  refine g_iconst (v := 0) B dX7_init_151 (by decide) ?_
  refine g_bipush (v := 60) B dX7_init_152 (by decide) ?_
  refine g_iast (n := 6) B (by decide) dX7_init_154 rfl 0 (by decide) rfl (by decide) ?_
  refine g_aldn B dX7_init_155 rfl ?_
  refine g_getr (c1 := 43) B fkX7_25 dX7_init_156 rfl rfl ?_
  refine g_iconst (v := 1) B dX7_init_159 (by decide) ?_
  refine g_bipush (v := 12) B dX7_init_160 (by decide) ?_
  refine g_iast (n := 6) B (by decide) dX7_init_162 rfl 1 (by decide) rfl (by decide) ?_
  refine g_aldn B dX7_init_163 rfl ?_
  refine g_getr (c1 := 43) B fkX7_25 dX7_init_164 rfl rfl ?_
  refine g_iconst (v := 2) B dX7_init_167 (by decide) ?_
  refine g_bipush (v := 10) B dX7_init_168 (by decide) ?_
  refine g_iast (n := 6) B (by decide) dX7_init_170 rfl 2 (by decide) rfl (by decide) ?_
  refine g_aldn B dX7_init_171 rfl ?_
  refine g_getr (c1 := 43) B fkX7_25 dX7_init_172 rfl rfl ?_
  refine g_iconst (v := 3) B dX7_init_175 (by decide) ?_
  refine g_sipush (v := 150) B dX7_init_176 (by decide) ?_
  refine g_iast (n := 6) B (by decide) dX7_init_179 rfl 3 (by decide) rfl (by decide) ?_
  refine g_aldn B dX7_init_180 rfl ?_
  refine g_getr (c1 := 43) B fkX7_25 dX7_init_181 rfl rfl ?_
  refine g_iconst (v := 4) B dX7_init_184 (by decide) ?_
  refine g_bipush (v := 120) B dX7_init_185 (by decide) ?_
  refine g_iast (n := 6) B (by decide) dX7_init_187 rfl 4 (by decide) rfl (by decide) ?_
  refine g_aldn B dX7_init_188 rfl ?_
  refine g_getr (c1 := 43) B fkX7_25 dX7_init_189 rfl rfl ?_
  refine g_iconst (v := 5) B dX7_init_192 (by decide) ?_
  refine g_bipush (v := 90) B dX7_init_193 (by decide) ?_
  refine g_iast (n := 6) B (by decide) dX7_init_195 rfl 5 (by decide) rfl (by decide) ?_
  have e0 : mxr z1 37 10 = nI 0 := by rw [mxr_37]; exact q2.2.1
  refine g_cw (gw' := g_of (mxr z1) (shX ++ shM)) rfl ?_
  refine g_aldn B dX7_init_196 rfl ?_
  refine g_iconst (v := 3) B dX7_init_197 (by decide) ?_
  refine g_iconst (v := 0) B dX7_init_198 (by decide) ?_
  refine g_callV (sh := shX ++ shM) (x := mxr z1) (c0 := 37) (As := [.int 3, .int 0]) (st := []) B (by decide) (c_codeIs (mxr z1) 0 (by decide) e0 3 0) ckX7_codeIs lkX7_64 ⟨Nat.le_of_ble_eq_true rfl, Nat.le_of_ble_eq_true rfl⟩ ⟨Nat.le_of_ble_eq_true rfl, Nat.le_of_ble_eq_true rfl⟩ rfl dX7_init_199 rfl rfl (by decide) (fun r x0 q => ?_)
  obtain ⟨qa0, qb0⟩ := q
  subst qa0
  have qc0 : x0 = mxc (mxr z1) 0 3 0 := qb0
  clear qb0
  subst qc0
  refine g_aldn B dX7_init_202 rfl ?_
  refine g_bipush (v := 6) B dX7_init_203 (by decide) ?_
  refine g_iconst (v := 0) B dX7_init_205 (by decide) ?_
  refine g_callV (sh := shX ++ shM) (x := mxc (mxr z1) 0 3 0) (c0 := 37) (As := [.int 6, .int 0]) (st := []) B (by decide) (c_codeIs (mxc (mxr z1) 0 3 0) 1 (by decide) (mxc_10 _ _ _ _) 6 0) ckX7_codeIs lkX7_64 ⟨Nat.le_of_ble_eq_true rfl, Nat.le_of_ble_eq_true rfl⟩ ⟨Nat.le_of_ble_eq_true rfl, Nat.le_of_ble_eq_true rfl⟩ rfl dX7_init_206 rfl rfl (by decide) (fun r x1 q => ?_)
  obtain ⟨qa1, qb1⟩ := q
  subst qa1
  have qc1 : x1 = mxc (mxc (mxr z1) 0 3 0) 1 6 0 := qb1
  clear qb1
  subst qc1
  refine g_aldn B dX7_init_209 rfl ?_
  refine g_iconst (v := 4) B dX7_init_210 (by decide) ?_
  refine g_iconst (v := 5) B dX7_init_211 (by decide) ?_
  refine g_callV (sh := shX ++ shM) (x := mxc (mxc (mxr z1) 0 3 0) 1 6 0) (c0 := 37) (As := [.int 4, .int 5]) (st := []) B (by decide) (c_codeIs (mxc (mxc (mxr z1) 0 3 0) 1 6 0) 2 (by decide) (mxc_10 _ _ _ _) 4 5) ckX7_codeIs lkX7_64 ⟨Nat.le_of_ble_eq_true rfl, Nat.le_of_ble_eq_true rfl⟩ ⟨Nat.le_of_ble_eq_true rfl, Nat.le_of_ble_eq_true rfl⟩ rfl dX7_init_212 rfl rfl (by decide) (fun r x2 q => ?_)
  obtain ⟨qa2, qb2⟩ := q
  subst qa2
  have qc2 : x2 = mxc (mxc (mxc (mxr z1) 0 3 0) 1 6 0) 2 4 5 := qb2
  clear qb2
  subst qc2
  refine g_aldn B dX7_init_215 rfl ?_
  refine g_bipush (v := 9) B dX7_init_216 (by decide) ?_
  refine g_bipush (v := 20) B dX7_init_218 (by decide) ?_
  refine g_callV (sh := shX ++ shM) (x := mxc (mxc (mxc (mxr z1) 0 3 0) 1 6 0) 2 4 5) (c0 := 37) (As := [.int 9, .int 20]) (st := []) B (by decide) (c_codeIs (mxc (mxc (mxc (mxr z1) 0 3 0) 1 6 0) 2 4 5) 3 (by decide) (mxc_10 _ _ _ _) 9 20) ckX7_codeIs lkX7_64 ⟨Nat.le_of_ble_eq_true rfl, Nat.le_of_ble_eq_true rfl⟩ ⟨Nat.le_of_ble_eq_true rfl, Nat.le_of_ble_eq_true rfl⟩ rfl dX7_init_220 rfl rfl (by decide) (fun r x3 q => ?_)
  obtain ⟨qa3, qb3⟩ := q
  subst qa3
  have qc3 : x3 = mxc (mxc (mxc (mxc (mxr z1) 0 3 0) 1 6 0) 2 4 5) 3 9 20 := qb3
  clear qb3
  subst qc3
  refine g_aldn B dX7_init_223 rfl ?_
  refine g_callV (sh := shX ++ shM) (x := mxc (mxc (mxc (mxc (mxr z1) 0 3 0) 1 6 0) 2 4 5) 3 9 20) (c0 := 37) (As := []) (st := []) B (by decide) (c_begin (mxc (mxc (mxc (mxc (mxr z1) 0 3 0) 1 6 0) 2 4 5) 3 9 20) 4 (by decide) (mxc_10 _ _ _ _)) ckX7_begin lkX7_68 ⟨Nat.le_of_ble_eq_true rfl, Nat.le_of_ble_eq_true rfl⟩ ⟨Nat.le_of_ble_eq_true rfl, Nat.le_of_ble_eq_true rfl⟩ rfl dX7_init_224 rfl rfl (by decide) (fun r z q => ?_)
  obtain ⟨q3, q4⟩ := q
  subst q3
  exact g_retv B rfl dX7_init_227 ⟨z, ⟨z1, q2, q4⟩, rfl⟩
set_option maxHeartbeats 2000000 in
set_option maxRecDepth 100000 in
theorem n7a {pre : List gS} {Q0 : State → Prop} (hp : pre.length = 37) {p : Program} {l : Launch} {e : Env} {s : State} {m : MethodId} {args : Array Value} {below : List Frame} {meth : Method} {c : Code} {D : va_G} {ad : Nat → Nat} {cA : ClassId} {h0 : Nat} (B : gB mX7_init p s m meth c D ad cA h0 38) (hnm : meth.name = "<init>") (key : gW p l e (g_rm mX7_init 17 3190) s m args below meth c D ad cA h0 Q0 1 (gmw pre [.int 0, .ref 38, .ref 39, .ref 40, .int 0, .int 0, .int 0, .ref 41, .ref 42, .ref 43, .int 0, .ref 44, .ref 45, .int 0, .int 0, .int 0, .ref 46, .ref 47, .ref 48, .int 0, .ref 49, .ref 50, .ref 51, .ref 52, .ref 53, .ref 54] [.inr (200, fun _ => 0), .inr (335, fun _ => 0), .inr (2010, fun _ => 0), .inr (6, fun _ => 0), .inr (6, fun _ => 0), .inr (6, fun _ => 0), .inr (6, fun _ => 0), .inr (6, fun _ => 0), .inr (41, fun _ => 0), .inr (41, fun _ => 0), .inr (41, fun _ => 0), .inr (82, fun _ => 0), .inr (82, fun _ => 0), .inr (82, fun _ => 0), .inr (82, fun _ => 0), .inr (82, fun _ => 0), .inr (82, fun _ => 0)]) 17 3190 143 [some (.ref 37)] []) : gW p l e (g_rm mX7_init 17 3190) s m args below meth c D ad cA h0 Q0 1 (gmw pre [.int 0, .null, .null, .null, .int 0, .int 0, .int 0, .null, .null, .null, .int 0, .null, .null, .int 0, .int 0, .int 0, .null, .null, .null, .int 0, .null, .null, .null, .null, .null, .null] []) 0 0 0 [some (.ref 37)] [] := by
  refine g_aldn B dX7_init_0 rfl ?_
  refine g_obj B woX7_1 wO1 wO2 dX7_init_1 (by decide) (by decide) ?_
  refine g_aldn B dX7_init_4 rfl ?_
  refine g_sipush (v := nI 200) B dX7_init_5 (by decide) ?_
  refine m_arr (n := 200) (a := 0) (kf := 1) B hp rfl (by decide) rfl hnm rfl (by decide) (Nat.le_of_ble_eq_true rfl) (Nat.le_of_ble_eq_true rfl) dX7_init_8 fkX7_7 flX7_7 rfl (by decide +kernel) (Nat.le_of_ble_eq_true rfl) dX7_init_10 ?_
  refine g_cw (gw' := gmw pre [.int 0, .ref 38, .null, .null, .int 0, .int 0, .int 0, .null, .null, .null, .int 0, .null, .null, .int 0, .int 0, .int 0, .null, .null, .null, .int 0, .null, .null, .null, .null, .null, .null] [.inr (200, fun _ => 0)]) rfl ?_
  refine g_aldn B dX7_init_13 rfl ?_
  refine g_sipush (v := nI 335) B dX7_init_14 (by decide) ?_
  refine m_arr (n := 335) (a := 1) (kf := 2) B hp rfl (by decide) rfl hnm rfl (by decide) (Nat.le_of_ble_eq_true rfl) (Nat.le_of_ble_eq_true rfl) dX7_init_17 fkX7_13 flX7_13 rfl (by decide +kernel) (Nat.le_of_ble_eq_true rfl) dX7_init_19 ?_
  refine g_cw (gw' := gmw pre [.int 0, .ref 38, .ref 39, .null, .int 0, .int 0, .int 0, .null, .null, .null, .int 0, .null, .null, .int 0, .int 0, .int 0, .null, .null, .null, .int 0, .null, .null, .null, .null, .null, .null] [.inr (200, fun _ => 0), .inr (335, fun _ => 0)]) rfl ?_
  refine g_aldn B dX7_init_22 rfl ?_
  refine g_sipush (v := nI 2010) B dX7_init_23 (by decide) ?_
  refine m_arr (n := 2010) (a := 2) (kf := 3) B hp rfl (by decide) rfl hnm rfl (by decide) (Nat.le_of_ble_eq_true rfl) (Nat.le_of_ble_eq_true rfl) dX7_init_26 fkX7_16 flX7_16 rfl (by decide +kernel) (Nat.le_of_ble_eq_true rfl) dX7_init_28 ?_
  refine g_cw (gw' := gmw pre [.int 0, .ref 38, .ref 39, .ref 40, .int 0, .int 0, .int 0, .null, .null, .null, .int 0, .null, .null, .int 0, .int 0, .int 0, .null, .null, .null, .int 0, .null, .null, .null, .null, .null, .null] [.inr (200, fun _ => 0), .inr (335, fun _ => 0), .inr (2010, fun _ => 0)]) rfl ?_
  refine g_aldn B dX7_init_31 rfl ?_
  refine g_bipush (v := nI 6) B dX7_init_32 (by decide) ?_
  refine m_arr (n := 6) (a := 3) (kf := 7) B hp rfl (by decide) rfl hnm rfl (by decide) (Nat.le_of_ble_eq_true rfl) (Nat.le_of_ble_eq_true rfl) dX7_init_34 fkX7_19 flX7_19 rfl (by decide +kernel) (Nat.le_of_ble_eq_true rfl) dX7_init_36 ?_
  refine g_cw (gw' := gmw pre [.int 0, .ref 38, .ref 39, .ref 40, .int 0, .int 0, .int 0, .ref 41, .null, .null, .int 0, .null, .null, .int 0, .int 0, .int 0, .null, .null, .null, .int 0, .null, .null, .null, .null, .null, .null] [.inr (200, fun _ => 0), .inr (335, fun _ => 0), .inr (2010, fun _ => 0), .inr (6, fun _ => 0)]) rfl ?_
  refine g_aldn B dX7_init_39 rfl ?_
  refine g_bipush (v := nI 6) B dX7_init_40 (by decide) ?_
  refine m_arr (n := 6) (a := 4) (kf := 8) B hp rfl (by decide) rfl hnm rfl (by decide) (Nat.le_of_ble_eq_true rfl) (Nat.le_of_ble_eq_true rfl) dX7_init_42 fkX7_22 flX7_22 rfl (by decide +kernel) (Nat.le_of_ble_eq_true rfl) dX7_init_44 ?_
  refine g_cw (gw' := gmw pre [.int 0, .ref 38, .ref 39, .ref 40, .int 0, .int 0, .int 0, .ref 41, .ref 42, .null, .int 0, .null, .null, .int 0, .int 0, .int 0, .null, .null, .null, .int 0, .null, .null, .null, .null, .null, .null] [.inr (200, fun _ => 0), .inr (335, fun _ => 0), .inr (2010, fun _ => 0), .inr (6, fun _ => 0), .inr (6, fun _ => 0)]) rfl ?_
  refine g_aldn B dX7_init_47 rfl ?_
  refine g_bipush (v := nI 6) B dX7_init_48 (by decide) ?_
  refine m_arr (n := 6) (a := 5) (kf := 9) B hp rfl (by decide) rfl hnm rfl (by decide) (Nat.le_of_ble_eq_true rfl) (Nat.le_of_ble_eq_true rfl) dX7_init_50 fkX7_25 flX7_25 rfl (by decide +kernel) (Nat.le_of_ble_eq_true rfl) dX7_init_52 ?_
  refine g_cw (gw' := gmw pre [.int 0, .ref 38, .ref 39, .ref 40, .int 0, .int 0, .int 0, .ref 41, .ref 42, .ref 43, .int 0, .null, .null, .int 0, .int 0, .int 0, .null, .null, .null, .int 0, .null, .null, .null, .null, .null, .null] [.inr (200, fun _ => 0), .inr (335, fun _ => 0), .inr (2010, fun _ => 0), .inr (6, fun _ => 0), .inr (6, fun _ => 0), .inr (6, fun _ => 0)]) rfl ?_
  refine g_aldn B dX7_init_55 rfl ?_
  refine g_bipush (v := nI 6) B dX7_init_56 (by decide) ?_
  refine m_arr (n := 6) (a := 6) (kf := 11) B hp rfl (by decide) rfl hnm rfl (by decide) (Nat.le_of_ble_eq_true rfl) (Nat.le_of_ble_eq_true rfl) dX7_init_58 fkX7_28 flX7_28 rfl (by decide +kernel) (Nat.le_of_ble_eq_true rfl) dX7_init_60 ?_
  refine g_cw (gw' := gmw pre [.int 0, .ref 38, .ref 39, .ref 40, .int 0, .int 0, .int 0, .ref 41, .ref 42, .ref 43, .int 0, .ref 44, .null, .int 0, .int 0, .int 0, .null, .null, .null, .int 0, .null, .null, .null, .null, .null, .null] [.inr (200, fun _ => 0), .inr (335, fun _ => 0), .inr (2010, fun _ => 0), .inr (6, fun _ => 0), .inr (6, fun _ => 0), .inr (6, fun _ => 0), .inr (6, fun _ => 0)]) rfl ?_
  refine g_aldn B dX7_init_63 rfl ?_
  refine g_bipush (v := nI 6) B dX7_init_64 (by decide) ?_
  refine m_arr (n := 6) (a := 7) (kf := 12) B hp rfl (by decide) rfl hnm rfl (by decide) (Nat.le_of_ble_eq_true rfl) (Nat.le_of_ble_eq_true rfl) dX7_init_66 fkX7_31 flX7_31 rfl (by decide +kernel) (Nat.le_of_ble_eq_true rfl) dX7_init_68 ?_
  refine g_cw (gw' := gmw pre [.int 0, .ref 38, .ref 39, .ref 40, .int 0, .int 0, .int 0, .ref 41, .ref 42, .ref 43, .int 0, .ref 44, .ref 45, .int 0, .int 0, .int 0, .null, .null, .null, .int 0, .null, .null, .null, .null, .null, .null] [.inr (200, fun _ => 0), .inr (335, fun _ => 0), .inr (2010, fun _ => 0), .inr (6, fun _ => 0), .inr (6, fun _ => 0), .inr (6, fun _ => 0), .inr (6, fun _ => 0), .inr (6, fun _ => 0)]) rfl ?_
  refine g_aldn B dX7_init_71 rfl ?_
  refine g_bipush (v := nI 41) B dX7_init_72 (by decide) ?_
  refine m_arr (n := 41) (a := 8) (kf := 16) B hp rfl (by decide) rfl hnm rfl (by decide) (Nat.le_of_ble_eq_true rfl) (Nat.le_of_ble_eq_true rfl) dX7_init_74 fkX7_34 flX7_34 rfl (by decide +kernel) (Nat.le_of_ble_eq_true rfl) dX7_init_76 ?_
  refine g_cw (gw' := gmw pre [.int 0, .ref 38, .ref 39, .ref 40, .int 0, .int 0, .int 0, .ref 41, .ref 42, .ref 43, .int 0, .ref 44, .ref 45, .int 0, .int 0, .int 0, .ref 46, .null, .null, .int 0, .null, .null, .null, .null, .null, .null] [.inr (200, fun _ => 0), .inr (335, fun _ => 0), .inr (2010, fun _ => 0), .inr (6, fun _ => 0), .inr (6, fun _ => 0), .inr (6, fun _ => 0), .inr (6, fun _ => 0), .inr (6, fun _ => 0), .inr (41, fun _ => 0)]) rfl ?_
  refine g_aldn B dX7_init_79 rfl ?_
  refine g_bipush (v := nI 41) B dX7_init_80 (by decide) ?_
  refine m_arr (n := 41) (a := 9) (kf := 17) B hp rfl (by decide) rfl hnm rfl (by decide) (Nat.le_of_ble_eq_true rfl) (Nat.le_of_ble_eq_true rfl) dX7_init_82 fkX7_37 flX7_37 rfl (by decide +kernel) (Nat.le_of_ble_eq_true rfl) dX7_init_84 ?_
  refine g_cw (gw' := gmw pre [.int 0, .ref 38, .ref 39, .ref 40, .int 0, .int 0, .int 0, .ref 41, .ref 42, .ref 43, .int 0, .ref 44, .ref 45, .int 0, .int 0, .int 0, .ref 46, .ref 47, .null, .int 0, .null, .null, .null, .null, .null, .null] [.inr (200, fun _ => 0), .inr (335, fun _ => 0), .inr (2010, fun _ => 0), .inr (6, fun _ => 0), .inr (6, fun _ => 0), .inr (6, fun _ => 0), .inr (6, fun _ => 0), .inr (6, fun _ => 0), .inr (41, fun _ => 0), .inr (41, fun _ => 0)]) rfl ?_
  refine g_aldn B dX7_init_87 rfl ?_
  refine g_bipush (v := nI 41) B dX7_init_88 (by decide) ?_
  refine m_arr (n := 41) (a := 10) (kf := 18) B hp rfl (by decide) rfl hnm rfl (by decide) (Nat.le_of_ble_eq_true rfl) (Nat.le_of_ble_eq_true rfl) dX7_init_90 fkX7_40 flX7_40 rfl (by decide +kernel) (Nat.le_of_ble_eq_true rfl) dX7_init_92 ?_
  refine g_cw (gw' := gmw pre [.int 0, .ref 38, .ref 39, .ref 40, .int 0, .int 0, .int 0, .ref 41, .ref 42, .ref 43, .int 0, .ref 44, .ref 45, .int 0, .int 0, .int 0, .ref 46, .ref 47, .ref 48, .int 0, .null, .null, .null, .null, .null, .null] [.inr (200, fun _ => 0), .inr (335, fun _ => 0), .inr (2010, fun _ => 0), .inr (6, fun _ => 0), .inr (6, fun _ => 0), .inr (6, fun _ => 0), .inr (6, fun _ => 0), .inr (6, fun _ => 0), .inr (41, fun _ => 0), .inr (41, fun _ => 0), .inr (41, fun _ => 0)]) rfl ?_
  refine g_aldn B dX7_init_95 rfl ?_
  refine g_bipush (v := nI 82) B dX7_init_96 (by decide) ?_
  refine m_arr (n := 82) (a := 11) (kf := 20) B hp rfl (by decide) rfl hnm rfl (by decide) (Nat.le_of_ble_eq_true rfl) (Nat.le_of_ble_eq_true rfl) dX7_init_98 fkX7_43 flX7_43 rfl (by decide +kernel) (Nat.le_of_ble_eq_true rfl) dX7_init_100 ?_
  refine g_cw (gw' := gmw pre [.int 0, .ref 38, .ref 39, .ref 40, .int 0, .int 0, .int 0, .ref 41, .ref 42, .ref 43, .int 0, .ref 44, .ref 45, .int 0, .int 0, .int 0, .ref 46, .ref 47, .ref 48, .int 0, .ref 49, .null, .null, .null, .null, .null] [.inr (200, fun _ => 0), .inr (335, fun _ => 0), .inr (2010, fun _ => 0), .inr (6, fun _ => 0), .inr (6, fun _ => 0), .inr (6, fun _ => 0), .inr (6, fun _ => 0), .inr (6, fun _ => 0), .inr (41, fun _ => 0), .inr (41, fun _ => 0), .inr (41, fun _ => 0), .inr (82, fun _ => 0)]) rfl ?_
  refine g_aldn B dX7_init_103 rfl ?_
  refine g_bipush (v := nI 82) B dX7_init_104 (by decide) ?_
  refine m_arr (n := 82) (a := 12) (kf := 21) B hp rfl (by decide) rfl hnm rfl (by decide) (Nat.le_of_ble_eq_true rfl) (Nat.le_of_ble_eq_true rfl) dX7_init_106 fkX7_46 flX7_46 rfl (by decide +kernel) (Nat.le_of_ble_eq_true rfl) dX7_init_108 ?_
  refine g_cw (gw' := gmw pre [.int 0, .ref 38, .ref 39, .ref 40, .int 0, .int 0, .int 0, .ref 41, .ref 42, .ref 43, .int 0, .ref 44, .ref 45, .int 0, .int 0, .int 0, .ref 46, .ref 47, .ref 48, .int 0, .ref 49, .ref 50, .null, .null, .null, .null] [.inr (200, fun _ => 0), .inr (335, fun _ => 0), .inr (2010, fun _ => 0), .inr (6, fun _ => 0), .inr (6, fun _ => 0), .inr (6, fun _ => 0), .inr (6, fun _ => 0), .inr (6, fun _ => 0), .inr (41, fun _ => 0), .inr (41, fun _ => 0), .inr (41, fun _ => 0), .inr (82, fun _ => 0), .inr (82, fun _ => 0)]) rfl ?_
  refine g_aldn B dX7_init_111 rfl ?_
  refine g_bipush (v := nI 82) B dX7_init_112 (by decide) ?_
  refine m_arr (n := 82) (a := 13) (kf := 22) B hp rfl (by decide) rfl hnm rfl (by decide) (Nat.le_of_ble_eq_true rfl) (Nat.le_of_ble_eq_true rfl) dX7_init_114 fkX7_49 flX7_49 rfl (by decide +kernel) (Nat.le_of_ble_eq_true rfl) dX7_init_116 ?_
  refine g_cw (gw' := gmw pre [.int 0, .ref 38, .ref 39, .ref 40, .int 0, .int 0, .int 0, .ref 41, .ref 42, .ref 43, .int 0, .ref 44, .ref 45, .int 0, .int 0, .int 0, .ref 46, .ref 47, .ref 48, .int 0, .ref 49, .ref 50, .ref 51, .null, .null, .null] [.inr (200, fun _ => 0), .inr (335, fun _ => 0), .inr (2010, fun _ => 0), .inr (6, fun _ => 0), .inr (6, fun _ => 0), .inr (6, fun _ => 0), .inr (6, fun _ => 0), .inr (6, fun _ => 0), .inr (41, fun _ => 0), .inr (41, fun _ => 0), .inr (41, fun _ => 0), .inr (82, fun _ => 0), .inr (82, fun _ => 0), .inr (82, fun _ => 0)]) rfl ?_
  refine g_aldn B dX7_init_119 rfl ?_
  refine g_bipush (v := nI 82) B dX7_init_120 (by decide) ?_
  refine m_arr (n := 82) (a := 14) (kf := 23) B hp rfl (by decide) rfl hnm rfl (by decide) (Nat.le_of_ble_eq_true rfl) (Nat.le_of_ble_eq_true rfl) dX7_init_122 fkX7_52 flX7_52 rfl (by decide +kernel) (Nat.le_of_ble_eq_true rfl) dX7_init_124 ?_
  refine g_cw (gw' := gmw pre [.int 0, .ref 38, .ref 39, .ref 40, .int 0, .int 0, .int 0, .ref 41, .ref 42, .ref 43, .int 0, .ref 44, .ref 45, .int 0, .int 0, .int 0, .ref 46, .ref 47, .ref 48, .int 0, .ref 49, .ref 50, .ref 51, .ref 52, .null, .null] [.inr (200, fun _ => 0), .inr (335, fun _ => 0), .inr (2010, fun _ => 0), .inr (6, fun _ => 0), .inr (6, fun _ => 0), .inr (6, fun _ => 0), .inr (6, fun _ => 0), .inr (6, fun _ => 0), .inr (41, fun _ => 0), .inr (41, fun _ => 0), .inr (41, fun _ => 0), .inr (82, fun _ => 0), .inr (82, fun _ => 0), .inr (82, fun _ => 0), .inr (82, fun _ => 0)]) rfl ?_
  refine g_aldn B dX7_init_127 rfl ?_
  refine g_bipush (v := nI 82) B dX7_init_128 (by decide) ?_
  refine m_arr (n := 82) (a := 15) (kf := 24) B hp rfl (by decide) rfl hnm rfl (by decide) (Nat.le_of_ble_eq_true rfl) (Nat.le_of_ble_eq_true rfl) dX7_init_130 fkX7_55 flX7_55 rfl (by decide +kernel) (Nat.le_of_ble_eq_true rfl) dX7_init_132 ?_
  refine g_cw (gw' := gmw pre [.int 0, .ref 38, .ref 39, .ref 40, .int 0, .int 0, .int 0, .ref 41, .ref 42, .ref 43, .int 0, .ref 44, .ref 45, .int 0, .int 0, .int 0, .ref 46, .ref 47, .ref 48, .int 0, .ref 49, .ref 50, .ref 51, .ref 52, .ref 53, .null] [.inr (200, fun _ => 0), .inr (335, fun _ => 0), .inr (2010, fun _ => 0), .inr (6, fun _ => 0), .inr (6, fun _ => 0), .inr (6, fun _ => 0), .inr (6, fun _ => 0), .inr (6, fun _ => 0), .inr (41, fun _ => 0), .inr (41, fun _ => 0), .inr (41, fun _ => 0), .inr (82, fun _ => 0), .inr (82, fun _ => 0), .inr (82, fun _ => 0), .inr (82, fun _ => 0), .inr (82, fun _ => 0)]) rfl ?_
  refine g_aldn B dX7_init_135 rfl ?_
  refine g_bipush (v := nI 82) B dX7_init_136 (by decide) ?_
  refine m_arr (n := 82) (a := 16) (kf := 25) B hp rfl (by decide) rfl hnm rfl (by decide) (Nat.le_of_ble_eq_true rfl) (Nat.le_of_ble_eq_true rfl) dX7_init_138 fkX7_58 flX7_58 rfl (by decide +kernel) (Nat.le_of_ble_eq_true rfl) dX7_init_140 ?_
  refine g_cw (gw' := gmw pre [.int 0, .ref 38, .ref 39, .ref 40, .int 0, .int 0, .int 0, .ref 41, .ref 42, .ref 43, .int 0, .ref 44, .ref 45, .int 0, .int 0, .int 0, .ref 46, .ref 47, .ref 48, .int 0, .ref 49, .ref 50, .ref 51, .ref 52, .ref 53, .ref 54] [.inr (200, fun _ => 0), .inr (335, fun _ => 0), .inr (2010, fun _ => 0), .inr (6, fun _ => 0), .inr (6, fun _ => 0), .inr (6, fun _ => 0), .inr (6, fun _ => 0), .inr (6, fun _ => 0), .inr (41, fun _ => 0), .inr (41, fun _ => 0), .inr (41, fun _ => 0), .inr (82, fun _ => 0), .inr (82, fun _ => 0), .inr (82, fun _ => 0), .inr (82, fun _ => 0), .inr (82, fun _ => 0), .inr (82, fun _ => 0)]) rfl ?_
  exact key
theorem n7 (y : mj_X) : gC mX7_init 17 3190 (gmw (g_of y shX) [.int 0, .null, .null, .null, .int 0, .int 0, .int 0, .null, .null, .null, .int 0, .null, .null, .int 0, .int 0, .int 0, .null, .null, .null, .int 0, .null, .null, .null, .null, .null, .null] []) [.ref 37] (fun g => ∃ z, XM y z ∧ g = g_of z (shX ++ shM)) := by
  refine g_start (ls := [some (.ref 37)]) (by decide) rfl rfl (fun p l e s m args below meth c D ad cA h0 B hnm => ?_)
  rw [gmw_len g_of_len rfl] at B
  refine n7a g_of_len B hnm ?_
  rw [gmw_of]
  exact n7b y B
