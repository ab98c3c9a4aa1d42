/-! THE GROWING MACHINE (g_): a world to which cells are added; addresses are known: the cell k < 100 lies at h0 + k -/
abbrev gS : Type := (Nat × List Value) ⊕ (Nat × (Nat → Int32))
def g_e (ad : Nat → Nat) (cA : ClassId) (q : gS) : va_E := match q with
  | .inl o => .inr (o.1, o.2.map (mj_v ad))
  | .inr a => .inl (cA, (a.1, .inl a.2))
def g_w (ad : Nat → Nat) (cA : ClassId) (gw : List gS) : va_W := gw.mapIdx (fun k q => (ad k, g_e ad cA q))
def gA (h0 : Nat) : Nat → Prop := fun q => h0 ≤ q
def g_ad (ad : Nat → Nat) (h0 : Nat) : Prop := ∀ k, k < 100 → ad k = h0 + k
def txB : List Int32 := [119, 48, 54, 48, 59, 108, 49, 50, 59, 98, 49, 48, 59, 109, 49, 53, 48, 59, 115, 49, 50, 48, 48, 57, 48, 59, 107, 51, 48, 48, 59, 107, 54, 48, 48, 59, 107, 52, 48, 53, 59, 107, 57, 50, 48, 59]
/-- what is known of the statics and of the first text's String constant (cell 104; its bytes 105) -/
def gZ (h0 : Nat) (ad : Nat → Nat) (U : State) (H : Heap) : Prop := mj_Z (gA h0) ad U H ∧ vk_S 1 [46] [txB] (fun _ => ad 104) (fun _ => ad 105) (gA h0) U H ∧ va_Z "java/lang/String" "COMPACT_STRINGS" "Z" (.int 1) (gA h0) U H ∧ (va_Z "jdk/internal/util/Preconditions" "SIOOBE_FORMATTER" "Ljava/util/function/BiFunction;" (.ref (ad 106)) (gA h0) U H ∨ va_Z "jdk/internal/util/Preconditions" "SIOOBE_FORMATTER" "Ljava/util/function/BiFunction;" .null (gA h0) U H) ∧ vk_R "PointsOffice" 56 "w060;l12;b10;m150;s120090;k300;k600;k405;k920;" (ad 104) U
theorem gZ.go {h0 : Nat} {ad : Nat → Nat} {s U : State} {H : Heap} {locs : List Loc} (h : gZ h0 ad s s.heap) (hS : va_S (gA h0) s.heap H locs) (hW : s.WarmedH U.vm) : gZ h0 ad U H := by
  obtain ⟨h1, h2, h3, h4, h5⟩ := h
  exact ⟨(h1.moved hW.alike).kept hS.2.1, (vk_S.moved hW.alike h2).kept hS.2.1, (va_Z.moved hW.alike h3).kept hS.2.1, h4.imp (fun q => (va_Z.moved hW.alike q).kept hS.2.1) (fun q => (va_Z.moved hW.alike q).kept hS.2.1), vk_R.warm hW h5⟩
def gG (D : va_G) (ad : Nat → Nat) (cA : ClassId) (h0 : Nat) (U : State) : Prop := mj_T U ∧ va_K D mj_cl [(cA, .int)] U ∧ gZ h0 ad U U.heap ∧ g_ad ad h0
def gB (M : mj_M) (p : Program) (s : State) (m : MethodId) (meth : Method) (c : Code) (D : va_G) (ad : Nat → Nat) (cA : ClassId) (h0 k0 : Nat) : Prop :=
  p.tables.exec = Jvm.exec ∧ c.code = M.2.1 ∧ c.maxLocals = M.2.2.1 ∧ meth.sig.returnType = M.2.2.2.1 ∧ meth.locks = false ∧ s.vm.findClass M.1.cls = some m.cls ∧ gG D ad cA h0 s ∧ s.heap.size = h0 + k0
def gW (p : Program) (l : Launch) (e : Env) (R : Room) (s : State) (m : MethodId) (args : Array Value) (below : List Frame) (meth : Method) (c : Code) (D : va_G) (ad : Nat → Nat) (cA : ClassId) (h0 : Nat) (Q0 : State → Prop) (nL : Nat) (gw : List gS) (n1 n2 pc : Nat) (ls : List (Option Value)) (st : List Value) : Prop :=
  ∀ (H : Heap) (locs : List Loc) (lsA : Array Slot), va_P D mj_cl (g_w ad cA gw) H → va_S (gA h0) s.heap H locs → mj_L ad lsA nL ls → W p l e R s m args below meth c H locs n1 n2 Q0 (F0 m pc lsA (st.map (mj_v ad)))
theorem g_w_at {ad : Nat → Nat} {cA : ClassId} {gw : List gS} {k : Nat} {q : gS} (h : gw[k]? = some q) : (g_w ad cA gw)[k]? = some (ad k, g_e ad cA q) := by
  unfold g_w; rw [List.getElem?_mapIdx, h]; rfl
theorem g_w_len {ad : Nat → Nat} {cA : ClassId} {gw : List gS} : (g_w ad cA gw).length = gw.length := by unfold g_w; rw [List.length_mapIdx]
theorem g_w_app {ad : Nat → Nat} {cA : ClassId} {gw : List gS} {q : gS} : g_w ad cA (gw ++ [q]) = g_w ad cA gw ++ [(ad gw.length, g_e ad cA q)] := by
  unfold g_w; rw [List.mapIdx_append]; simp
theorem g_w_set {ad : Nat → Nat} {cA : ClassId} {gw : List gS} {k : Nat} {q : gS} : (g_w ad cA gw).set k (ad k, g_e ad cA q) = g_w ad cA (gw.set k q) := by
  apply List.ext_getElem?
  intro j
  by_cases hj : j = k
  · subst hj
    by_cases hl : j < gw.length
    · rw [g_w_at (List.getElem?_set_self hl), List.getElem?_set_self (by rw [g_w_len]; exact hl)]
    · rw [List.getElem?_eq_none (by rw [List.length_set, g_w_len]; omega), List.getElem?_eq_none (by rw [g_w_len, List.length_set]; omega)]
  · rw [List.getElem?_set_ne (Ne.symm hj)]
    unfold g_w
    rw [List.getElem?_mapIdx, List.getElem?_mapIdx, List.getElem?_set_ne (Ne.symm hj)]
theorem g_D {ad : Nat → Nat} {cA : ClassId} {h0 : Nat} {gw : List gS} (h : g_ad ad h0) (hl : gw.length ≤ 100) : va_D (gA h0) (g_w ad cA gw) := by
  have key : ∀ (k : Nat) (q : Nat × va_E), (g_w ad cA gw)[k]? = some q → k < gw.length ∧ q.1 = ad k := by
    intro k q hk
    unfold g_w at hk
    rw [List.getElem?_mapIdx] at hk
    cases hs : gw[k]? with
    | none => rw [hs] at hk; cases hk
    | some s0 =>
      rw [hs] at hk
      cases hk
      exact ⟨(List.getElem?_eq_some_iff.mp hs).1, rfl⟩
  refine ⟨fun i j p q hi hj hpq => ?_, fun k q hk => ?_⟩
  · obtain ⟨a1, a2⟩ := key i p hi
    obtain ⟨b1, b2⟩ := key j q hj
    rw [a2, b2, h i (by omega), h j (by omega)] at hpq
    omega
  · obtain ⟨a1, a2⟩ := key k q hk
    rw [a2, h k (by omega)]
    unfold gA; omega
section GROW
variable {p : Program} {l : Launch} {e : Env} {R : Room} {s : State} {m : MethodId} {args : Array Value} {below : List Frame} {meth : Method} {c : Code} {D : va_G} {ad : Nat → Nat} {cA : ClassId} {h0 k0 : Nat} {Q0 : State → Prop} {M : mj_M} {gw : List gS} {n1 n2 pc : Nat} {ls : List (Option Value)} {st : List Value}
theorem g_size {T : State} {H : Heap} {locs : List Loc} (B : gB M p s m meth c D ad cA h0 k0) (hT : T.heap = H) (X : Stand p l e R s m args below meth c T locs n1 n2) (hP : va_P D mj_cl (g_w ad cA gw) H) (hS : va_S (gA h0) s.heap H locs) (hn : k0 + n1 = gw.length) (hl : gw.length ≤ 100) : H.size = h0 + gw.length := by
  have h1 : T.heap.size ≤ s.heap.size + n1 := X.same.2.2.1
  have hs := B.2.2.2.2.2.2.2
  have had := B.2.2.2.2.2.2.1.2.2.2
  rw [hT] at h1
  by_cases h0l : gw.length = 0
  · have := hS.1; omega
  · have hk : gw.length - 1 < gw.length := by omega
    have hq : gw[gw.length - 1]? = some gw[gw.length - 1] := List.getElem?_eq_getElem hk
    have := (hP _ _ (g_w_at hq)).lt
    have e1 := had (gw.length - 1) (by omega)
    have this : ad (gw.length - 1) < H.size := this
    omega
theorem g_iconst {n : Int} {v : Int32} (B : gB M p s m meth c D ad cA h0 k0) (hd : decode M.2.1 pc = .ok (.iconst n, 1)) (hv : Int32.ofInt n = v) (k : gW p l e R s m args below meth c D ad cA h0 Q0 M.2.2.1 gw n1 n2 (pc + 1) ls (.int v :: st)) : gW p l e R s m args below meth c D ad cA h0 Q0 M.2.2.1 gw n1 n2 pc ls st :=
  fun H locs lsA hP hS hL => lv_iconst B.1 B.2.1 hd hv (k H locs lsA hP hS hL)
theorem g_bipush {n : Int} {v : Int32} (B : gB M p s m meth c D ad cA h0 k0) (hd : decode M.2.1 pc = .ok (.bipush n, 2)) (hv : (Int8.ofInt n).toInt32 = v) (k : gW p l e R s m args below meth c D ad cA h0 Q0 M.2.2.1 gw n1 n2 (pc + 2) ls (.int v :: st)) : gW p l e R s m args below meth c D ad cA h0 Q0 M.2.2.1 gw n1 n2 pc ls st :=
  fun H locs lsA hP hS hL => lv_bipush B.1 B.2.1 hd hv (k H locs lsA hP hS hL)
theorem g_sipush {n : Int} {v : Int32} (B : gB M p s m meth c D ad cA h0 k0) (hd : decode M.2.1 pc = .ok (.sipush n, 3)) (hv : (Int16.ofInt n).toInt32 = v) (k : gW p l e R s m args below meth c D ad cA h0 Q0 M.2.2.1 gw n1 n2 (pc + 3) ls (.int v :: st)) : gW p l e R s m args below meth c D ad cA h0 Q0 M.2.2.1 gw n1 n2 pc ls st :=
  fun H locs lsA hP hS hL => lv_sipush B.1 B.2.1 hd hv (k H locs lsA hP hS hL)
theorem g_ildn {j0 : Fin 4} {v : Int32} (B : gB M p s m meth c D ad cA h0 k0) (hd : decode M.2.1 pc = .ok (.iload_n j0, 1)) (hl : ls[(j0 : Nat)]? = some (some (.int v))) (k : gW p l e R s m args below meth c D ad cA h0 Q0 M.2.2.1 gw n1 n2 (pc + 1) ls (.int v :: st)) : gW p l e R s m args below meth c D ad cA h0 Q0 M.2.2.1 gw n1 n2 pc ls st :=
  fun H locs lsA hP hS hL => lv_iload_n B.1 B.2.1 hd rfl (hL.2.2.2 _ _ hl) (k H locs lsA hP hS hL)
theorem g_aldn {j0 : Fin 4} {v : Nat} (B : gB M p s m meth c D ad cA h0 k0) (hd : decode M.2.1 pc = .ok (.aload_n j0, 1)) (hl : ls[(j0 : Nat)]? = some (some (.ref v))) (k : gW p l e R s m args below meth c D ad cA h0 Q0 M.2.2.1 gw n1 n2 (pc + 1) ls (.ref v :: st)) : gW p l e R s m args below meth c D ad cA h0 Q0 M.2.2.1 gw n1 n2 pc ls st :=
  fun H locs lsA hP hS hL => lv_aload_n B.1 B.2.1 hd rfl (hL.2.2.2 _ _ hl) (k H locs lsA hP hS hL)
theorem g_isub {a b : Int32} (B : gB M p s m meth c D ad cA h0 k0) (hd : decode M.2.1 pc = .ok (.isub, 1)) (k : gW p l e R s m args below meth c D ad cA h0 Q0 M.2.2.1 gw n1 n2 (pc + 1) ls (.int (a - b) :: st)) : gW p l e R s m args below meth c D ad cA h0 Q0 M.2.2.1 gw n1 n2 pc ls (.int b :: .int a :: st) :=
  fun H locs lsA hP hS hL => lv_isub B.1 B.2.1 hd (k H locs lsA hP hS hL)
theorem g_iadd {a b : Int32} (B : gB M p s m meth c D ad cA h0 k0) (hd : decode M.2.1 pc = .ok (.iadd, 1)) (k : gW p l e R s m args below meth c D ad cA h0 Q0 M.2.2.1 gw n1 n2 (pc + 1) ls (.int (a + b) :: st)) : gW p l e R s m args below meth c D ad cA h0 Q0 M.2.2.1 gw n1 n2 pc ls (.int b :: .int a :: st) :=
  fun H locs lsA hP hS hL => lv_iadd B.1 B.2.1 hd (k H locs lsA hP hS hL)
theorem g_iand {a b : Int32} (B : gB M p s m meth c D ad cA h0 k0) (hd : decode M.2.1 pc = .ok (.iand, 1)) (k : gW p l e R s m args below meth c D ad cA h0 Q0 M.2.2.1 gw n1 n2 (pc + 1) ls (.int (a &&& b) :: st)) : gW p l e R s m args below meth c D ad cA h0 Q0 M.2.2.1 gw n1 n2 pc ls (.int b :: .int a :: st) :=
  fun H locs lsA hP hS hL => lv_iand B.1 B.2.1 hd (k H locs lsA hP hS hL)
theorem g_dupr {a : Nat} (B : gB M p s m meth c D ad cA h0 k0) (hd : decode M.2.1 pc = .ok (.dup, 1)) (k : gW p l e R s m args below meth c D ad cA h0 Q0 M.2.2.1 gw n1 n2 (pc + 1) ls (.ref a :: .ref a :: st)) : gW p l e R s m args below meth c D ad cA h0 Q0 M.2.2.1 gw n1 n2 pc ls (.ref a :: st) :=
  fun H locs lsA hP hS hL => lv_dup B.1 B.2.1 hd rfl (k H locs lsA hP hS hL)
theorem g_popi {a : Int32} (B : gB M p s m meth c D ad cA h0 k0) (hd : decode M.2.1 pc = .ok (.pop, 1)) (k : gW p l e R s m args below meth c D ad cA h0 Q0 M.2.2.1 gw n1 n2 (pc + 1) ls st) : gW p l e R s m args below meth c D ad cA h0 Q0 M.2.2.1 gw n1 n2 pc ls (.int a :: st) :=
  fun H locs lsA hP hS hL => lv_pop B.1 B.2.1 hd rfl (k H locs lsA hP hS hL)
theorem g_goto {off : Int} {tgt : Nat} (B : gB M p s m meth c D ad cA h0 k0) (hd : decode M.2.1 pc = .ok (.goto off, 3)) (ht : (pc : Int) + off = (tgt : Int)) (k : gW p l e R s m args below meth c D ad cA h0 Q0 M.2.2.1 gw n1 n2 tgt ls st) : gW p l e R s m args below meth c D ad cA h0 Q0 M.2.2.1 gw n1 n2 pc ls st :=
  fun H locs lsA hP hS hL => lv_goto B.1 B.2.1 hd ht (k H locs lsA hP hS hL)
theorem g_ic_ge {a b : Int32} {off : Int} {tgt : Nat} (B : gB M p s m meth c D ad cA h0 k0) (hd : decode M.2.1 pc = .ok (.if_icmp .ge off, 3)) (ht : (pc : Int) + off = (tgt : Int)) (kt : b ≤ a → gW p l e R s m args below meth c D ad cA h0 Q0 M.2.2.1 gw n1 n2 tgt ls st) (kf : ¬ b ≤ a → gW p l e R s m args below meth c D ad cA h0 Q0 M.2.2.1 gw n1 n2 (pc + 3) ls st) : gW p l e R s m args below meth c D ad cA h0 Q0 M.2.2.1 gw n1 n2 pc ls (.int b :: .int a :: st) :=
  fun H locs lsA hP hS hL => lv_icmp_ge B.1 B.2.1 hd ht (fun h => kt h H locs lsA hP hS hL) (fun h => kf h H locs lsA hP hS hL)
theorem g_ic_gt {a b : Int32} {off : Int} {tgt : Nat} (B : gB M p s m meth c D ad cA h0 k0) (hd : decode M.2.1 pc = .ok (.if_icmp .gt off, 3)) (ht : (pc : Int) + off = (tgt : Int)) (kt : b < a → gW p l e R s m args below meth c D ad cA h0 Q0 M.2.2.1 gw n1 n2 tgt ls st) (kf : ¬ b < a → gW p l e R s m args below meth c D ad cA h0 Q0 M.2.2.1 gw n1 n2 (pc + 3) ls st) : gW p l e R s m args below meth c D ad cA h0 Q0 M.2.2.1 gw n1 n2 pc ls (.int b :: .int a :: st) :=
  fun H locs lsA hP hS hL => lv_icmp_gt B.1 B.2.1 hd ht (fun h => kt h H locs lsA hP hS hL) (fun h => kf h H locs lsA hP hS hL)
theorem g_ic_eq {a b : Int32} {off : Int} {tgt : Nat} (B : gB M p s m meth c D ad cA h0 k0) (hd : decode M.2.1 pc = .ok (.if_icmp .eq off, 3)) (ht : (pc : Int) + off = (tgt : Int)) (kt : a = b → gW p l e R s m args below meth c D ad cA h0 Q0 M.2.2.1 gw n1 n2 tgt ls st) (kf : ¬ a = b → gW p l e R s m args below meth c D ad cA h0 Q0 M.2.2.1 gw n1 n2 (pc + 3) ls st) : gW p l e R s m args below meth c D ad cA h0 Q0 M.2.2.1 gw n1 n2 pc ls (.int b :: .int a :: st) :=
  fun H locs lsA hP hS hL => lv_icmp_eq B.1 B.2.1 hd ht (fun h => kt h H locs lsA hP hS hL) (fun h => kf h H locs lsA hP hS hL)
theorem g_ic_ne {a b : Int32} {off : Int} {tgt : Nat} (B : gB M p s m meth c D ad cA h0 k0) (hd : decode M.2.1 pc = .ok (.if_icmp .ne off, 3)) (ht : (pc : Int) + off = (tgt : Int)) (kt : ¬ a = b → gW p l e R s m args below meth c D ad cA h0 Q0 M.2.2.1 gw n1 n2 tgt ls st) (kf : a = b → gW p l e R s m args below meth c D ad cA h0 Q0 M.2.2.1 gw n1 n2 (pc + 3) ls st) : gW p l e R s m args below meth c D ad cA h0 Q0 M.2.2.1 gw n1 n2 pc ls (.int b :: .int a :: st) :=
  fun H locs lsA hP hS hL => lv_icmp_ne B.1 B.2.1 hd ht (fun h => kt h H locs lsA hP hS hL) (fun h => kf h H locs lsA hP hS hL)
theorem g_istn {j0 : Fin 4} {v : Int32} (B : gB M p s m meth c D ad cA h0 k0) (hd : decode M.2.1 pc = .ok (.istore_n j0, 1)) (hi : (j0 : Nat) < ls.length) (hno : ∀ j, j + 1 = (j0 : Nat) → mj_nl (ls.getD j none) = true) (k : gW p l e R s m args below meth c D ad cA h0 Q0 M.2.2.1 gw n1 n2 (pc + 1) (ls.set j0 (some (.int v))) st) : gW p l e R s m args below meth c D ad cA h0 Q0 M.2.2.1 gw n1 n2 pc ls (.int v :: st) :=
  fun H locs lsA hP hS hL => lv_istore_n B.1 B.2.1 hd rfl hL.has (Nat.lt_of_lt_of_le hi hL.2.2.1) rfl (fun lsB hB => k H locs lsB hP hS (hL.set1 (i := j0) (v := .int v) hno hB))
theorem g_astn {j0 : Fin 4} {v : Nat} (B : gB M p s m meth c D ad cA h0 k0) (hd : decode M.2.1 pc = .ok (.astore_n j0, 1)) (hi : (j0 : Nat) < ls.length) (hno : ∀ j, j + 1 = (j0 : Nat) → mj_nl (ls.getD j none) = true) (k : gW p l e R s m args below meth c D ad cA h0 Q0 M.2.2.1 gw n1 n2 (pc + 1) (ls.set j0 (some (.ref v))) st) : gW p l e R s m args below meth c D ad cA h0 Q0 M.2.2.1 gw n1 n2 pc ls (.ref v :: st) :=
  fun H locs lsA hP hS hL => lv_astore_n B.1 B.2.1 hd rfl hL.has (Nat.lt_of_lt_of_le hi hL.2.2.1) rfl (fun lsB hB => k H locs lsB hP hS (hL.set1 (i := j0) (v := .ref v) hno hB))
theorem g_iinc {i : Nat} {v k1 : Int32} {n : Int} (B : gB M p s m meth c D ad cA h0 k0) (hd : decode M.2.1 pc = .ok (.iinc i n, 3)) (hk : Int32.ofInt n = k1) (hl : ls[i]? = some (some (.int v))) (hno : ∀ j, j + 1 = i → mj_nl (ls.getD j none) = true) (k : gW p l e R s m args below meth c D ad cA h0 Q0 M.2.2.1 gw n1 n2 (pc + 3) (ls.set i (some (.int (v + k1)))) st) : gW p l e R s m args below meth c D ad cA h0 Q0 M.2.2.1 gw n1 n2 pc ls st := by
  intro H locs lsA hP hS hL
  obtain ⟨kk, hkk⟩ := List.getElem?_of_mem (mj_pr_in (ad := ad) hl)
  exact lv_iinc B.1 B.2.1 hd hL.has hkk (by rw [hk]) (Nat.lt_of_lt_of_le (List.getElem?_eq_some_iff.mp hl).1 hL.2.2.1) rfl (fun lsB hB => k H locs lsB hP hS (hL.set1 (i := i) (v := .int (v + k1)) hno hB))
/-- a new object -/
theorem g_new {C : String} {T : u_T} {N ci idx : Nat} {vs : List Value} (B : gB M p s m meth c D ad cA h0 k0) (hl : gw.length < 100) (hn : k0 + n1 = gw.length) (hc : mj_cl[ci]? = some (C, T, N)) (hin : ∀ w ∈ u_ws C T N, w ∈ mj_tb) (ty : Nat → FieldType) (hty : ∀ k, k < N → parseFieldDescriptor (T k).2.2.1 = some (ty k)) (hfs : ∀ j, j < N → defaultValue (ty j) = vp_V vs j) (hvs : ∀ ad, vs.map (mj_v ad) = vs)
    (w1 : mj_wd (.classLink M.1.cls idx C)) (w2 : mj_wd (.instantiable C N)) (w3 : mj_wd (.initialized C)) (hcells : n1 + 1 ≤ R.cells) (hslots : n2 + N ≤ R.slots) (hd : decode M.2.1 pc = .ok (.new idx, 3)) (k : gW p l e R s m args below meth c D ad cA h0 Q0 M.2.2.1 (gw ++ [.inl (ci, vs)]) (n1 + 1) (n2 + N) (pc + 3) ls (.ref gw.length :: st)) : gW p l e R s m args below meth c D ad cA h0 Q0 M.2.2.1 gw n1 n2 pc ls st := by
  intro H locs lsA hP hS hL T0 hT X
  have hz := g_size B hT X hP hS hn (by omega)
  obtain ⟨hx, hb, -, -, -, hown, ⟨hTb, hK, -, had⟩, -⟩ := B
  have hKn := hK.1 ci _ hc
  suffices hw : W p l e R s m args below meth c H locs n1 n2 Q0 (F0 m pc lsA (st.map (mj_v ad))) from hw T0 hT X
  refine W.newcK hx hb hown (mj_use hTb w1.1 w1.2 args) (mj_use hTb w2.1 w2.2 args) (mj_use hTb w3.1 w3.2 args) rfl hd hcells hslots hKn.2.1 hz (fun H1 kC hkC e1 z1 o1 => ?_)
  have hk : ∀ (k : Nat) (x : Nat × va_E), (g_w ad cA gw)[k]? = some x → H1[x.1]? = H[x.1]? := fun k x hx => o1 x.1 (by rw [← hz]; exact (hP k x hx).lt)
  have e2 : ad gw.length = h0 + gw.length := had _ hl
  have hk2 := k H1 locs lsA (by
    rw [g_w_app]
    refine (hP.kept hk).app (fun k x hx => ?_)
    have hz : k < 1 := (List.getElem?_eq_some_iff.mp hx).1
    rw [show k = 0 by omega] at hx
    cases hx
    refine ⟨_, hc, ?_⟩
    show t_OB (ad gw.length) (D.1 ci) N (D.2 ci) H1 (vp_V (vs.map (mj_v ad)))
    rw [hvs ad, e2]
    exact (u_born ty (hTb.all args) hin hKn hkC e1 hty).to hfs) ⟨Nat.le_trans hS.1 (by omega), fun x h1 h2 => (o1 x (by rw [← hz]; exact Nat.lt_of_lt_of_le h1 hS.1)).trans (hS.2.1 x h1 h2), hS.2.2⟩ hL
  rw [List.map_cons, show mj_v ad (.ref gw.length) = .ref (h0 + gw.length) by show Value.ref (ad gw.length) = _; rw [e2]] at hk2
  exact hk2
/-- a new array of ints -/
theorem g_newa {n : Nat} {i : Int32} (B : gB M p s m meth c D ad cA h0 k0) (hl : gw.length < 100) (hn : k0 + n1 = gw.length) (hi : i = nI n) (hn2 : n ≤ 100000) (w1 : mj_wd (.arrayClass .int)) (hcells : n1 + 1 ≤ R.cells) (hslots : n2 + n ≤ R.slots) (hd : decode M.2.1 pc = .ok (.newarray .int, 2)) (k : gW p l e R s m args below meth c D ad cA h0 Q0 M.2.2.1 (gw ++ [.inr (n, fun _ => 0)]) (n1 + 1) (n2 + n) (pc + 2) ls (.ref gw.length :: st)) : gW p l e R s m args below meth c D ad cA h0 Q0 M.2.2.1 gw n1 n2 pc ls (.int i :: st) := by
  subst hi
  intro H locs lsA hP hS hL T0 hT X
  have hz := g_size B hT X hP hS hn (by omega)
  obtain ⟨hx, hb, -, -, -, hown, ⟨hTb, hK, -, had⟩, -⟩ := B
  suffices hw : W p l e R s m args below meth c H locs n1 n2 Q0 (F0 m pc lsA ((Value.int (nI n) :: st).map (mj_v ad))) from hw T0 hT X
  refine va_newaK (atype := .int) hx hb (mj_use hTb w1.1 w1.2 args) rfl hd rfl (nI_pos (by omega)) (nI_clamp (by omega)) (by show n * 4 ≤ _; omega) hcells hslots hz (fun H1 cA' e1 z1 o1 hAr hNm => ?_)
  have hk : ∀ (k : Nat) (x : Nat × va_E), (g_w ad cA gw)[k]? = some x → H1[x.1]? = H[x.1]? := fun k x hx => o1 x.1 (by rw [← hz]; exact (hP k x hx).lt)
  have e2 : ad gw.length = h0 + gw.length := had _ hl
  have hcA : cA' = cA := Option.some.inj (hNm.symm.trans (hK.2 0 _ rfl).2)
  subst hcA
  have hk2 := k H1 locs lsA (by
    rw [g_w_app]
    refine (hP.kept hk).app (fun k x hx => ?_)
    have hz : k < 1 := (List.getElem?_eq_some_iff.mp hx).1
    rw [show k = 0 by omega] at hx
    cases hx
    show H1[ad gw.length]? = some (vp_cell _ _)
    rw [e2]
    exact e1) ⟨Nat.le_trans hS.1 (by omega), fun x h1 h2 => (o1 x (by rw [← hz]; exact Nat.lt_of_lt_of_le h1 hS.1)).trans (hS.2.1 x h1 h2), hS.2.2⟩ hL
  rw [List.map_cons, show mj_v ad (.ref gw.length) = .ref (h0 + gw.length) by show Value.ref (ad gw.length) = _; rw [e2]] at hk2
  exact hk2
/-- a final field of the class's own is set, in its constructor -/
theorem g_putF {C : String} {T : u_T} {N ci idx kf c0 c1 : Nat} {vs : List Value} {ty : FieldType} {ty0 : Nat → FieldType} (B : gB M p s m meth c D ad cA h0 k0) (hl : gw.length ≤ 100) (hk : mj_fk M.1.cls idx ci kf C T N) (h5' : mj_wd (.fieldLink M.1.cls idx C (T kf).2.1 (T kf).2.2.1)) (hC : M.1.cls = C) (hin2 : meth.name = "<init>") (hty : ∀ k, k < N → parseFieldDescriptor (T k).2.2.1 = some (ty0 k)) (hnm : ∀ a, a < N → ∀ b, b < N → a ≠ b → (T a).2.1 ≠ (T b).2.1) (hfin : (T kf).2.2.2 = true) (hdty : parseFieldDescriptor (T kf).2.2.1 = some ty) (hn : ∀ a : Nat, narrow ty (.ref a) = .ref a) (hfit : ∀ a : Nat, fits ty (.ref a) = true)
    (he : gw[c0]? = some (.inl (ci, vs))) (hkl : kf < vs.length) (hd : decode M.2.1 pc = .ok (.putfield idx, 3)) (k : gW p l e R s m args below meth c D ad cA h0 Q0 M.2.2.1 (gw.set c0 (.inl (ci, vs.set kf (.ref c1)))) n1 n2 (pc + 3) ls st) : gW p l e R s m args below meth c D ad cA h0 Q0 M.2.2.1 gw n1 n2 pc ls (.ref c1 :: .ref c0 :: st) := by
  intro H locs lsA hP hS hL
  obtain ⟨hx, hb, -, -, -, hown, ⟨hTb, hK, -, had⟩, -⟩ := B
  obtain ⟨h1, h2, h3, h4, h5⟩ := hk
  refine va_putF (v := .ref (ad c1)) hx hb (hTb.all args) h3 ty0 hty hnm hown hK hP (g_D had hl) hS c0 (g_w_at he) h1 kf h2 (mj_use hTb h5'.1 h5'.2 args) (fun z hz => by rw [h4] at hz; exact hz) hfin hin2 (by rw [h4, hC]) hdty (hn _) (hfit _) (by rw [List.length_map]; exact hkl) hd (fun H1 locs1 hP1 _ hS1 => ?_)
  refine k H1 locs1 lsA ?_ hS1 hL
  rw [← g_w_set]
  have e : g_e ad cA (.inl (ci, vs.set kf (.ref c1))) = .inr (ci, (vs.map (mj_v ad)).set kf (.ref (ad c1))) := by
    unfold g_e; simp only [List.map_set]; rfl
  rw [e]
  exact hP1
end GROW
