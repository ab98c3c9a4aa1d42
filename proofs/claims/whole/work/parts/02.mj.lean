/-! THE SMALL MACHINE (mj_): a heap of numbered cells 'Nat → Nat → Int32' (cell, slot), values whose references are cell numbers, one judgement mj_V a program point; each row of the kit is used once, here. -/
abbrev mj_X : Type := Nat → Nat → Int32
abbrev mj_S : Type := (Nat × List (Option Nat)) ⊕ Nat
abbrev mj_M : Type := MethodName × ByteArray × Nat × Option FieldType × Nat × Nat
def mj_up (x : mj_X) (k i : Nat) (v : Int32) : mj_X := fun k' => if k' = k then upd (x k) i v else x k'
def mj_v (ad : Nat → Nat) (v : Value) : Value := match v with
  | .ref a => .ref (ad a)
  | w => w
theorem mj_v_cat (ad : Nat → Nat) (v : Value) : (mj_v ad v).category = v.category := by cases v <;> rfl
def mj_fv (ad : Nat → Nat) (xk : Nat → Int32) (i : Nat) (f : Option Nat) : Value := match f with
  | some c => .ref (ad c)
  | none => .int (xk i)
def mj_e (ad : Nat → Nat) (cA : ClassId) (xk : Nat → Int32) (sh : mj_S) : va_E := match sh with
  | .inl o => .inr (o.1, o.2.mapIdx (mj_fv ad xk))
  | .inr n => .inl (cA, (n, .inl xk))
def mj_w (ad : Nat → Nat) (cA : ClassId) (x : mj_X) (sh : List mj_S) : va_W := sh.mapIdx (fun k s => (ad k, mj_e ad cA (x k) s))
abbrev mj_cl : List vw_C := [(RX0, TX0, 8), (RX1, TX1, 7), (RX2, TX2, 13), (RX3, TX3, 4), (RX4, TX4, 5), (RX5, TX5, 4), (RX6, TX6, 8), (RX7, TX7, 26)]
def mj_nest (w : Cond) : Bool := match w with
  | .fieldLinkNest _ _ _ _ _ _ => true
  | .methodLinkNest _ _ _ _ => true
  | _ => false
def mj_tb : List Cond := lw_tbl.filter goodWord
def mj_T (U : State) : Prop := (∀ w ∈ mj_tb, w.before #[] U = true) ∧ ∀ w ∈ lw_tbl, mj_nest w = true → va_Nw w U
def mj_st0 (j : Nat) : Int32 := [1, 1, 1, 0, 0, 0].getD j 0
def mj_st1 (j : Nat) : Int32 := [999, 99, 99, 999, 999, 999].getD j 0
def mj_st2 (j : Nat) : Int32 := [100, 12, 10, 200, 300, 150].getD j 0
def mj_Z (A : Nat → Prop) (ad : Nat → Nat) (U : State) (H : Heap) : Prop :=
  (va_Z RX5 "LEAST" "[I" (.ref (ad 100)) A U H ∧ va_T .int (ad 100) 6 (fun j => .int (mj_st0 j)) A U H) ∧
  (va_Z RX5 "MOST" "[I" (.ref (ad 101)) A U H ∧ va_T .int (ad 101) 6 (fun j => .int (mj_st1 j)) A U H) ∧
  (va_Z RX5 "UNTOLD" "[I" (.ref (ad 102)) A U H ∧ va_T .int (ad 102) 6 (fun j => .int (mj_st2 j)) A U H)
def mj_G (D : va_G) (A : Nat → Prop) (ad : Nat → Nat) (cA : ClassId) (sh : List mj_S) (U : State) : Prop :=
  mj_T U ∧ va_K D mj_cl [(cA, .int)] U ∧ mj_Z A ad U U.heap ∧ (∀ i j, i < sh.length → j < sh.length → ad i = ad j → i = j) ∧ ∀ i, i < sh.length → A (ad i)
def mj_Pc (D : va_G) (A : Nat → Prop) (ad : Nat → Nat) (cA : ClassId) (sh : List mj_S) (x : mj_X) (args : List Value) : Array Value → State → Prop :=
  va_Pc (args.map (mj_v ad)) (fun U => va_P D mj_cl (mj_w ad cA x sh) U.heap ∧ mj_G D A ad cA sh U)
def mj_Qc (D : va_G) (A : Nat → Prop) (ad : Nat → Nat) (cA : ClassId) (sh : List mj_S) (Q : Option Value → mj_X → Prop) : Array Value → State → Outcome → State → Prop := fun _ st oc t =>
  (∃ (r : Option Value) (x' : mj_X), oc = .returned (r.map (mj_v ad)) ∧ Q r x' ∧ va_P D mj_cl (mj_w ad cA x' sh) t.heap) ∧ va_F A st t
def mj_rm (M : mj_M) : Room := { frames := M.2.2.2.2.1, cells := 0, slots := 0, locals := M.2.2.2.2.2 }
/-- the contract: from the heap x with these arguments the method returns, with Q of its answer and the new heap -/
def mj_C (M : mj_M) (sh : List mj_S) (args : List Value) (x : mj_X) (Q : Option Value → mj_X → Prop) : Prop :=
  ∀ (l : Launch) (D : va_G) (A : Nat → Prop) (ad : Nat → Nat) (cA : ClassId),
    Met l M.1 [.code M.1 M.2.1 M.2.2.1 M.2.2.2.1] (mj_rm M) (mj_Pc D A ad cA sh x args) (mj_Qc D A ad cA sh Q) 0 0 A
def mj_CI (M : mj_M) (sh : List mj_S) (args : List Value) (x : mj_X) (Q : Int32 → mj_X → Prop) : Prop :=
  mj_C M sh args x (fun r x' => ∃ z, r = some (.int z) ∧ Q z x')
def mj_CV (M : mj_M) (sh : List mj_S) (args : List Value) (x : mj_X) (Q : mj_X → Prop) : Prop :=
  mj_C M sh args x (fun r x' => r = none ∧ Q x')
def mj_B (M : mj_M) (p : Program) (s : State) (m : MethodId) (meth : Method) (c : Code) (D : va_G) (A : Nat → Prop) (ad : Nat → Nat) (cA : ClassId) (sh : List mj_S) : Prop :=
  p.tables.exec = Jvm.exec ∧ c.code = M.2.1 ∧ c.maxLocals = M.2.2.1 ∧ meth.sig.returnType = M.2.2.2.1 ∧ meth.locks = false ∧ s.vm.findClass M.1.cls = some m.cls ∧ mj_G D A ad cA sh s
def mj_L (ad : Nat → Nat) (lsA : Array Slot) (nL : Nat) (ls : List (Option Value)) : Prop :=
  lsA.size = nL ∧ lv_wf lsA ∧ ls.length ≤ nL ∧ ∀ (i : Nat) (v : Value), ls[i]? = some (some v) → lsA[i]? = some (.val (mj_v ad v))
/-- the judgement: from this point of the method, with this heap, these locals, this stack, it comes to its end with Q -/
def mj_V (M : mj_M) (sh : List mj_S) (Q : Option Value → mj_X → Prop) (x : mj_X) (pc : Nat) (ls : List (Option Value)) (st : List Value) : Prop :=
  ∀ (p : Program) (l : Launch) (e : Env) (s : State) (m : MethodId) (args : Array Value) (below : List Frame) (meth : Method) (c : Code) (D : va_G) (A : Nat → Prop) (ad : Nat → Nat) (cA : ClassId),
    mj_B M p s m meth c D A ad cA sh → ∀ (H : Heap) (locs : List Loc) (lsA : Array Slot), va_P D mj_cl (mj_w ad cA x sh) H → va_S A s.heap H locs → mj_L ad lsA M.2.2.1 ls →
      W p l e (mj_rm M) s m args below meth c H locs 0 0 (MQ below (mj_Qc D A ad cA sh Q) args s 0 0 A) (F0 m pc lsA (st.map (mj_v ad)))
theorem mj_use {s : State} (h : mj_T s) {w : Cond} (hw : w ∈ lw_tbl) (hg : goodWord w = true) (args : Array Value) : w.before args s = true :=
  word_at (State.WarmedH.refl s) (good_of_word hg) (h.1 w (List.mem_filter.mpr ⟨hw, hg⟩))
theorem mj_T.all {s : State} (h : mj_T s) (args : Array Value) : ∀ w ∈ mj_tb, w.before args s = true := fun w hw => mj_use h (List.mem_filter.mp hw).1 (List.mem_filter.mp hw).2 args
theorem mj_T.warm {s U : State} (hW : s.WarmedH U.vm) (h : mj_T s) : mj_T U := by
  refine ⟨fun w hw => word_at hW (good_of_word (List.mem_filter.mp hw).2) (h.1 w hw), fun w hw hn => ?_⟩
  have hz := h.2 w hw hn
  cases w <;> first | exact va_Nw.warmF hW hz | exact va_Nw.warmM hW hz | cases hn
theorem mj_Z.kept {A : Nat → Prop} {ad : Nat → Nat} {U : State} {H H1 : Heap} (h : mj_Z A ad U H) (hq : ∀ a : Nat, a < H.size → ¬ A a → H1[a]? = H[a]?) : mj_Z A ad U H1 := by
  obtain ⟨⟨a1, a2⟩, ⟨b1, b2⟩, ⟨c1, c2⟩⟩ := h
  exact ⟨⟨a1.kept hq, a2.kept hq⟩, ⟨b1.kept hq, b2.kept hq⟩, ⟨c1.kept hq, c2.kept hq⟩⟩
theorem mj_Z.moved {A : Nat → Prop} {ad : Nat → Nat} {u U : State} {H : Heap} (hvm : u.vm.Alike U.vm) (h : mj_Z A ad u H) : mj_Z A ad U H := by
  obtain ⟨⟨a1, a2⟩, ⟨b1, b2⟩, ⟨c1, c2⟩⟩ := h
  exact ⟨⟨a1.moved hvm, a2.moved hvm⟩, ⟨b1.moved hvm, b2.moved hvm⟩, ⟨c1.moved hvm, c2.moved hvm⟩⟩
theorem mj_G.go {D : va_G} {A : Nat → Prop} {ad : Nat → Nat} {cA : ClassId} {sh : List mj_S} {s U : State} {H : Heap} {locs : List Loc} (h : mj_G D A ad cA sh s) (hS : va_S A s.heap H locs) (hU : U.heap = H) (hW : s.WarmedH U.vm) : mj_G D A ad cA sh U := by
  obtain ⟨h1, h2, h3, h4⟩ := h
  refine ⟨h1.warm hW, va_K.moved hW.alike h2, ?_, h4⟩
  rw [hU]
  exact (h3.moved hW.alike).kept hS.2.1
theorem mj_w_at {ad : Nat → Nat} {cA : ClassId} {x : mj_X} {sh : List mj_S} {k : Nat} {s : mj_S} (h : sh[k]? = some s) : (mj_w ad cA x sh)[k]? = some (ad k, mj_e ad cA (x k) s) := by
  unfold mj_w
  rw [List.getElem?_mapIdx, h]
  rfl
theorem mj_D {D : va_G} {A : Nat → Prop} {ad : Nat → Nat} {cA : ClassId} {sh : List mj_S} {s : State} (h : mj_G D A ad cA sh s) (x : mj_X) : va_D A (mj_w ad cA x sh) := by
  obtain ⟨-, -, -, h1, h2⟩ := h
  have key : ∀ (k : Nat) (q : Nat × va_E), (mj_w ad cA x sh)[k]? = some q → k < sh.length ∧ q.1 = ad k := by
    intro k q hk
    unfold mj_w at hk
    rw [List.getElem?_mapIdx] at hk
    cases hs : sh[k]? with
    | none => rw [hs] at hk; cases hk
    | some s0 =>
      rw [hs] at hk
      cases hk
      exact ⟨(List.getElem?_eq_some_iff.mp hs).1, rfl⟩
  refine ⟨fun i j p q hi hj hpq => ?_, fun k q hk => ?_⟩
  · obtain ⟨a1, a2⟩ := key i p hi
    obtain ⟨b1, b2⟩ := key j q hj
    exact h1 i j a1 b1 (by rw [← a2, ← b2]; exact hpq)
  · obtain ⟨a1, a2⟩ := key k q hk
    rw [a2]
    exact h2 k a1
theorem mj_w_set {ad : Nat → Nat} {cA : ClassId} {x : mj_X} {sh : List mj_S} {k i : Nat} {v : Int32} {e : va_E} {s : mj_S} (hs : sh[k]? = some s) (he : e = mj_e ad cA (upd (x k) i v) s) : (mj_w ad cA x sh).set k (ad k, e) = mj_w ad cA (mj_up x k i v) sh := by
  subst he
  apply List.ext_getElem?
  intro j
  by_cases hj : j = k
  · subst hj
    rw [mj_w_at (x := mj_up x j i v) hs, List.getElem?_set_self (by unfold mj_w; rw [List.length_mapIdx]; exact (List.getElem?_eq_some_iff.mp hs).1)]
    simp [mj_up]
  · rw [List.getElem?_set_ne (Ne.symm hj)]
    unfold mj_w
    rw [List.getElem?_mapIdx, List.getElem?_mapIdx]
    simp [mj_up, hj]
theorem mj_fs_at {ad : Nat → Nat} {xk : Nat → Int32} {fs : List (Option Nat)} {k : Nat} {f : Option Nat} (h : fs[k]? = some f) : (fs.mapIdx (mj_fv ad xk))[k]? = some (mj_fv ad xk k f) := by
  rw [List.getElem?_mapIdx, h]
  rfl
theorem mj_fs_set {ad : Nat → Nat} {xk : Nat → Int32} {fs : List (Option Nat)} {k : Nat} {v : Int32} (h : fs[k]? = some none) : (fs.mapIdx (mj_fv ad xk)).set k (.int v) = fs.mapIdx (mj_fv ad (upd xk k v)) := by
  apply List.ext_getElem?
  intro j
  by_cases hj : j = k
  · subst hj
    rw [mj_fs_at h, List.getElem?_set_self (by rw [List.length_mapIdx]; exact (List.getElem?_eq_some_iff.mp h).1)]
    simp [mj_fv, upd]
  · rw [List.getElem?_set_ne (Ne.symm hj), List.getElem?_mapIdx, List.getElem?_mapIdx]
    cases fs[j]? with
    | none => rfl
    | some o => cases o <;> simp [mj_fv, upd, hj]
/-! locals -/
def mj_pr (ad : Nat → Nat) (ls : List (Option Value)) : List (Nat × Value) := (List.range ls.length).filterMap (fun i => match ls[i]? with
  | some (some v) => some (i, mj_v ad v)
  | _ => none)
theorem mj_pr_in {ad : Nat → Nat} {ls : List (Option Value)} {i : Nat} {v : Value} (h : ls[i]? = some (some v)) : (i, mj_v ad v) ∈ mj_pr ad ls := by
  refine List.mem_filterMap.mpr ⟨i, List.mem_range.mpr (List.getElem?_eq_some_iff.mp h).1, ?_⟩
  rw [h]
theorem mj_L.has {ad : Nat → Nat} {lsA : Array Slot} {nL : Nat} {ls : List (Option Value)} (h : mj_L ad lsA nL ls) : lv_has lsA nL (mj_pr ad ls) := by
  refine ⟨h.1, h.2.1, fun q hq => ?_⟩
  obtain ⟨i, -, hi⟩ := List.mem_filterMap.mp hq
  cases hl : ls[i]? with
  | none => rw [hl] at hi; cases hi
  | some o =>
    cases o with
    | none => rw [hl] at hi; cases hi
    | some v =>
      rw [hl] at hi
      cases hi
      exact h.2.2.2 i v hl
def mj_nl (o : Option Value) : Bool := match o with
  | some v => v.category == 1
  | none => true
theorem mj_L.set1 {ad : Nat → Nat} {lsA lsB : Array Slot} {nL : Nat} {ls : List (Option Value)} {i : Nat} {v : Value} (h : mj_L ad lsA nL ls) (hno : ∀ j, j + 1 = i → mj_nl (ls.getD j none) = true)
    (hB : lv_has lsB nL ((i, mj_v ad v) :: (mj_pr ad ls).filter (fun q => !(q.1 == i) && !(q.1 + 1 == i && q.2.category == 2)))) : mj_L ad lsB nL (ls.set i (some v)) := by
  refine ⟨hB.1, hB.2.1, by rw [List.length_set]; exact h.2.2.1, fun j w hj => ?_⟩
  by_cases hji : j = i
  · subst hji
    have hlt : j < ls.length := by
      have := (List.getElem?_eq_some_iff.mp hj).1
      rwa [List.length_set] at this
    rw [List.getElem?_set_self hlt] at hj
    cases hj
    exact hB.2.2 (j, mj_v ad v) List.mem_cons_self
  · rw [List.getElem?_set_ne (Ne.symm hji)] at hj
    refine hB.2.2 (j, mj_v ad w) (List.mem_cons_of_mem _ (List.mem_filter.mpr ⟨mj_pr_in hj, ?_⟩))
    have h1 : ¬ (j + 1 = i ∧ w.category = 2) := by
      rintro ⟨a, b⟩
      have := hno j a
      rw [List.getD_eq_getElem?_getD, hj] at this
      simp [mj_nl, b] at this
    simp only [mj_v_cat, Bool.and_eq_true, Bool.not_eq_true', beq_eq_false_iff_ne, ne_eq, hji, not_false_eq_true, true_and, Bool.and_eq_false_iff]
    by_cases a : j + 1 = i
    · right
      exact fun b => h1 ⟨a, b⟩
    · left
      exact a
