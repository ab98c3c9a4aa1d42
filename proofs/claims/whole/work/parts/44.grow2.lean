/-! the growing machine: fields, calls, contracts -/
def g_f (xk : Nat → Int32) (i : Nat) (f : Option Nat) : Value := match f with
  | some c => .ref c
  | none => .int (xk i)
def g_c (xk : Nat → Int32) (q : mj_S) : gS := match q with
  | .inl o => .inl (o.1, o.2.mapIdx (g_f xk))
  | .inr n => .inr (n, xk)
def g_of (x : mj_X) (sh : List mj_S) : List gS := sh.mapIdx (fun k q => g_c (x k) q)
theorem g_of_len {x : mj_X} {sh : List mj_S} : (g_of x sh).length = sh.length := by unfold g_of; rw [List.length_mapIdx]
theorem g_of_w {ad : Nat → Nat} {cA : ClassId} {x : mj_X} {sh : List mj_S} : g_w ad cA (g_of x sh) = mj_w ad cA x sh := by
  unfold g_w g_of mj_w
  apply List.ext_getElem?
  intro k
  rw [List.getElem?_mapIdx, List.getElem?_mapIdx, List.getElem?_mapIdx]
  cases sh[k]? with
  | none => rfl
  | some q =>
    cases q with
    | inr n => rfl
    | inl o =>
      show some (ad k, g_e ad cA (.inl (o.1, o.2.mapIdx (g_f (x k))))) = some (ad k, .inr (o.1, o.2.mapIdx (mj_fv ad (x k))))
      congr 2
      show Sum.inr (o.1, (o.2.mapIdx (g_f (x k))).map (mj_v ad)) = _
      congr 2
      apply List.ext_getElem?
      intro i
      rw [List.getElem?_map, List.getElem?_mapIdx, List.getElem?_mapIdx]
      cases o.2[i]? with
      | none => rfl
      | some f => cases f <;> rfl
def gPc (D : va_G) (ad : Nat → Nat) (cA : ClassId) (h0 : Nat) (gw : List gS) (av : List Value) : Array Value → State → Prop := va_Pc (av.map (mj_v ad)) (fun U => va_P D mj_cl (g_w ad cA gw) U.heap ∧ gG D ad cA h0 U ∧ U.heap.size = h0 + gw.length)
def gQc (D : va_G) (ad : Nat → Nat) (cA : ClassId) (h0 : Nat) (Qg : List gS → Prop) : Array Value → State → Outcome → State → Prop := fun _ st oc t => (∃ gw' : List gS, oc = .returned none ∧ Qg gw' ∧ va_P D mj_cl (g_w ad cA gw') t.heap) ∧ va_F (gA h0) st t
def g_rm (K : mj_M) (c1 c2 : Nat) : Room := { frames := K.2.2.2.2.1, cells := c1, slots := c2, locals := K.2.2.2.2.2 }
/-- a constructor's contract: from the world gw it comes to a world of Qg, with c1 cells of c2 slots more -/
def gC (K : mj_M) (c1 c2 : Nat) (gw : List gS) (av : List Value) (Qg : List gS → Prop) : Prop :=
  ∀ (l : Launch) (D : va_G) (ad : Nat → Nat) (cA : ClassId) (h0 : Nat), Met l K.1 [.code K.1 K.2.1 K.2.2.1 K.2.2.2.1] (g_rm K c1 c2) (gPc D ad cA h0 gw av) (gQc D ad cA h0 Qg) c1 c2 (gA h0)
theorem gG.go {D : va_G} {ad : Nat → Nat} {cA : ClassId} {h0 : Nat} {s U : State} {H : Heap} {locs : List Loc} (h : gG D ad cA h0 s) (hS : va_S (gA h0) s.heap H locs) (hU : U.heap = H) (hW : s.WarmedH U.vm) : gG D ad cA h0 U := by
  obtain ⟨h1, h2, h3, h4⟩ := h
  refine ⟨h1.warm hW, va_K.moved hW.alike h2, ?_, h4⟩
  rw [hU]
  exact h3.go hS hW
theorem gPc_blind {D : va_G} {ad : Nat → Nat} {cA : ClassId} {h0 : Nat} {gw : List gS} {av : List Value} : FrameBlind (gPc D ad cA h0 gw av) := by
  intro a U g mk h
  obtain ⟨h1, h2, h3, h4⟩ := h
  exact ⟨h1, h2, h3.go (U := U.calling g mk a) (va_S.rf (H0 := U.heap)) rfl (State.WarmedH.refl U), h4⟩
theorem g_start {K : mj_M} {c1 c2 : Nat} {gw : List gS} {av : List Value} {Qg : List gS → Prop} {ls : List (Option Value)} (hy : plainName K.1.cls = true) (hen : mj_en av K.2.2.1 = ls) (hlen : ls.length = K.2.2.1)
    (k : ∀ (p : Program) (l : Launch) (e : Env) (s : State) (m : MethodId) (args : Array Value) (below : List Frame) (meth : Method) (c : Code) (D : va_G) (ad : Nat → Nat) (cA : ClassId) (h0 : Nat), gB K p s m meth c D ad cA h0 gw.length → meth.name = K.1.name →
      gW p l e (g_rm K c1 c2) s m args below meth c D ad cA h0 (MQ below (gQc D ad cA h0 Qg) args s c1 c2 (gA h0)) K.2.2.1 gw 0 0 0 ls []) : gC K c1 c2 gw av Qg := by
  intro l D ad cA h0
  refine Met.ofW (cc := K.2.1) (maxL := K.2.2.1) (ret := K.2.2.2.1) hy rfl ?_
  intro p e s m args below meth c s₁ B hml hv
  obtain ⟨rfl, hP, hG, hz⟩ := hv
  have hlA : (lg_sl (av.map (mj_v ad))).length ≤ K.2.2.1 := by
    rw [mj_sl_len, ← hlen, ← hen]
    unfold mj_en
    simp only [List.length_append]
    omega
  have hl := lv_entry (av.map (mj_v ad)) (n := K.2.2.1) hlA
  rw [lg_entry_eq]
  generalize (lg_sl (av.map (mj_v ad)) ++ List.replicate (K.2.2.1 - (lg_sl (av.map (mj_v ad))).length) Slot.unset).toArray = lsA at hl ⊢
  refine k p l e s m _ below meth c D ad cA h0 ⟨B.exec, B.bytes, hml, B.returns, B.notSynchronized, findClass_of_methodNamed B.named, hG, hz⟩ (name_of_methodNamed B.named B.method).1 s.heap [] lsA hP va_S.rf ⟨hl.1, hl.2.1, Nat.le_of_eq hlen, fun i v hi => ?_⟩
  rw [← hen] at hi
  unfold mj_en at hi
  dsimp only at hi
  by_cases hb : i < (av.flatMap fun v => if v.category = 2 then [some v, none] else [some v]).length
  · rw [List.getElem?_append_left hb] at hi
    have h2 := mj_en_args av ad 0 i v hi
    rw [Nat.zero_add] at h2
    exact hl.2.2 (i, mj_v ad v) h2
  · rw [List.getElem?_append_right (by omega), List.getElem?_replicate] at hi
    split at hi <;> cases hi
section GROW2
variable {p : Program} {l : Launch} {e : Env} {R : Room} {s : State} {m : MethodId} {args : Array Value} {below : List Frame} {meth : Method} {c : Code} {D : va_G} {ad : Nat → Nat} {cA : ClassId} {h0 k0 : Nat} {Q0 : State → Prop} {M : mj_M} {gw : List gS} {n1 n2 pc : Nat} {ls : List (Option Value)} {st : List Value}
theorem g_retv {Qg : List gS → Prop} (B : gB M p s m meth c D ad cA h0 k0) (hr : M.2.2.2.1 = none) (hd : decode M.2.1 pc = .ok (.return_, 1)) (hq : Qg gw) : gW p l e R s m args below meth c D ad cA h0 (MQ below (gQc D ad cA h0 Qg) args s n1 n2 (gA h0)) M.2.2.1 gw n1 n2 pc ls [] :=
  fun H locs lsA hP hS hL => W.vret B.1 B.2.1 (B.2.2.2.1.trans hr) (fun t ht hW => ⟨⟨gw, rfl, hq, by rw [ht]; exact hP⟩, hS.F ht⟩) hS.2.2 hd B.2.2.2.2.1
theorem g_obj {a idx : Nat} (B : gB M p s m meth c D ad cA h0 k0) (w1 : mj_wd (.methodLink M.1.cls idx Lib.objectInit)) (w2 : mj_wd (.instanceMethod Lib.objectInit)) (w3 : mj_wd (.code Lib.objectInit ⟨#[0xb1]⟩ 1 none)) (hd : decode M.2.1 pc = .ok (.invokespecial idx, 3)) (hf : 1 ≤ R.frames) (hlo : 12 ≤ R.locals) (k : gW p l e R s m args below meth c D ad cA h0 Q0 M.2.2.1 gw n1 n2 (pc + 3) ls []) : gW p l e R s m args below meth c D ad cA h0 Q0 M.2.2.1 gw n1 n2 pc ls [.ref a] := by
  intro H locs lsA hP hS hL
  have hT := B.2.2.2.2.2.2.1.1
  exact W.objInit B.1 B.2.1 B.2.2.2.2.2.1 (mj_use hT w1.1 w1.2 args) (mj_use hT w2.1 w2.2 args) (mj_use hT w3.1 w3.2 args) rfl (hL.1.trans B.2.2.1.symm) rfl hd hf hlo (k H locs lsA hP hS hL)
theorem g_get {ci kf idx c0 : Nat} {C : String} {T : u_T} {N : Nat} {vs : List Value} {v : Value} (B : gB M p s m meth c D ad cA h0 k0) (hk : mj_fk M.1.cls idx ci kf C T N) (hd : decode M.2.1 pc = .ok (.getfield idx, 3)) (he : gw[c0]? = some (.inl (ci, vs))) (hf : vs[kf]? = some v) (k : gW p l e R s m args below meth c D ad cA h0 Q0 M.2.2.1 gw n1 n2 (pc + 3) ls (v :: st)) : gW p l e R s m args below meth c D ad cA h0 Q0 M.2.2.1 gw n1 n2 pc ls (.ref c0 :: st) := by
  intro H locs lsA hP hS hL
  obtain ⟨h1, h2, h3, h4, h5⟩ := hk
  have hk2 := k H locs lsA hP hS hL
  have hT := B.2.2.2.2.2.2.1.1
  have hK := B.2.2.2.2.2.2.1.2.1
  have hf2 : (vs.map (mj_v ad))[kf]? = some (mj_v ad v) := by rw [List.getElem?_map, hf]; rfl
  rcases h5 with h5 | ⟨h, h5⟩
  · exact va_get B.1 B.2.1 (hT.all args) h3 B.2.2.2.2.2.1 hK hP c0 (g_w_at he) h1 kf h2 (mj_use hT h5.1 h5.2 args) (fun z hz => by rw [h4] at hz; exact hz) hf2 hd hk2
  · exact va_getN B.1 B.2.1 (hT.all args) h3 B.2.2.2.2.2.1 hK hP c0 (g_w_at he) h1 kf h2 (va_Nw.use rfl (hT.2 _ h5.1 h5.2)) (fun z hz => by rw [h4] at hz; exact hz) hf2 hd hk2
theorem g_iast {sh : List mj_S} {x : mj_X} {c0 n : Nat} {i v : Int32} (B : gB M p s m meth c D ad cA h0 k0) (hl : sh.length ≤ 100) (hd : decode M.2.1 pc = .ok (.iastore, 1)) (hsh : sh[c0]? = some (.inr n)) (j : Nat) (hj : j < n) (hi : i = nI j) (hn : n < 2 ^ 31) (k : gW p l e R s m args below meth c D ad cA h0 Q0 M.2.2.1 (g_of (mj_up x c0 j v) sh) n1 n2 (pc + 1) ls st) : gW p l e R s m args below meth c D ad cA h0 Q0 M.2.2.1 (g_of x sh) n1 n2 pc ls (.int v :: .int i :: .ref c0 :: st) := by
  intro H locs lsA hP hS hL
  subst hi
  rw [g_of_w] at hP
  have hD : va_D (gA h0) (mj_w ad cA x sh) := by rw [← g_of_w]; exact g_D B.2.2.2.2.2.2.1.2.2.2 (by rw [g_of_len]; exact hl)
  refine va_iast (i := nI j) (x := v) B.1 B.2.1 B.2.2.2.2.2.2.1.2.1 hP hD hS c0 0 (mj_w_at hsh) rfl (vp_in_nI hj hn) hd (fun H1 locs1 hP1 _ hS1 => ?_)
  rw [nI_clamp (by omega), mj_w_set (ad := ad) (cA := cA) (x := x) (k := c0) (i := j) (v := v) (e := .inl (cA, n, .inl (upd (x c0) j v))) hsh rfl] at hP1
  exact k H1 locs1 lsA (by rw [g_of_w]; exact hP1) hS1 hL
theorem g_after {H : Heap} {locs : List Loc} {cells slots mc ms : Nat} {A : Nat → Prop} {sh : List mj_S} {QK : Option Value → mj_X → Prop} {a : Array Value} {lsA : Array Slot} {st0 rest : List Value}
    (hr : va_Run p l e R s m args below meth c H locs cells slots mc ms (F0 m pc lsA st0) rest (mj_Qc D A ad cA sh QK a) A) (hS : va_S A s.heap H locs)
    (kk : ∀ (r : Option Value) (x' : mj_X) (H1 : Heap) (locs1 : List Loc), QK r x' → va_P D mj_cl (mj_w ad cA x' sh) H1 → va_S A s.heap H1 locs1 → W p l e R s m args below meth c H1 locs1 (cells + mc) (slots + ms) Q0 (F0 m (pc + 3) lsA ((r.map (mj_v ad)).toList ++ rest))) : W p l e R s m args below meth c H locs cells slots Q0 (F0 m pc lsA st0) := by
  intro T hT X
  obtain ⟨v, st₀, t, T', L, h0, X', hL, e1, e2, ⟨⟨r, x', hv, hq, hP⟩, hz, hk⟩, st⟩ := hr T hT X
  cases hv
  rw [h0] at hz hk
  obtain ⟨t2, a1, b1⟩ := kk r x' T'.heap (locs ++ L) hq (by rw [e1]; exact hP)
    ⟨Nat.le_trans hS.1 (by rw [e1]; exact hz), fun q h1 h2 => by rw [e1, hk q (Nat.lt_of_lt_of_le h1 hS.1) h2]; exact hS.2.1 q h1 h2, fun q hq => by
      rcases List.mem_append.mp hq with h | h
      · exact hS.2.2 q h
      · exact hL q h⟩ T' rfl X'
  exact ⟨t2, st t2 a1, b1⟩
theorem g_mjG {sh : List mj_S} (h : gG D ad cA h0 s) (hl : sh.length ≤ 100) : mj_G D (gA h0) ad cA sh s := by
  obtain ⟨h1, h2, h3, h4⟩ := h
  refine ⟨h1, h2, h3.1, fun i j hi hj e => ?_, fun i hi => ?_⟩
  · rw [h4 i (by omega), h4 j (by omega)] at e; omega
  · rw [h4 i (by omega)]; unfold gA; omega
/-- a method of the class's or the reference's, by its contract -/
theorem g_callV {K : mj_M} {sh : List mj_S} {x : mj_X} {idx n c0 ci : Nat} {fs : List (Option Nat)} {T0 : u_T} {N0 : Nat} {As : List Value} {QK : Option Value → mj_X → Prop} (B : gB M p s m meth c D ad cA h0 k0) (hlen : sh.length ≤ 100) (hC : mj_C K sh (.ref c0 :: As) x QK) (hK : mj_ckV K n) (hl : mj_lk M.1.cls idx K.1) (hrm : K.2.2.2.2.1 + 1 ≤ R.frames ∧ 8 + (K.2.2.1 + 11) + K.2.2.2.2.2 ≤ R.locals) (hcs : n1 ≤ R.cells ∧ n2 ≤ R.slots) (hn : As.length = n) (hd : decode M.2.1 pc = .ok (.invokevirtual idx, 3)) (hsh : sh[c0]? = some (.inl (ci, fs))) (hcl : mj_cl[ci]? = some (K.1.cls, T0, N0)) (hcat : (st.map fun v => v.category).sum ≤ 8) (k : ∀ r x', QK r x' → gW p l e R s m args below meth c D ad cA h0 Q0 M.2.2.1 (g_of x' sh) n1 n2 (pc + 3) ls (r.toList ++ st)) : gW p l e R s m args below meth c D ad cA h0 Q0 M.2.2.1 (g_of x sh) n1 n2 pc ls (As.reverse ++ .ref c0 :: st) := by
  intro H locs lsA hP hS hL
  rw [g_of_w] at hP
  obtain ⟨⟨h1, h2, h3, h4⟩, h5, h6⟩ := hK
  have hG := B.2.2.2.2.2.2.1
  have hT := hG.1
  have hmj := g_mjG (sh := sh) hG hlen
  have hws : ∀ w ∈ [Cond.code K.1 K.2.1 K.2.2.1 K.2.2.2.1], ∀ (a' : Array Value) (U : State), s.WarmedH U.vm → w.before a' U = true := by
    intro w hw a' U hW
    rw [List.mem_singleton.mp hw]
    exact mj_use (hT.warm hW) h1.1 h1.2 a'
  have hpre : PreV s H K.1.cls (ad c0) (mj_Pc D (gA h0) ad cA sh x (.ref c0 :: As)) (As.map (mj_v ad)) :=
    ⟨mj_Pc_blind, va_recv hG.2.1 hP hcl (mj_w_at hsh), fun U hU hW => ⟨rfl, by rw [hU]; exact hP, hmj.go hS hU hW⟩⟩
  have hrun : va_Run p l e R s m args below meth c H locs n1 n2 0 0 (F0 m pc lsA ((As.reverse ++ .ref c0 :: st).map (mj_v ad))) (st.map (mj_v ad)) (mj_Qc D (gA h0) ad cA sh QK (Value.ref (ad c0) :: As.map (mj_v ad)).toArray) (gA h0) := by
    have hstk : (F0 m pc lsA ((As.reverse ++ .ref c0 :: st).map (mj_v ad))).stack = (As.map (mj_v ad)).reverse ++ Value.ref (ad c0) :: st.map (mj_v ad) := by
      show (As.reverse ++ .ref c0 :: st).map (mj_v ad) = _
      rw [List.map_append, List.map_reverse]
      rfl
    rcases hl with hl | ⟨h, hl⟩
    · exact va_runV (Ts := mj_tb) ⟨B.1, B.2.1, B.2.2.1, B.2.2.2.2.2.1, hT.all args⟩ (hC l D (gA h0) ad cA) ⟨⟨rfl, rfl, hrm.1, hrm.2, hws, List.mem_cons_self, mj_use hT h1.1 h1.2 args, mj_use hT h2.1 h2.2 args, h3, mj_len h4, mj_use hT hl.1 hl.2 args⟩, mj_use hT h5.1 h5.2 args, mj_use hT h6.1 h6.2 args⟩ hpre rfl (by rw [List.length_map]; exact hn) hL.1 hstk (lv_room (by rw [mj_cats]; exact hcat)) hd hcs
    · exact va_runVN (Ts := mj_tb) ⟨B.1, B.2.1, B.2.2.1, B.2.2.2.2.2.1, hT.all args⟩ (hC l D (gA h0) ad cA) ⟨⟨⟨rfl, rfl, hrm.1, hrm.2, hws, List.mem_cons_self⟩, mj_use hT h1.1 h1.2 args, mj_use hT h2.1 h2.2 args, h3, mj_len h4, va_Nw.use rfl (hT.2 _ hl.1 hl.2)⟩, mj_use hT h5.1 h5.2 args, mj_use hT h6.1 h6.2 args⟩ hpre rfl (by rw [List.length_map]; exact hn) hL.1 hstk (lv_room (by rw [mj_cats]; exact hcat)) hd hcs
  refine g_after hrun hS (fun r x' H1 locs1 hq hP1 hS1 => ?_)
  rw [mj_map_app]
  exact k r x' hq H1 locs1 lsA (by rw [g_of_w]; exact hP1) hS1 hL
/-- a constructor, by its contract -/
theorem g_callI {K : mj_M} {c1 c2 idx n c0 : Nat} {As : List Value} {Qg : List gS → Prop} (B : gB M p s m meth c D ad cA h0 k0) (hlen : gw.length ≤ 100) (hkn : k0 + n1 = gw.length) (hC : gC K c1 c2 gw (.ref c0 :: As) Qg) (hK : mj_ck K n) (hKi : mj_wd (.instanceMethod K.1)) (hKn : K.1.name = "<init>") (hKr : K.2.2.2.1 = none) (hl : mj_lk M.1.cls idx K.1) (hrm : K.2.2.2.2.1 + 1 ≤ R.frames ∧ 8 + (K.2.2.1 + 11) + K.2.2.2.2.2 ≤ R.locals) (hcs : n1 + c1 ≤ R.cells ∧ n2 + c2 ≤ R.slots) (hn : As.length = n) (hd : decode M.2.1 pc = .ok (.invokespecial idx, 3)) (hcat : (st.map fun v => v.category).sum ≤ 8) (k : ∀ gw', Qg gw' → gW p l e R s m args below meth c D ad cA h0 Q0 M.2.2.1 gw' (n1 + c1) (n2 + c2) (pc + 3) ls st) : gW p l e R s m args below meth c D ad cA h0 Q0 M.2.2.1 gw n1 n2 pc ls (As.reverse ++ .ref c0 :: st) := by
  intro H locs lsA hP hS hL T0 hT0 X
  have hz := g_size B hT0 X hP hS hkn hlen
  suffices hw : W p l e R s m args below meth c H locs n1 n2 Q0 (F0 m pc lsA ((As.reverse ++ .ref c0 :: st).map (mj_v ad))) from hw T0 hT0 X
  obtain ⟨h1, h2, h3, h4⟩ := hK
  rw [hKr] at h1
  have hG := B.2.2.2.2.2.2.1
  have hT := hG.1
  have hM := hC l D ad cA h0
  rw [hKr] at hM
  have hws : ∀ w ∈ [Cond.code K.1 K.2.1 K.2.2.1 none], ∀ (a' : Array Value) (U : State), s.WarmedH U.vm → w.before a' U = true := by
    intro w hw a' U hW
    rw [List.mem_singleton.mp hw]
    exact mj_use (hT.warm hW) h1.1 h1.2 a'
  have hpre : PreS s H (gPc D ad cA h0 gw (.ref c0 :: As)) (Value.ref (ad c0) :: As.map (mj_v ad)) :=
    ⟨gPc_blind, fun U hU hW => ⟨rfl, by rw [hU]; exact hP, hG.go hS hU hW, by rw [hU]; exact hz⟩⟩
  have hrun : va_Run p l e R s m args below meth c H locs n1 n2 c1 c2 (F0 m pc lsA ((As.reverse ++ .ref c0 :: st).map (mj_v ad))) (st.map (mj_v ad)) (gQc D ad cA h0 Qg (Value.ref (ad c0) :: As.map (mj_v ad)).toArray) (gA h0) := by
    have hstk : (F0 m pc lsA ((As.reverse ++ .ref c0 :: st).map (mj_v ad))).stack = (As.map (mj_v ad)).reverse ++ Value.ref (ad c0) :: st.map (mj_v ad) := by
      show (As.reverse ++ .ref c0 :: st).map (mj_v ad) = _
      rw [List.map_append, List.map_reverse]
      rfl
    rcases hl with hl | ⟨h, hl⟩
    · exact va_runI (Ts := mj_tb) ⟨B.1, B.2.1, B.2.2.1, B.2.2.2.2.2.1, hT.all args⟩ hM ⟨⟨rfl, rfl, hrm.1, hrm.2, hws, List.mem_cons_self, mj_use hT h1.1 h1.2 args, mj_use hT h2.1 h2.2 args, h3, mj_len h4, mj_use hT hl.1 hl.2 args⟩, hKn, mj_use hT hKi.1 hKi.2 args⟩ hpre rfl (by rw [List.length_map]; exact hn) hL.1 hstk (lv_room (by rw [mj_cats]; exact hcat)) hd hcs
    · exact va_runIN (Ts := mj_tb) ⟨B.1, B.2.1, B.2.2.1, B.2.2.2.2.2.1, hT.all args⟩ hM ⟨⟨⟨rfl, rfl, hrm.1, hrm.2, hws, List.mem_cons_self⟩, mj_use hT h1.1 h1.2 args, mj_use hT h2.1 h2.2 args, h3, mj_len h4, va_Nw.use rfl (hT.2 _ hl.1 hl.2)⟩, hKn, mj_use hT hKi.1 hKi.2 args⟩ hpre rfl (by rw [List.length_map]; exact hn) hL.1 hstk (lv_room (by rw [mj_cats]; exact hcat)) hd hcs
  intro T hT1 X1
  obtain ⟨v, st₀, t, T', L, h0', X', hL', e1, e2, ⟨⟨gw', hv, hq, hP'⟩, hz', hk'⟩, stp⟩ := hrun T hT1 X1
  cases hv
  rw [h0'] at hz' hk'
  obtain ⟨t2, a1, b1⟩ := k gw' hq T'.heap (locs ++ L) lsA (by rw [e1]; exact hP')
    ⟨Nat.le_trans hS.1 (by rw [e1]; exact hz'), fun q h1 h2 => by rw [e1, hk' q (Nat.lt_of_lt_of_le h1 hS.1) h2]; exact hS.2.1 q h1 h2, fun q hq => by
      rcases List.mem_append.mp hq with h | h
      · exact hS.2.2 q h
      · exact hL' q h⟩ hL T' rfl X'
  exact ⟨t2, stp t2 a1, b1⟩
end GROW2
