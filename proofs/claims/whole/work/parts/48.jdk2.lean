/-! rows and contracts for methods that read alone -/
def gQr (D : va_G) (ad : Nat → Nat) (cA : ClassId) (h0 : Nat) (gw : List gS) (r : Option Value) : Array Value → State → Outcome → State → Prop := fun _ st oc t => (oc = .returned (r.map (mj_v ad)) ∧ va_P D mj_cl (g_w ad cA gw) t.heap) ∧ va_F (gA h0) st t
def sC (K : mj_M) (gw : List gS) (av : List Value) (r : Option Value) : Prop :=
  ∀ (l : Launch) (D : va_G) (ad : Nat → Nat) (cA : ClassId) (h0 : Nat), Met l K.1 [.code K.1 K.2.1 K.2.2.1 K.2.2.2.1] (g_rm K 0 0) (gPc D ad cA h0 gw av) (gQr D ad cA h0 gw r) 0 0 (gA h0)
theorem s_start {K : mj_M} {gw : List gS} {av : List Value} {r : Option Value} {ls : List (Option Value)} (hy : plainName K.1.cls = true) (hen : mj_en av K.2.2.1 = ls) (hlen : ls.length = K.2.2.1)
    (k : ∀ (p : Program) (l : Launch) (e : Env) (s : State) (m : MethodId) (args : Array Value) (below : List Frame) (meth : Method) (c : Code) (D : va_G) (ad : Nat → Nat) (cA : ClassId) (h0 : Nat), gB K p s m meth c D ad cA h0 gw.length →
      gW p l e (g_rm K 0 0) s m args below meth c D ad cA h0 (MQ below (gQr D ad cA h0 gw r) args s 0 0 (gA h0)) K.2.2.1 gw 0 0 0 ls []) : sC K gw av r := by
  intro l D ad cA h0
  refine Met.ofW (cc := K.2.1) (maxL := K.2.2.1) (ret := K.2.2.2.1) hy rfl ?_
  intro p e s m args below meth c s₁ B hml hv
  obtain ⟨rfl, hP, hG, hz⟩ := hv
  have hlA : (lg_sl (av.map (mj_v ad))).length ≤ K.2.2.1 := by
    rw [mj_sl_len, ← hlen, ← hen]
    unfold mj_en
    simp only [List.length_append]
    omega
  have hl := lv_entry (av.map (mj_v ad)) (n := K.2.2.1) hlA
  rw [lg_entry_eq]
  generalize (lg_sl (av.map (mj_v ad)) ++ List.replicate (K.2.2.1 - (lg_sl (av.map (mj_v ad))).length) Slot.unset).toArray = lsA at hl ⊢
  refine k p l e s m _ below meth c D ad cA h0 ⟨B.exec, B.bytes, hml, B.returns, B.notSynchronized, findClass_of_methodNamed B.named, hG, hz⟩ s.heap [] lsA hP va_S.rf ⟨hl.1, hl.2.1, Nat.le_of_eq hlen, fun i v hi => ?_⟩
  rw [← hen] at hi
  unfold mj_en at hi
  dsimp only at hi
  by_cases hb : i < (av.flatMap fun v => if v.category = 2 then [some v, none] else [some v]).length
  · rw [List.getElem?_append_left hb] at hi
    have h2 := mj_en_args av ad 0 i v hi
    rw [Nat.zero_add] at h2
    exact hl.2.2 (i, mj_v ad v) h2
  · rw [List.getElem?_append_right (by omega), List.getElem?_replicate] at hi
    split at hi <;> cases hi
section GROW3
variable {p : Program} {l : Launch} {e : Env} {R : Room} {s : State} {m : MethodId} {args : Array Value} {below : List Frame} {meth : Method} {c : Code} {D : va_G} {ad : Nat → Nat} {cA : ClassId} {h0 k0 : Nat} {Q0 : State → Prop} {M : mj_M} {gw : List gS} {n1 n2 pc : Nat} {ls : List (Option Value)} {st : List Value}
theorem s_ret {v : Int32} {ty : FieldType} (B : gB M p s m meth c D ad cA h0 k0) (hr : M.2.2.2.1 = some ty) (hn : narrow ty (.int v) = .int v) (hd : decode M.2.1 pc = .ok (.ireturn, 1)) : gW p l e R s m args below meth c D ad cA h0 (MQ below (gQr D ad cA h0 gw (some (.int v))) args s n1 n2 (gA h0)) M.2.2.1 gw n1 n2 pc ls [.int v] :=
  fun H locs lsA hP hS hL => W.zret (v := v) B.1 B.2.1 (B.2.2.2.1.trans hr) hn (fun t ht hW => ⟨⟨rfl, by rw [ht]; exact hP⟩, hS.F ht⟩) hS.2.2 hd B.2.2.2.2.1
theorem s_retv (B : gB M p s m meth c D ad cA h0 k0) (hr : M.2.2.2.1 = none) (hd : decode M.2.1 pc = .ok (.return_, 1)) : gW p l e R s m args below meth c D ad cA h0 (MQ below (gQr D ad cA h0 gw none) args s n1 n2 (gA h0)) M.2.2.1 gw n1 n2 pc ls [] :=
  fun H locs lsA hP hS hL => W.vret B.1 B.2.1 (B.2.2.2.1.trans hr) (fun t ht hW => ⟨⟨rfl, by rw [ht]; exact hP⟩, hS.F ht⟩) hS.2.2 hd B.2.2.2.2.1
theorem g_gets {C n d : String} {v : Value} {idx : Nat} (B : gB M p s m meth c D ad cA h0 k0) (hZ : va_Z C n d (mj_v ad v) (gA h0) s s.heap) (w : mj_wd (.fieldLink M.1.cls idx C n d)) (hd : decode M.2.1 pc = .ok (.getstatic idx, 3)) (k : gW p l e R s m args below meth c D ad cA h0 Q0 M.2.2.1 gw n1 n2 (pc + 3) ls (v :: st)) : gW p l e R s m args below meth c D ad cA h0 Q0 M.2.2.1 gw n1 n2 pc ls st :=
  fun H locs lsA hP hS hL => va_gets B.1 B.2.1 hZ hS B.2.2.2.2.2.1 (mj_use B.2.2.2.2.2.2.1.1 w.1 w.2 args) (fun _ h => h) hd (k H locs lsA hP hS hL)
theorem g_getS {n d : String} {v : Value} {idx : Nat} (B : gB M p s m meth c D ad cA h0 k0) (hE : va_OF "java/lang/String" n d (mj_v ad v) (ad 104) (gA h0) s s.heap) (w : mj_wd (.fieldLink M.1.cls idx "java/lang/String" n d)) (hd : decode M.2.1 pc = .ok (.getfield idx, 3)) (k : gW p l e R s m args below meth c D ad cA h0 Q0 M.2.2.1 gw n1 n2 (pc + 3) ls (v :: st)) : gW p l e R s m args below meth c D ad cA h0 Q0 M.2.2.1 gw n1 n2 pc ls (.ref 104 :: st) :=
  fun H locs lsA hP hS hL => vk_getf B.1 B.2.1 hE hS B.2.2.2.2.2.1 (mj_use B.2.2.2.2.2.2.1.1 w.1 w.2 args) (fun _ h => h) hd (k H locs lsA hP hS hL)
theorem g_tlen (B : gB M p s m meth c D ad cA h0 k0) (hd : decode M.2.1 pc = .ok (.arraylength, 1)) (k : gW p l e R s m args below meth c D ad cA h0 Q0 M.2.2.1 gw n1 n2 (pc + 1) ls (.int (nI 46) :: st)) : gW p l e R s m args below meth c D ad cA h0 Q0 M.2.2.1 gw n1 n2 pc ls (.ref 105 :: st) :=
  fun H locs lsA hP hS hL => va_tlen B.1 B.2.1 (B.2.2.2.2.2.2.1.2.2.1.2.1.1 0 (by decide)).2.2.2 hS rfl hd (k H locs lsA hP hS hL)
theorem g_tb {j : Nat} {i : Int32} (B : gB M p s m meth c D ad cA h0 k0) (hi : i = nI j) (hj : j < 46) (hd : decode M.2.1 pc = .ok (.baload, 1)) (k : gW p l e R s m args below meth c D ad cA h0 Q0 M.2.2.1 gw n1 n2 (pc + 1) ls (.int (txB.getD j 0) :: st)) : gW p l e R s m args below meth c D ad cA h0 Q0 M.2.2.1 gw n1 n2 pc ls (.int i :: .ref 105 :: st) := by
  intro H locs lsA hP hS hL
  subst hi
  exact va_tb B.1 B.2.1 (B.2.2.2.2.2.2.1.2.2.1.2.1.1 0 (by decide)).2.2.2 hS (vp_in_nI hj (by decide)) (by rw [nI_clamp (by omega)]; rfl) hd (k H locs lsA hP hS hL)
theorem g_ldcS {idx : Nat} (B : gB M p s m meth c D ad cA h0 k0) (hM : M.1.cls = "PointsOffice") (hx : idx = 56) (hd : decode M.2.1 pc = .ok (.ldc idx, 2)) (k : gW p l e R s m args below meth c D ad cA h0 Q0 M.2.2.1 gw n1 n2 (pc + 2) ls (.ref 104 :: st)) : gW p l e R s m args below meth c D ad cA h0 Q0 M.2.2.1 gw n1 n2 pc ls st := by
  intro H locs lsA hP hS hL
  subst hx
  have ho := B.2.2.2.2.2.1
  rw [hM] at ho
  exact va_ldcS B.1 B.2.1 ho B.2.2.2.2.2.2.1.2.2.1.2.2.2.2 hd (k H locs lsA hP hS hL)
theorem g_ishr {a b : Int32} (B : gB M p s m meth c D ad cA h0 k0) (hd : decode M.2.1 pc = .ok (.ishr, 1)) (k : gW p l e R s m args below meth c D ad cA h0 Q0 M.2.2.1 gw n1 n2 (pc + 1) ls (.int (a >>> (b &&& 31)) :: st)) : gW p l e R s m args below meth c D ad cA h0 Q0 M.2.2.1 gw n1 n2 pc ls (.int b :: .int a :: st) :=
  fun H locs lsA hP hS hL => lv_ishr B.1 B.2.1 hd (k H locs lsA hP hS hL)
theorem g_i2c {a v : Int32} (B : gB M p s m meth c D ad cA h0 k0) (hv : (a.toUInt32 % 65536).toInt32 = v) (hd : decode M.2.1 pc = .ok (.i2c, 1)) (k : gW p l e R s m args below meth c D ad cA h0 Q0 M.2.2.1 gw n1 n2 (pc + 1) ls (.int v :: st)) : gW p l e R s m args below meth c D ad cA h0 Q0 M.2.2.1 gw n1 n2 pc ls (.int a :: st) :=
  fun H locs lsA hP hS hL => lv_i2c B.1 B.2.1 hd hv (k H locs lsA hP hS hL)
theorem g_popr {a : Nat} (B : gB M p s m meth c D ad cA h0 k0) (hd : decode M.2.1 pc = .ok (.pop, 1)) (k : gW p l e R s m args below meth c D ad cA h0 Q0 M.2.2.1 gw n1 n2 (pc + 1) ls st) : gW p l e R s m args below meth c D ad cA h0 Q0 M.2.2.1 gw n1 n2 pc ls (.ref a :: st) :=
  fun H locs lsA hP hS hL => lv_pop B.1 B.2.1 hd rfl (k H locs lsA hP hS hL)
theorem g_if_eq {a : Int32} {off : Int} {tgt : Nat} (B : gB M p s m meth c D ad cA h0 k0) (hd : decode M.2.1 pc = .ok (.ifCond .eq off, 3)) (ht : (pc : Int) + off = (tgt : Int)) (kt : a = 0 → gW p l e R s m args below meth c D ad cA h0 Q0 M.2.2.1 gw n1 n2 tgt ls st) (kf : ¬ a = 0 → gW p l e R s m args below meth c D ad cA h0 Q0 M.2.2.1 gw n1 n2 (pc + 3) ls st) : gW p l e R s m args below meth c D ad cA h0 Q0 M.2.2.1 gw n1 n2 pc ls (.int a :: st) :=
  fun H locs lsA hP hS hL => lv_if_eq B.1 B.2.1 hd ht (fun h => kt h H locs lsA hP hS hL) (fun h => kf h H locs lsA hP hS hL)
theorem g_if_ne {a : Int32} {off : Int} {tgt : Nat} (B : gB M p s m meth c D ad cA h0 k0) (hd : decode M.2.1 pc = .ok (.ifCond .ne off, 3)) (ht : (pc : Int) + off = (tgt : Int)) (kt : ¬ a = 0 → gW p l e R s m args below meth c D ad cA h0 Q0 M.2.2.1 gw n1 n2 tgt ls st) (kf : a = 0 → gW p l e R s m args below meth c D ad cA h0 Q0 M.2.2.1 gw n1 n2 (pc + 3) ls st) : gW p l e R s m args below meth c D ad cA h0 Q0 M.2.2.1 gw n1 n2 pc ls (.int a :: st) :=
  fun H locs lsA hP hS hL => lv_if_ne B.1 B.2.1 hd ht (fun h => kt h H locs lsA hP hS hL) (fun h => kf h H locs lsA hP hS hL)
theorem g_if_lt {a : Int32} {off : Int} {tgt : Nat} (B : gB M p s m meth c D ad cA h0 k0) (hd : decode M.2.1 pc = .ok (.ifCond .lt off, 3)) (ht : (pc : Int) + off = (tgt : Int)) (kt : a < 0 → gW p l e R s m args below meth c D ad cA h0 Q0 M.2.2.1 gw n1 n2 tgt ls st) (kf : ¬ a < 0 → gW p l e R s m args below meth c D ad cA h0 Q0 M.2.2.1 gw n1 n2 (pc + 3) ls st) : gW p l e R s m args below meth c D ad cA h0 Q0 M.2.2.1 gw n1 n2 pc ls (.int a :: st) :=
  fun H locs lsA hP hS hL => lv_if_lt B.1 B.2.1 hd ht (fun h => kt h H locs lsA hP hS hL) (fun h => kf h H locs lsA hP hS hL)
theorem g_ic_lt {a b : Int32} {off : Int} {tgt : Nat} (B : gB M p s m meth c D ad cA h0 k0) (hd : decode M.2.1 pc = .ok (.if_icmp .lt off, 3)) (ht : (pc : Int) + off = (tgt : Int)) (kt : a < b → gW p l e R s m args below meth c D ad cA h0 Q0 M.2.2.1 gw n1 n2 tgt ls st) (kf : ¬ a < b → gW p l e R s m args below meth c D ad cA h0 Q0 M.2.2.1 gw n1 n2 (pc + 3) ls st) : gW p l e R s m args below meth c D ad cA h0 Q0 M.2.2.1 gw n1 n2 pc ls (.int b :: .int a :: st) :=
  fun H locs lsA hP hS hL => lv_icmp_lt B.1 B.2.1 hd ht (fun h => kt h H locs lsA hP hS hL) (fun h => kf h H locs lsA hP hS hL)
theorem s_after {H : Heap} {locs : List Loc} {cells slots : Nat} {r : Option Value} {a : Array Value} {lsA : Array Slot} {st0 rest : List Value}
    (hr : va_Run p l e R s m args below meth c H locs cells slots 0 0 (F0 m pc lsA st0) rest (gQr D ad cA h0 gw r a) (gA h0)) (hS : va_S (gA h0) s.heap H locs)
    (kk : ∀ (H1 : Heap) (locs1 : List Loc), va_P D mj_cl (g_w ad cA gw) H1 → va_S (gA h0) s.heap H1 locs1 → W p l e R s m args below meth c H1 locs1 cells slots Q0 (F0 m (pc + 3) lsA ((r.map (mj_v ad)).toList ++ rest))) : W p l e R s m args below meth c H locs cells slots Q0 (F0 m pc lsA st0) := by
  intro T hT X
  obtain ⟨v, st₀, t, T', L, h0, X', hL, e1, e2, ⟨⟨hv, hP⟩, hz, hk⟩, st⟩ := hr T hT X
  cases hv
  rw [h0] at hz hk
  obtain ⟨t2, a1, b1⟩ := kk T'.heap (locs ++ L) (by rw [e1]; exact hP)
    ⟨Nat.le_trans hS.1 (by rw [e1]; exact hz), fun q h1 h2 => by rw [e1, hk q (Nat.lt_of_lt_of_le h1 hS.1) h2]; exact hS.2.1 q h1 h2, fun q hq => by
      rcases List.mem_append.mp hq with h | h
      · exact hS.2.2 q h
      · exact hL q h⟩ T' rfl X'
  exact ⟨t2, st t2 a1, b1⟩
theorem s_callV {K : mj_M} {idx n : Nat} {As : List Value} {r : Option Value} (B : gB M p s m meth c D ad cA h0 k0) (hlen : gw.length ≤ 100) (hkn : k0 + n1 = gw.length) (hC : sC K gw (.ref 104 :: As) r) (hcls : K.1.cls = "java/lang/String") (hK : mj_ckV K n) (hl : mj_wd (.methodLink M.1.cls idx K.1)) (hrm : K.2.2.2.2.1 + 1 ≤ R.frames ∧ 8 + (K.2.2.1 + 11) + K.2.2.2.2.2 ≤ R.locals) (hcs : n1 ≤ R.cells ∧ n2 ≤ R.slots) (hn : As.length = n) (hd : decode M.2.1 pc = .ok (.invokevirtual idx, 3)) (hcat : (st.map fun v => v.category).sum ≤ 8) (k : gW p l e R s m args below meth c D ad cA h0 Q0 M.2.2.1 gw n1 n2 (pc + 3) ls (r.toList ++ st)) : gW p l e R s m args below meth c D ad cA h0 Q0 M.2.2.1 gw n1 n2 pc ls (As.reverse ++ .ref 104 :: st) := by
  intro H locs lsA hP hS hL T0 hT0 X
  have hz := g_size B hT0 X hP hS hkn hlen
  suffices hw : W p l e R s m args below meth c H locs n1 n2 Q0 (F0 m pc lsA ((As.reverse ++ .ref 104 :: st).map (mj_v ad))) from hw T0 hT0 X
  obtain ⟨⟨h1, h2, h3, h4⟩, h5, h6⟩ := hK
  have hG := B.2.2.2.2.2.2.1
  have hT := hG.1
  have hws : ∀ w ∈ [Cond.code K.1 K.2.1 K.2.2.1 K.2.2.2.1], ∀ (a' : Array Value) (U : State), s.WarmedH U.vm → w.before a' U = true := by
    intro w hw a' U hW
    rw [List.mem_singleton.mp hw]
    exact mj_use (hT.warm hW) h1.1 h1.2 a'
  have hpre : PreV s H K.1.cls (ad 104) (gPc D ad cA h0 gw (.ref 104 :: As)) (As.map (mj_v ad)) :=
    ⟨gPc_blind, by rw [hcls]; exact vk_recv (i := 0) hG.2.2.1.2.1 (by decide) hS, fun U hU hW => ⟨rfl, by rw [hU]; exact hP, hG.go hS hU hW, by rw [hU]; exact hz⟩⟩
  have hstk : (F0 m pc lsA ((As.reverse ++ .ref 104 :: st).map (mj_v ad))).stack = (As.map (mj_v ad)).reverse ++ Value.ref (ad 104) :: st.map (mj_v ad) := by
    show (As.reverse ++ .ref 104 :: st).map (mj_v ad) = _
    rw [List.map_append, List.map_reverse]
    rfl
  have hrun := va_runV (Ts := mj_tb) ⟨B.1, B.2.1, B.2.2.1, B.2.2.2.2.2.1, hT.all args⟩ (hC l D ad cA h0) ⟨⟨rfl, rfl, hrm.1, hrm.2, hws, List.mem_cons_self, mj_use hT h1.1 h1.2 args, mj_use hT h2.1 h2.2 args, h3, mj_len h4, mj_use hT hl.1 hl.2 args⟩, mj_use hT h5.1 h5.2 args, mj_use hT h6.1 h6.2 args⟩ hpre (g := F0 m pc lsA ((As.reverse ++ .ref 104 :: st).map (mj_v ad))) rfl (by rw [List.length_map]; exact hn) hL.1 hstk (lv_room (by rw [mj_cats]; exact hcat)) hd (below := below) (meth := meth) (e := e) (locs := locs) (cells := n1) (slots := n2) hcs
  refine s_after hrun hS (fun H1 locs1 hP1 hS1 => ?_)
  rw [mj_map_app]
  exact k H1 locs1 lsA hP1 hS1 hL
theorem s_callS {K : mj_M} {idx n : Nat} {As : List Value} {r : Option Value} (B : gB M p s m meth c D ad cA h0 k0) (hlen : gw.length ≤ 100) (hkn : k0 + n1 = gw.length) (hC : sC K gw As r) (hK : mj_ckS K n) (hl : mj_wd (.methodLink M.1.cls idx K.1)) (hrm : K.2.2.2.2.1 + 1 ≤ R.frames ∧ 8 + (K.2.2.1 + 11) + K.2.2.2.2.2 ≤ R.locals) (hcs : n1 ≤ R.cells ∧ n2 ≤ R.slots) (hn : As.length = n) (hd : decode M.2.1 pc = .ok (.invokestatic idx, 3)) (hcat : (st.map fun v => v.category).sum ≤ 8) (k : gW p l e R s m args below meth c D ad cA h0 Q0 M.2.2.1 gw n1 n2 (pc + 3) ls (r.toList ++ st)) : gW p l e R s m args below meth c D ad cA h0 Q0 M.2.2.1 gw n1 n2 pc ls (As.reverse ++ st) := by
  intro H locs lsA hP hS hL T0 hT0 X
  have hz := g_size B hT0 X hP hS hkn hlen
  suffices hw : W p l e R s m args below meth c H locs n1 n2 Q0 (F0 m pc lsA ((As.reverse ++ st).map (mj_v ad))) from hw T0 hT0 X
  obtain ⟨⟨h1, h2, h3, h4⟩, h5⟩ := hK
  have hG := B.2.2.2.2.2.2.1
  have hT := hG.1
  have hws : ∀ w ∈ [Cond.code K.1 K.2.1 K.2.2.1 K.2.2.2.1], ∀ (a' : Array Value) (U : State), s.WarmedH U.vm → w.before a' U = true := by
    intro w hw a' U hW
    rw [List.mem_singleton.mp hw]
    exact mj_use (hT.warm hW) h1.1 h1.2 a'
  have hpre : PreS s H (gPc D ad cA h0 gw As) (As.map (mj_v ad)) :=
    ⟨gPc_blind, fun U hU hW => ⟨rfl, by rw [hU]; exact hP, hG.go hS hU hW, by rw [hU]; exact hz⟩⟩
  have hstk : (F0 m pc lsA ((As.reverse ++ st).map (mj_v ad))).stack = (As.map (mj_v ad)).reverse ++ st.map (mj_v ad) := by
    show (As.reverse ++ st).map (mj_v ad) = _
    rw [List.map_append, List.map_reverse]
  have hrun := va_runS (Ts := mj_tb) ⟨B.1, B.2.1, B.2.2.1, B.2.2.2.2.2.1, hT.all args⟩ (hC l D ad cA h0) ⟨⟨rfl, rfl, hrm.1, hrm.2, hws, List.mem_cons_self, mj_use hT h1.1 h1.2 args, mj_use hT h2.1 h2.2 args, h3, mj_len h4, mj_use hT hl.1 hl.2 args⟩, mj_use hT h5.1 h5.2 args⟩ hpre (g := F0 m pc lsA ((As.reverse ++ st).map (mj_v ad))) rfl (by rw [List.length_map]; exact hn) hL.1 hstk (lv_room (by rw [mj_cats]; exact hcat)) hd (below := below) (meth := meth) (e := e) (locs := locs) (cells := n1) (slots := n2) hcs
  refine s_after hrun hS (fun H1 locs1 hP1 hS1 => ?_)
  rw [mj_map_app]
  exact k H1 locs1 lsA hP1 hS1 hL
end GROW3
