section MJC
variable {M : mj_M} {sh : List mj_S} {Q : Option Value → mj_X → Prop} {x : mj_X} {pc : Nat} {ls : List (Option Value)} {st : List Value}
theorem mj_Pc_blind {D : va_G} {A : Nat → Prop} {ad : Nat → Nat} {cA : ClassId} {av : List Value} : FrameBlind (mj_Pc D A ad cA sh x av) := by
  intro a U g mk h
  obtain ⟨h1, h2, h3⟩ := h
  exact ⟨h1, h2, h3.go (U := U.calling g mk a) (va_S.rf (H0 := U.heap)) rfl (State.WarmedH.refl U)⟩
theorem mj_after {p : Program} {l : Launch} {e : Env} {R : Room} {s : State} {m : MethodId} {args : Array Value} {below : List Frame} {meth : Method} {c : Code} {H : Heap} {locs : List Loc} {Q0 : State → Prop} {D : va_G} {A : Nat → Prop} {ad : Nat → Nat} {cA : ClassId} {QK : Option Value → mj_X → Prop} {a : Array Value} {lsA : Array Slot} {st0 rest : List Value}
    (hr : va_Run p l e R s m args below meth c H locs 0 0 0 0 (F0 m pc lsA st0) rest (mj_Qc D A ad cA sh QK a) A) (hS : va_S A s.heap H locs)
    (kk : ∀ (r : Option Value) (x' : mj_X) (H1 : Heap) (locs1 : List Loc), QK r x' → va_P D mj_cl (mj_w ad cA x' sh) H1 → va_S A s.heap H1 locs1 → W p l e R s m args below meth c H1 locs1 0 0 Q0 (F0 m (pc + 3) lsA ((r.map (mj_v ad)).toList ++ rest))) : W p l e R s m args below meth c H locs 0 0 Q0 (F0 m pc lsA st0) := by
  intro T hT X
  obtain ⟨v, st₀, t, T', L, h0, X', hL, e1, e2, ⟨⟨r, x', hv, hq, hP⟩, hz, hk⟩, st⟩ := hr T hT X
  cases hv
  rw [h0] at hz hk
  obtain ⟨t2, a1, b1⟩ := kk r x' T'.heap (locs ++ L) hq (by rw [e1]; exact hP)
    ⟨Nat.le_trans hS.1 (by rw [e1]; exact hz), fun q h1 h2 => by rw [e1, hk q (Nat.lt_of_lt_of_le h1 hS.1) h2]; exact hS.2.1 q h1 h2, fun q hq => by
      rcases List.mem_append.mp hq with h | h
      · exact hS.2.2 q h
      · exact hL q h⟩ T' rfl X'
  exact ⟨t2, st t2 a1, b1⟩
/-- what a call's words are: its code, its class, its number of arguments -/
def mj_ck (K : mj_M) (n : Nat) : Prop := mj_wd (.code K.1 K.2.1 K.2.2.1 K.2.2.2.1) ∧ mj_wd (.initialized K.1.cls) ∧ (K.1.cls ≠ "java/lang/invoke/MethodHandle" ∧ K.1.cls ≠ "java/lang/invoke/VarHandle") ∧ (parseMethodDescriptor K.1.desc).map (fun d => d.parameters.length) = some n
def mj_ckV (K : mj_M) (n : Nat) : Prop := mj_ck K n ∧ mj_wd (.instanceMethod K.1) ∧ mj_wd (.selects K.1.cls K.1 K.1)
def mj_ckS (K : mj_M) (n : Nat) : Prop := mj_ck K n ∧ mj_wd (.static K.1)
def mj_lk (own : String) (idx : Nat) (y : MethodName) : Prop := mj_wd (.methodLink own idx y) ∨ ∃ h, mj_wn (.methodLinkNest own idx y h)
def mj_rok (M K : mj_M) : Prop := K.2.2.2.2.1 + 1 ≤ M.2.2.2.2.1 ∧ 8 + (K.2.2.1 + 11) + K.2.2.2.2.2 ≤ M.2.2.2.2.2
theorem mj_len {K : mj_M} {n : Nat} (h : (parseMethodDescriptor K.1.desc).map (fun d => d.parameters.length) = some n) : ∀ sig, parseMethodDescriptor K.1.desc = some sig → n = sig.parameters.length := by
  intro sig hs
  rw [hs] at h
  exact (Option.some.inj h).symm
theorem mj_map_app {ad : Nat → Nat} (r : Option Value) (st : List Value) : (r.map (mj_v ad)).toList ++ st.map (mj_v ad) = (r.toList ++ st).map (mj_v ad) := by cases r <;> rfl
theorem mj_cats {ad : Nat → Nat} (st : List Value) : ((st.map (mj_v ad)).map fun v => v.category).sum = (st.map fun v => v.category).sum := by
  rw [List.map_map]
  congr 1
  exact List.map_congr_left (fun v _ => mj_v_cat ad v)
theorem mj_callV {K : mj_M} {idx n c0 ci : Nat} {fs : List (Option Nat)} {T0 : u_T} {N0 : Nat} {As : List Value} {QK : Option Value → mj_X → Prop} (hC : mj_C K sh (.ref c0 :: As) x QK) (hK : mj_ckV K n) (hl : mj_lk M.1.cls idx K.1) (hrm : mj_rok M K) (hn : As.length = n) (hd : decode M.2.1 pc = .ok (.invokevirtual idx, 3)) (hsh : sh[c0]? = some (.inl (ci, fs))) (hcl : mj_cl[ci]? = some (K.1.cls, T0, N0)) (hcat : (st.map fun v => v.category).sum ≤ 8) (k : ∀ r x', QK r x' → mj_V M sh Q x' (pc + 3) ls (r.toList ++ st)) : mj_V M sh Q x pc ls (As.reverse ++ .ref c0 :: st) := by
  intro p l e s m args below meth c D A ad cA B H locs lsA hP hS hL
  obtain ⟨⟨h1, h2, h3, h4⟩, h5, h6⟩ := hK
  have hT := B.2.2.2.2.2.2.1
  have hws : ∀ w ∈ [Cond.code K.1 K.2.1 K.2.2.1 K.2.2.2.1], ∀ (a' : Array Value) (U : State), s.WarmedH U.vm → w.before a' U = true := by
    intro w hw a' U hW
    rw [List.mem_singleton.mp hw]
    exact mj_use (hT.warm hW) h1.1 h1.2 a'
  have hpre : PreV s H K.1.cls (ad c0) (mj_Pc D A ad cA sh x (.ref c0 :: As)) (As.map (mj_v ad)) :=
    ⟨mj_Pc_blind, va_recv B.2.2.2.2.2.2.2.1 hP hcl (mj_w_at hsh), fun U hU hW => ⟨rfl, by rw [hU]; exact hP, B.2.2.2.2.2.2.go hS hU hW⟩⟩
  have hrun : va_Run p l e (mj_rm M) s m args below meth c H locs 0 0 0 0 (F0 m pc lsA ((As.reverse ++ .ref c0 :: st).map (mj_v ad))) (st.map (mj_v ad)) (mj_Qc D A ad cA sh QK (Value.ref (ad c0) :: As.map (mj_v ad)).toArray) A := by
    have hstk : (F0 m pc lsA ((As.reverse ++ .ref c0 :: st).map (mj_v ad))).stack = (As.map (mj_v ad)).reverse ++ Value.ref (ad c0) :: st.map (mj_v ad) := by
      show (As.reverse ++ .ref c0 :: st).map (mj_v ad) = _
      rw [List.map_append, List.map_reverse]
      rfl
    rcases hl with hl | ⟨h, hl⟩
    · exact va_runV (Ts := mj_tb) ⟨B.1, B.2.1, B.2.2.1, B.2.2.2.2.2.1, hT.all args⟩ (hC l D A ad cA) ⟨⟨rfl, rfl, hrm.1, hrm.2, hws, List.mem_cons_self, mj_use hT h1.1 h1.2 args, mj_use hT h2.1 h2.2 args, h3, mj_len h4, mj_use hT hl.1 hl.2 args⟩, mj_use hT h5.1 h5.2 args, mj_use hT h6.1 h6.2 args⟩ hpre rfl (by rw [List.length_map]; exact hn) hL.1 hstk (lv_room (by rw [mj_cats]; exact hcat)) hd ⟨Nat.le_refl 0, Nat.le_refl 0⟩
    · exact va_runVN (Ts := mj_tb) ⟨B.1, B.2.1, B.2.2.1, B.2.2.2.2.2.1, hT.all args⟩ (hC l D A ad cA) ⟨⟨⟨rfl, rfl, hrm.1, hrm.2, hws, List.mem_cons_self⟩, mj_use hT h1.1 h1.2 args, mj_use hT h2.1 h2.2 args, h3, mj_len h4, va_Nw.use rfl (hT.2 _ hl.1 hl.2)⟩, mj_use hT h5.1 h5.2 args, mj_use hT h6.1 h6.2 args⟩ hpre rfl (by rw [List.length_map]; exact hn) hL.1 hstk (lv_room (by rw [mj_cats]; exact hcat)) hd ⟨Nat.le_refl 0, Nat.le_refl 0⟩
  refine mj_after hrun hS (fun r x' H1 locs1 hq hP1 hS1 => ?_)
  rw [mj_map_app]
  exact k r x' hq p l e s m args below meth c D A ad cA B H1 locs1 lsA hP1 hS1 hL
theorem mj_callS {K : mj_M} {idx n : Nat} {As : List Value} {QK : Option Value → mj_X → Prop} (hC : mj_C K sh As x QK) (hK : mj_ckS K n) (hl : mj_lk M.1.cls idx K.1) (hrm : mj_rok M K) (hn : As.length = n) (hd : decode M.2.1 pc = .ok (.invokestatic idx, 3)) (hcat : (st.map fun v => v.category).sum ≤ 8) (k : ∀ r x', QK r x' → mj_V M sh Q x' (pc + 3) ls (r.toList ++ st)) : mj_V M sh Q x pc ls (As.reverse ++ st) := by
  intro p l e s m args below meth c D A ad cA B H locs lsA hP hS hL
  obtain ⟨⟨h1, h2, h3, h4⟩, h5⟩ := hK
  have hT := B.2.2.2.2.2.2.1
  have hws : ∀ w ∈ [Cond.code K.1 K.2.1 K.2.2.1 K.2.2.2.1], ∀ (a' : Array Value) (U : State), s.WarmedH U.vm → w.before a' U = true := by
    intro w hw a' U hW
    rw [List.mem_singleton.mp hw]
    exact mj_use (hT.warm hW) h1.1 h1.2 a'
  have hpre : PreS s H (mj_Pc D A ad cA sh x As) (As.map (mj_v ad)) :=
    ⟨mj_Pc_blind, fun U hU hW => ⟨rfl, by rw [hU]; exact hP, B.2.2.2.2.2.2.go hS hU hW⟩⟩
  have hrun : va_Run p l e (mj_rm M) s m args below meth c H locs 0 0 0 0 (F0 m pc lsA ((As.reverse ++ st).map (mj_v ad))) (st.map (mj_v ad)) (mj_Qc D A ad cA sh QK (As.map (mj_v ad)).toArray) A := by
    have hstk : (F0 m pc lsA ((As.reverse ++ st).map (mj_v ad))).stack = (As.map (mj_v ad)).reverse ++ st.map (mj_v ad) := by
      show (As.reverse ++ st).map (mj_v ad) = _
      rw [List.map_append, List.map_reverse]
    rcases hl with hl | ⟨h, hl⟩
    · exact va_runS (Ts := mj_tb) ⟨B.1, B.2.1, B.2.2.1, B.2.2.2.2.2.1, hT.all args⟩ (hC l D A ad cA) ⟨⟨rfl, rfl, hrm.1, hrm.2, hws, List.mem_cons_self, mj_use hT h1.1 h1.2 args, mj_use hT h2.1 h2.2 args, h3, mj_len h4, mj_use hT hl.1 hl.2 args⟩, mj_use hT h5.1 h5.2 args⟩ hpre rfl (by rw [List.length_map]; exact hn) hL.1 hstk (lv_room (by rw [mj_cats]; exact hcat)) hd ⟨Nat.le_refl 0, Nat.le_refl 0⟩
    · exact va_runSN (Ts := mj_tb) ⟨B.1, B.2.1, B.2.2.1, B.2.2.2.2.2.1, hT.all args⟩ (hC l D A ad cA) ⟨⟨⟨rfl, rfl, hrm.1, hrm.2, hws, List.mem_cons_self⟩, mj_use hT h1.1 h1.2 args, mj_use hT h2.1 h2.2 args, h3, mj_len h4, va_Nw.use rfl (hT.2 _ hl.1 hl.2)⟩, mj_use hT h5.1 h5.2 args, trivial⟩ hpre rfl (by rw [List.length_map]; exact hn) hL.1 hstk (lv_room (by rw [mj_cats]; exact hcat)) hd ⟨Nat.le_refl 0, Nat.le_refl 0⟩
  refine mj_after hrun hS (fun r x' H1 locs1 hq hP1 hS1 => ?_)
  rw [mj_map_app]
  exact k r x' hq p l e s m args below meth c D A ad cA B H1 locs1 lsA hP1 hS1 hL
/-- Math.max, Math.min -/
theorem mj_max {idx : Nat} {a b : Int32} (hl : mj_wd (.methodLink M.1.cls idx Lib.Math.max.name)) (h1 : mj_wd (.static Lib.Math.max.name)) (h2 : mj_wd (.initialized "java/lang/Math")) (h3 : mj_wd (.code Lib.Math.max.name Lib.Math.max.code 2 (some .int))) (hfr : 1 ≤ M.2.2.2.2.1) (hlo : 21 ≤ M.2.2.2.2.2) (hcat : (st.map fun v => v.category).sum ≤ 8) (hd : decode M.2.1 pc = .ok (.invokestatic idx, 3)) (k : mj_V M sh Q x (pc + 3) ls (.int (if a < b then b else a) :: st)) : mj_V M sh Q x pc ls (.int b :: .int a :: st) := by
  intro p l e s m args below meth c D A ad cA B H locs lsA hP hS hL
  have hT := B.2.2.2.2.2.2.1
  exact va_mmax B.1 B.2.1 (B.2.2.1.trans hL.1.symm) B.2.2.2.2.2.1 (mj_use hT hl.1 hl.2 args) (mj_use hT h1.1 h1.2 args) (mj_use hT h2.1 h2.2 args) (mj_use hT h3.1 h3.2 args) hfr (by rw [mj_cats]; show _ ≤ M.2.2.2.2.2; omega) (Nat.le_refl 0) (Nat.le_refl 0) hd (k p l e s m args below meth c D A ad cA B H locs lsA hP hS hL)
theorem mj_min {idx : Nat} {a b : Int32} (hl : mj_wd (.methodLink M.1.cls idx Lib.Math.min.name)) (h1 : mj_wd (.static Lib.Math.min.name)) (h2 : mj_wd (.initialized "java/lang/Math")) (h3 : mj_wd (.code Lib.Math.min.name Lib.Math.min.code 2 (some .int))) (hfr : 1 ≤ M.2.2.2.2.1) (hlo : 21 ≤ M.2.2.2.2.2) (hcat : (st.map fun v => v.category).sum ≤ 8) (hd : decode M.2.1 pc = .ok (.invokestatic idx, 3)) (k : mj_V M sh Q x (pc + 3) ls (.int (if b < a then b else a) :: st)) : mj_V M sh Q x pc ls (.int b :: .int a :: st) := by
  intro p l e s m args below meth c D A ad cA B H locs lsA hP hS hL
  have hT := B.2.2.2.2.2.2.1
  exact va_mmin B.1 B.2.1 (B.2.2.1.trans hL.1.symm) B.2.2.2.2.2.1 (mj_use hT hl.1 hl.2 args) (mj_use hT h1.1 h1.2 args) (mj_use hT h2.1 h2.2 args) (mj_use hT h3.1 h3.2 args) hfr (by rw [mj_cats]; show _ ≤ M.2.2.2.2.2; omega) (Nat.le_refl 0) (Nat.le_refl 0) hd (k p l e s m args below meth c D A ad cA B H locs lsA hP hS hL)
/-- switches -/
theorem mj_tableOut {dflt lo hi : Int} {offs : Array Int} {len : Nat} {a : Int32} {tgt : Nat} (hd : decode M.2.1 pc = .ok (.tableswitch dflt lo hi offs, len)) (h : a.toInt < lo ∨ hi < a.toInt) (ht : (pc : Int) + dflt = (tgt : Int)) (k : mj_V M sh Q x tgt ls st) : mj_V M sh Q x pc ls (.int a :: st) := by
  intro p l e s m args below meth c D A ad cA B H locs lsA hP hS hL
  exact lv_tableOut B.1 B.2.1 hd h ht (k p l e s m args below meth c D A ad cA B H locs lsA hP hS hL)
theorem mj_tableIn {dflt lo hi off : Int} {offs : Array Int} {len : Nat} {a : Int32} {tgt : Nat} (hd : decode M.2.1 pc = .ok (.tableswitch dflt lo hi offs, len)) (h1 : ¬ a.toInt < lo) (h2 : ¬ hi < a.toInt) (ho : offs[(a.toInt - lo).toNat]? = some off) (ht : (pc : Int) + off = (tgt : Int)) (k : mj_V M sh Q x tgt ls st) : mj_V M sh Q x pc ls (.int a :: st) := by
  intro p l e s m args below meth c D A ad cA B H locs lsA hP hS hL
  exact lv_tableIn B.1 B.2.1 hd h1 h2 ho ht (k p l e s m args below meth c D A ad cA B H locs lsA hP hS hL)
theorem mj_lookup {dflt : Int} {ps : Array (Int × Int)} {len : Nat} {a : Int32} {off : Int} {tgt : Nat} (hd : decode M.2.1 pc = .ok (.lookupswitch dflt ps, len)) (hp : (ps.toList.zip (ps.toList.drop 1)).all (fun (a, next) => a.1 < next.1) = true) (ho : Op.lookupswitch.offset ps.toList dflt a.toInt = off) (ht : (pc : Int) + off = (tgt : Int)) (k : mj_V M sh Q x tgt ls st) : mj_V M sh Q x pc ls (.int a :: st) := by
  intro p l e s m args below meth c D A ad cA B H locs lsA hP hS hL
  exact lv_lookup B.1 B.2.1 hd hp ho ht (k p l e s m args below meth c D A ad cA B H locs lsA hP hS hL)
/-- the static rows of Rules -/
theorem mj_sta {idx c0 : Nat} {nm : String} (hw : mj_wd (.fieldLink M.1.cls idx RX5 nm "[I")) (hc : (c0 = 100 ∧ nm = "LEAST") ∨ (c0 = 101 ∧ nm = "MOST") ∨ (c0 = 102 ∧ nm = "UNTOLD")) (hd : decode M.2.1 pc = .ok (.getstatic idx, 3)) (k : mj_V M sh Q x (pc + 3) ls (.ref c0 :: st)) : mj_V M sh Q x pc ls st := by
  intro p l e s m args below meth c D A ad cA B H locs lsA hP hS hL
  have hZ : va_Z RX5 nm "[I" (.ref (ad c0)) A s s.heap := by
    obtain ⟨z0, z1, z2⟩ := B.2.2.2.2.2.2.2.2.1
    rcases hc with ⟨rfl, rfl⟩ | ⟨rfl, rfl⟩ | ⟨rfl, rfl⟩
    · exact z0.1
    · exact z1.1
    · exact z2.1
  exact va_gets B.1 B.2.1 hZ hS B.2.2.2.2.2.1 (mj_use B.2.2.2.2.2.2.1 hw.1 hw.2 args) (fun _ h => h) hd (k p l e s m args below meth c D A ad cA B H locs lsA hP hS hL)
theorem mj_stald {c0 : Nat} {f : Nat → Int32} {i : Int32} (hc : (c0 = 100 ∧ f = mj_st0) ∨ (c0 = 101 ∧ f = mj_st1) ∨ (c0 = 102 ∧ f = mj_st2)) (hd : decode M.2.1 pc = .ok (.iaload, 1)) (j : Nat) (hj : j < 6) (hi : i = nI j) (k : mj_V M sh Q x (pc + 1) ls (.int (f j) :: st)) : mj_V M sh Q x pc ls (.int i :: .ref c0 :: st) := by
  intro p l e s m args below meth c D A ad cA B H locs lsA hP hS hL
  subst hi
  have hZ : va_T .int (ad c0) 6 (fun j => .int (f j)) A s s.heap := by
    obtain ⟨z0, z1, z2⟩ := B.2.2.2.2.2.2.2.2.1
    rcases hc with ⟨rfl, rfl⟩ | ⟨rfl, rfl⟩ | ⟨rfl, rfl⟩
    · exact z0.2
    · exact z1.2
    · exact z2.2
  exact va_ti B.1 B.2.1 hZ hS (vp_in_nI hj (by omega)) (by rw [nI_clamp (by omega)]; rfl) hd (k p l e s m args below meth c D A ad cA B H locs lsA hP hS hL)
/-- a long is put down: places i and i + 1 -/
theorem mj_lst {i : Nat} {v : Int64} (hd : decode M.2.1 pc = .ok (.lstore i, 2)) (hi : i + 1 < ls.length) (hno : ∀ j, j + 1 = i → mj_nl (ls.getD j none) = true) (k : mj_V M sh Q x (pc + 2) ((ls.set i (some (.long v))).set (i + 1) none) st) : mj_V M sh Q x pc ls (.long v :: st) := by
  intro p l e s m args below meth c D A ad cA B H locs lsA hP hS hL
  refine lv_lstore B.1 B.2.1 hd hL.has (Nat.lt_of_lt_of_le hi hL.2.2.1) rfl (fun lsB hB => k p l e s m args below meth c D A ad cA B H locs lsB hP hS ⟨hB.1, hB.2.1, by rw [List.length_set, List.length_set]; exact hL.2.2.1, fun j w hj => ?_⟩)
  by_cases h1 : j = i + 1
  · subst h1
    rw [List.getElem?_set_self (by rw [List.length_set]; exact hi)] at hj
    cases hj
  · rw [List.getElem?_set_ne (Ne.symm h1)] at hj
    by_cases h2 : j = i
    · subst h2
      rw [List.getElem?_set_self (by omega)] at hj
      cases hj
      exact hB.2.2 (j, .long v) List.mem_cons_self
    · rw [List.getElem?_set_ne (Ne.symm h2)] at hj
      refine hB.2.2 (j, mj_v ad w) (List.mem_cons_of_mem _ (List.mem_filter.mpr ⟨mj_pr_in hj, ?_⟩))
      have h3 : ¬ (j + 1 = i ∧ w.category = 2) := by
        rintro ⟨a, b⟩
        have := hno j a
        rw [List.getD_eq_getElem?_getD, hj] at this
        simp [mj_nl, b] at this
      simp only [mj_v_cat, Bool.and_eq_true, Bool.not_eq_true', beq_eq_false_iff_ne, ne_eq, h1, h2, not_false_eq_true, true_and, Bool.and_eq_false_iff]
      by_cases a : j + 1 = i
      · right
        exact fun b => h3 ⟨a, b⟩
      · left
        exact a
/-- a method's entry -/
def mj_en (av : List Value) (n : Nat) : List (Option Value) :=
  let l := av.flatMap fun v => if v.category = 2 then [some v, none] else [some v]
  l ++ List.replicate (n - l.length) none
theorem mj_en_args : ∀ (av : List Value) (ad : Nat → Nat) (i0 j : Nat) (v : Value), (av.flatMap fun v => if v.category = 2 then [some v, none] else [some v])[j]? = some (some v) → (i0 + j, mj_v ad v) ∈ lv_args i0 (av.map (mj_v ad))
  | [], _, _, _, _, h => by simp at h
  | w :: r, ad, i0, j, v, h => by
    rw [List.flatMap_cons] at h
    show _ ∈ (i0, mj_v ad w) :: lv_args (if (mj_v ad w).category = 2 then i0 + 2 else i0 + 1) (r.map (mj_v ad))
    rw [mj_v_cat]
    by_cases hc : w.category = 2
    · rw [if_pos hc] at h ⊢
      match j, h with
      | 0, h => 
        cases h
        exact List.mem_cons_self
      | 1, h => cases h
      | j + 2, h =>
        have h2 := mj_en_args r ad (i0 + 2) j v h
        rw [show i0 + (j + 2) = i0 + 2 + j from by omega]
        exact List.mem_cons_of_mem _ h2
    · rw [if_neg hc] at h ⊢
      match j, h with
      | 0, h =>
        cases h
        exact List.mem_cons_self
      | j + 1, h =>
        have h2 := mj_en_args r ad (i0 + 1) j v h
        rw [show i0 + (j + 1) = i0 + 1 + j from by omega]
        exact List.mem_cons_of_mem _ h2
theorem mj_sl_len (ad : Nat → Nat) : ∀ av : List Value, (lg_sl (av.map (mj_v ad))).length = (av.flatMap fun v => if v.category = 2 then [some v, none] else [some v]).length
  | [] => rfl
  | w :: r => by
    have h := mj_sl_len ad r
    unfold lg_sl at h ⊢
    rw [List.map_cons, List.flatMap_cons, List.flatMap_cons, List.length_append, List.length_append, h, mj_v_cat]
    by_cases hc : w.category = 2
    · rw [if_pos hc, if_pos hc]; rfl
    · rw [if_neg hc, if_neg hc]; rfl
theorem mj_start {av : List Value} (hy : plainName M.1.cls = true) (hen : mj_en av M.2.2.1 = ls) (hlen : ls.length = M.2.2.1) (k : mj_V M sh Q x 0 ls []) : mj_C M sh av x Q := by
  intro l D A ad cA
  refine Met.ofW (cc := M.2.1) (maxL := M.2.2.1) (ret := M.2.2.2.1) hy rfl ?_
  intro p e s m args below meth c s₁ B hml hv
  obtain ⟨rfl, hP, hG⟩ := hv
  have hlA : (lg_sl (av.map (mj_v ad))).length ≤ M.2.2.1 := by
    rw [mj_sl_len, ← hlen, ← hen]
    unfold mj_en
    simp only [List.length_append]
    omega
  have hl := lv_entry (av.map (mj_v ad)) (n := M.2.2.1) hlA
  rw [lg_entry_eq]
  generalize (lg_sl (av.map (mj_v ad)) ++ List.replicate (M.2.2.1 - (lg_sl (av.map (mj_v ad))).length) Slot.unset).toArray = lsA at hl ⊢
  refine k p l e s m _ below meth c D A ad cA ⟨B.exec, B.bytes, hml, B.returns, B.notSynchronized, findClass_of_methodNamed B.named, hG⟩ s.heap [] lsA hP va_S.rf ⟨hl.1, hl.2.1, Nat.le_of_eq hlen, fun i v hi => ?_⟩
  rw [← hen] at hi
  unfold mj_en at hi
  dsimp only at hi
  by_cases hb : i < (av.flatMap fun v => if v.category = 2 then [some v, none] else [some v]).length
  · rw [List.getElem?_append_left hb] at hi
    have h2 := mj_en_args av ad 0 i v hi
    rw [Nat.zero_add] at h2
    exact hl.2.2 (i, mj_v ad v) h2
  · rw [List.getElem?_append_right (by omega), List.getElem?_replicate] at hi
    split at hi <;> cases hi
theorem mj_weak {R0 R1 : Option Value → mj_X → Prop} {av : List Value} (h : mj_C M sh av x R0) (hw : ∀ r x', R0 r x' → R1 r x') : mj_C M sh av x R1 := by
  intro l D A ad cA p e ha hc hk s m args below hf hfit hP hK
  obtain ⟨k, o, h1, h2, h3, ⟨⟨r, x', e1, e2, e3⟩, e4⟩, hL⟩ := h l D A ad cA p e ha hc hk s m args below hf hfit hP hK
  exact ⟨k, o, h1, h2, h3, ⟨⟨r, x', e1, hw r x' e2, e3⟩, e4⟩, hL⟩
end MJC
