/-! THE CLAIM OUT OF ONE WALK OF THE LAW'S BODY. Your part is whole_start (and what it stands on); all else here is the same for every law, but numbers. -/
def R_law : String := "PointsOfficeLaw"
def lw_P (b : Addr) (xs : List Int32) (args : Array Value) (s : State) : Prop := args = #[.ref b] ∧ s.IntsAt b xs ∧ xs.length ≤ 2560 ∧ (Jvm.Cond.and given_1 narrow_1).before args s = true
def lw_Q (_ : Array Value) (s : State) (o : Outcome) (t : State) : Prop := o = .returned (some (.int 1)) ∧ Framed s o t [] 55 4589
def lw_Z (below : List Frame) (a : Array Value) (s : State) : State → Prop := fun t => ∃ o, t.status = .running ∧ Ended t below o ∧ lw_Q a s o t
/-- the law's own end, with 1 on the stack, nothing written that was there before, its room as the claim has it -/
theorem lw_ret {p : Program} {l : Launch} {e : Env} {s : State} {m : MethodId} {below : List Frame} {meth : Method} {c : Code} {b : Nat} (hx : p.tables.exec = Jvm.exec) (hb : c.code = code) (hr : meth.sig.returnType = ret) (hlocks : meth.locks = false) {pc : Nat} {H : Heap} {ls : Array Slot} (hdg : decode code pc = .ok (.ireturn, 1)) : W p l e room_1 s m #[Value.ref b] below meth c H [] 55 4589 (lw_Z below #[Value.ref b] s) (F0 m pc ls [.int 1]) := by
  intro T hT X
  obtain ⟨fs, hret, hrun, hended, hW, hframe⟩ := X.leave (v := some (.int 1)) (hlocks := hlocks) (fun h => by rw [hr] at h; cases h)
  have hmeth' : T.vm.method? m = some meth := X.method'
  refine ⟨T.setFrames fs, ?_, .returned (some (.int 1)), hrun, hended, rfl, ⟨_, rfl⟩, hW, hframe⟩
  jvm_step X.here [X.here.top, hx, hb, hdg, hmeth', hr, ret, narrow_b1]
  (try refine ⟨rfl, ?_⟩); (try refine ⟨rfl, ?_⟩)
  first | (intro acts; rw [hret _ acts rfl rfl rfl]) | rw [hret _ _ rfl rfl rfl]
  exact Steps.refl _
/-- what holds at the law's entry: the machine, the code, the tables' words (any of lw_tbl by 'hts w (by decide +kernel)'), the script of L ints xs at the cell b, what the Statement gives of the start (any of its parts by flat_of_before) -/
def lw_At (p : Program) (s : State) (m : MethodId) (meth : Method) (c : Code) (b L : Nat) (xs : Nat → Int32) : Prop :=
  p.tables.exec = Jvm.exec ∧ c.code = code ∧ meth.sig.returnType = ret ∧ c.maxLocals = 4 ∧ s.vm.findClass R_law = some m.cls ∧ (∀ w ∈ lw_tbl, w.before #[Value.ref b] s = true) ∧ va_X b L xs s s.heap ∧ b < s.heap.size ∧ meth.locks = false ∧ (Jvm.Cond.and given_1 narrow_1).before #[Value.ref b] s = true
/-! the law's own rows -/
abbrev mLaw : mj_M := (x, code, 4, ret, 0, 0)
/-- what holds in the law's body: the machine, and the script xs of L ints (cell 103) -/
def LB (p : Program) (s : State) (m : MethodId) (meth : Method) (c : Code) (D : va_G) (ad : Nat → Nat) (cA : ClassId) (h0 L : Nat) (xs : Nat → Int32) : Prop := gB mLaw p s m meth c D ad cA h0 0 ∧ va_X (ad 103) L xs s s.heap ∧ ad 103 < h0 ∧ s.heap.size = h0 ∧ L ≤ 2560
section LAWR
variable {p : Program} {l : Launch} {e : Env} {R : Room} {s : State} {m : MethodId} {args : Array Value} {below : List Frame} {meth : Method} {c : Code} {D : va_G} {ad : Nat → Nat} {cA : ClassId} {h0 L : Nat} {xs : Nat → Int32} {Q0 : State → Prop} {gw : List gS} {n1 n2 pc : Nat} {ls : List (Option Value)} {st : List Value}
theorem g_sld {j : Nat} (h : LB p s m meth c D ad cA h0 L xs) (hj : j < L) (hd : decode cL_law pc = .ok (.iaload, 1)) (k : gW p l e R s m args below meth c D ad cA h0 Q0 4 gw n1 n2 (pc + 1) ls (.int (xs j) :: st)) : gW p l e R s m args below meth c D ad cA h0 Q0 4 gw n1 n2 pc ls (.int (nI j) :: .ref 103 :: st) := by
  intro H locs lsA hP hS hL
  obtain ⟨B, hX, h1, h2, h3⟩ := h
  have hk := k H locs lsA hP hS hL
  refine va_sld B.1 B.2.1 hX (by rw [h2]; exact h1) (fun q => absurd h1 (Nat.not_lt.mpr q)) hS (vp_in_nI hj (by omega)) hd ?_
  rw [nI_clamp (by omega)]
  exact hk
theorem g_slen (h : LB p s m meth c D ad cA h0 L xs) (hd : decode cL_law pc = .ok (.arraylength, 1)) (k : gW p l e R s m args below meth c D ad cA h0 Q0 4 gw n1 n2 (pc + 1) ls (.int (nI L) :: st)) : gW p l e R s m args below meth c D ad cA h0 Q0 4 gw n1 n2 pc ls (.ref 103 :: st) := by
  intro H locs lsA hP hS hL
  obtain ⟨B, hX, h1, h2, h3⟩ := h
  exact va_slen B.1 B.2.1 hX (by rw [h2]; exact h1) (fun q => absurd h1 (Nat.not_lt.mpr q)) hS hd (k H locs lsA hP hS hL)
theorem g_tabIn {dflt lo hi off : Int} {offs : Array Int} {len tgt : Nat} {v : Int32} (h : LB p s m meth c D ad cA h0 L xs) (hd : decode cL_law pc = .ok (.tableswitch dflt lo hi offs, len)) (h1 : ¬ v.toInt < lo) (h2 : ¬ hi < v.toInt) (ho : offs[(v.toInt - lo).toNat]? = some off) (ht : (pc : Int) + off = (tgt : Int)) (k : gW p l e R s m args below meth c D ad cA h0 Q0 4 gw n1 n2 tgt ls st) : gW p l e R s m args below meth c D ad cA h0 Q0 4 gw n1 n2 pc ls (.int v :: st) :=
  fun H locs lsA hP hS hL => lv_tableIn h.1.1 h.1.2.1 hd h1 h2 ho ht (k H locs lsA hP hS hL)
theorem g_tabOut {dflt lo hi : Int} {offs : Array Int} {len tgt : Nat} {v : Int32} (h : LB p s m meth c D ad cA h0 L xs) (hd : decode cL_law pc = .ok (.tableswitch dflt lo hi offs, len)) (h1 : v.toInt < lo ∨ hi < v.toInt) (ht : (pc : Int) + dflt = (tgt : Int)) (k : gW p l e R s m args below meth c D ad cA h0 Q0 4 gw n1 n2 tgt ls st) : gW p l e R s m args below meth c D ad cA h0 Q0 4 gw n1 n2 pc ls (.int v :: st) :=
  fun H locs lsA hP hS hL => lv_tableOut h.1.1 h.1.2.1 hd h1 ht (k H locs lsA hP hS hL)
abbrev lawls (i : Nat) : List (Option Value) := [some (.ref 103), some (.ref 0), some (.ref 37), some (.int (nI i))]
/-- an argument: script[i + j] -/
theorem g_arg {i j : Nat} {a : Int} (h : LB p s m meth c D ad cA h0 L xs) (hj : i + j < L) (ha : Int32.ofInt a = nI j) (d0 : decode cL_law pc = .ok (.aload_n 0, 1)) (d1 : decode cL_law (pc + 1) = .ok (.iload_n 3, 1)) (d2 : decode cL_law (pc + 2) = .ok (.iconst a, 1)) (d3 : decode cL_law (pc + 3) = .ok (.iadd, 1)) (d4 : decode cL_law (pc + 4) = .ok (.iaload, 1))
    (k : gW p l e R s m args below meth c D ad cA h0 Q0 4 gw n1 n2 (pc + 5) (lawls i) (.int (xs (i + j)) :: st)) : gW p l e R s m args below meth c D ad cA h0 Q0 4 gw n1 n2 pc (lawls i) st := by
  refine g_aldn (M := mLaw) h.1 d0 rfl ?_
  refine g_ildn (M := mLaw) h.1 d1 rfl ?_
  refine g_iconst (M := mLaw) h.1 d2 ha ?_
  refine g_iadd (M := mLaw) h.1 d3 ?_
  rw [show nI i + nI j = nI (i + j) from nI_add i j]
  exact g_sld h hj d4 k
end LAWR
theorem lkL_13 : mj_lk "PointsOfficeLaw" 13 yX6_write := Or.inl ⟨List.mem_append_right _ (List.mem_of_getElem? (i := 355) (by decide +kernel)), rfl⟩
theorem lkL_17 : mj_lk "PointsOfficeLaw" 17 yX7_write := Or.inl ⟨List.mem_append_right _ (List.mem_of_getElem? (i := 773) (by decide +kernel)), rfl⟩
theorem lkL_18 : mj_lk "PointsOfficeLaw" 18 yX6_wipe := Or.inl ⟨List.mem_append_right _ (List.mem_of_getElem? (i := 359) (by decide +kernel)), rfl⟩
theorem lkL_22 : mj_lk "PointsOfficeLaw" 22 yX7_wipe := Or.inl ⟨List.mem_append_right _ (List.mem_of_getElem? (i := 782) (by decide +kernel)), rfl⟩
theorem lkL_23 : mj_lk "PointsOfficeLaw" 23 yX6_fault := Or.inl ⟨List.mem_append_right _ (List.mem_of_getElem? (i := 363) (by decide +kernel)), rfl⟩
theorem lkL_26 : mj_lk "PointsOfficeLaw" 26 yX7_fault := Or.inl ⟨List.mem_append_right _ (List.mem_of_getElem? (i := 786) (by decide +kernel)), rfl⟩
theorem lkL_27 : mj_lk "PointsOfficeLaw" 27 yX6_reason := Or.inl ⟨List.mem_append_right _ (List.mem_of_getElem? (i := 367) (by decide +kernel)), rfl⟩
theorem lkL_30 : mj_lk "PointsOfficeLaw" 30 yX7_reason := Or.inl ⟨List.mem_append_right _ (List.mem_of_getElem? (i := 824) (by decide +kernel)), rfl⟩
theorem lkL_31 : mj_lk "PointsOfficeLaw" 31 yX6_lay := Or.inl ⟨List.mem_append_right _ (List.mem_of_getElem? (i := 371) (by decide +kernel)), rfl⟩
theorem lkL_34 : mj_lk "PointsOfficeLaw" 34 yX7_lay := Or.inl ⟨List.mem_append_right _ (List.mem_of_getElem? (i := 828) (by decide +kernel)), rfl⟩
theorem lkL_35 : mj_lk "PointsOfficeLaw" 35 yX6_rule := Or.inl ⟨List.mem_append_right _ (List.mem_of_getElem? (i := 464) (by decide +kernel)), rfl⟩
theorem lkL_39 : mj_lk "PointsOfficeLaw" 39 yX7_rule := Or.inl ⟨List.mem_append_right _ (List.mem_of_getElem? (i := 832) (by decide +kernel)), rfl⟩
theorem lkL_40 : mj_lk "PointsOfficeLaw" 40 yX6_code := Or.inl ⟨List.mem_append_right _ (List.mem_of_getElem? (i := 479) (by decide +kernel)), rfl⟩
theorem lkL_43 : mj_lk "PointsOfficeLaw" 43 yX7_code := Or.inl ⟨List.mem_append_right _ (List.mem_of_getElem? (i := 847) (by decide +kernel)), rfl⟩
theorem lkL_44 : mj_lk "PointsOfficeLaw" 44 yX6_pass := Or.inl ⟨List.mem_append_right _ (List.mem_of_getElem? (i := 489) (by decide +kernel)), rfl⟩
theorem lkL_47 : mj_lk "PointsOfficeLaw" 47 yX7_pass := Or.inl ⟨List.mem_append_right _ (List.mem_of_getElem? (i := 855) (by decide +kernel)), rfl⟩
theorem lkL_48 : mj_lk "PointsOfficeLaw" 48 yX6_convict := Or.inl ⟨List.mem_append_right _ (List.mem_of_getElem? (i := 493) (by decide +kernel)), rfl⟩
theorem lkL_52 : mj_lk "PointsOfficeLaw" 52 yX7_convict := Or.inl ⟨List.mem_append_right _ (List.mem_of_getElem? (i := 860) (by decide +kernel)), rfl⟩
theorem lkL_53 : mj_lk "PointsOfficeLaw" 53 yX6_course := Or.inl ⟨List.mem_append_right _ (List.mem_of_getElem? (i := 513) (by decide +kernel)), rfl⟩
theorem lkL_56 : mj_lk "PointsOfficeLaw" 56 yX7_course := Or.inl ⟨List.mem_append_right _ (List.mem_of_getElem? (i := 872) (by decide +kernel)), rfl⟩
theorem lkL_57 : mj_lk "PointsOfficeLaw" 57 yX6_strike := Or.inl ⟨List.mem_append_right _ (List.mem_of_getElem? (i := 526) (by decide +kernel)), rfl⟩
theorem lkL_60 : mj_lk "PointsOfficeLaw" 60 yX7_strike := Or.inl ⟨List.mem_append_right _ (List.mem_of_getElem? (i := 933) (by decide +kernel)), rfl⟩
theorem lkL_61 : mj_lk "PointsOfficeLaw" 61 yX6_lower := Or.inl ⟨List.mem_append_right _ (List.mem_of_getElem? (i := 571) (by decide +kernel)), rfl⟩
theorem lkL_64 : mj_lk "PointsOfficeLaw" 64 yX7_lower := Or.inl ⟨List.mem_append_right _ (List.mem_of_getElem? (i := 962) (by decide +kernel)), rfl⟩
theorem lkL_65 : mj_lk "PointsOfficeLaw" 65 yX6_redate := Or.inl ⟨List.mem_append_right _ (List.mem_of_getElem? (i := 575) (by decide +kernel)), rfl⟩
theorem lkL_68 : mj_lk "PointsOfficeLaw" 68 yX7_redate := Or.inl ⟨List.mem_append_right _ (List.mem_of_getElem? (i := 967) (by decide +kernel)), rfl⟩
theorem lkL_69 : mj_lk "PointsOfficeLaw" 69 yX6_excuse := Or.inl ⟨List.mem_append_right _ (List.mem_of_getElem? (i := 579) (by decide +kernel)), rfl⟩
theorem lkL_72 : mj_lk "PointsOfficeLaw" 72 yX7_excuse := Or.inl ⟨List.mem_append_right _ (List.mem_of_getElem? (i := 971) (by decide +kernel)), rfl⟩
theorem lkL_73 : mj_lk "PointsOfficeLaw" 73 yX6_undo := Or.inl ⟨List.mem_append_right _ (List.mem_of_getElem? (i := 583) (by decide +kernel)), rfl⟩
theorem lkL_76 : mj_lk "PointsOfficeLaw" 76 yX7_undo := Or.inl ⟨List.mem_append_right _ (List.mem_of_getElem? (i := 975) (by decide +kernel)), rfl⟩
theorem lkL_77 : mj_lk "PointsOfficeLaw" 77 yX6_year := Or.inl ⟨List.mem_append_right _ (List.mem_of_getElem? (i := 595) (by decide +kernel)), rfl⟩
theorem lkL_80 : mj_lk "PointsOfficeLaw" 80 yX7_year := Or.inl ⟨List.mem_append_right _ (List.mem_of_getElem? (i := 979) (by decide +kernel)), rfl⟩
theorem lkL_81 : mj_lk "PointsOfficeLaw" 81 yX6_event := Or.inl ⟨List.mem_append_right _ (List.mem_of_getElem? (i := 608) (by decide +kernel)), rfl⟩
theorem lkL_84 : mj_lk "PointsOfficeLaw" 84 yX7_event := Or.inl ⟨List.mem_append_right _ (List.mem_of_getElem? (i := 987) (by decide +kernel)), rfl⟩
theorem lkL_85 : mj_lk "PointsOfficeLaw" 85 yX6_sum := Or.inl ⟨List.mem_append_right _ (List.mem_of_getElem? (i := 621) (by decide +kernel)), rfl⟩
theorem lkL_88 : mj_lk "PointsOfficeLaw" 88 yX7_sum := Or.inl ⟨List.mem_append_right _ (List.mem_of_getElem? (i := 992) (by decide +kernel)), rfl⟩
theorem lkL_89 : mj_lk "PointsOfficeLaw" 89 yX6_need := Or.inl ⟨List.mem_append_right _ (List.mem_of_getElem? (i := 626) (by decide +kernel)), rfl⟩
theorem lkL_92 : mj_lk "PointsOfficeLaw" 92 yX7_need := Or.inl ⟨List.mem_append_right _ (List.mem_of_getElem? (i := 996) (by decide +kernel)), rfl⟩
theorem lkL_93 : mj_lk "PointsOfficeLaw" 93 yX6_would := Or.inl ⟨List.mem_append_right _ (List.mem_of_getElem? (i := 631) (by decide +kernel)), rfl⟩
theorem lkL_97 : mj_lk "PointsOfficeLaw" 97 yX7_would := Or.inl ⟨List.mem_append_right _ (List.mem_of_getElem? (i := 1000) (by decide +kernel)), rfl⟩
theorem lkL_98 : mj_lk "PointsOfficeLaw" 98 yX6_banned := Or.inl ⟨List.mem_append_right _ (List.mem_of_getElem? (i := 635) (by decide +kernel)), rfl⟩
theorem lkL_101 : mj_lk "PointsOfficeLaw" 101 yX7_banned := Or.inl ⟨List.mem_append_right _ (List.mem_of_getElem? (i := 1004) (by decide +kernel)), rfl⟩
theorem lkL_102 : mj_lk "PointsOfficeLaw" 102 yX6_days := Or.inl ⟨List.mem_append_right _ (List.mem_of_getElem? (i := 639) (by decide +kernel)), rfl⟩
theorem lkL_105 : mj_lk "PointsOfficeLaw" 105 yX7_days := Or.inl ⟨List.mem_append_right _ (List.mem_of_getElem? (i := 1009) (by decide +kernel)), rfl⟩
theorem lkL_106 : mj_lk "PointsOfficeLaw" 106 yX6_free := Or.inl ⟨List.mem_append_right _ (List.mem_of_getElem? (i := 643) (by decide +kernel)), rfl⟩
theorem lkL_109 : mj_lk "PointsOfficeLaw" 109 yX7_free := Or.inl ⟨List.mem_append_right _ (List.mem_of_getElem? (i := 1013) (by decide +kernel)), rfl⟩
theorem lkL_110 : mj_lk "PointsOfficeLaw" 110 yX6_ban := Or.inl ⟨List.mem_append_right _ (List.mem_of_getElem? (i := 648) (by decide +kernel)), rfl⟩
theorem lkL_113 : mj_lk "PointsOfficeLaw" 113 yX7_ban := Or.inl ⟨List.mem_append_right _ (List.mem_of_getElem? (i := 1017) (by decide +kernel)), rfl⟩
theorem lkL_114 : mj_lk "PointsOfficeLaw" 114 yX6_seen := Or.inl ⟨List.mem_append_right _ (List.mem_of_getElem? (i := 664) (by decide +kernel)), rfl⟩
theorem lkL_117 : mj_lk "PointsOfficeLaw" 117 yX7_seen := Or.inl ⟨List.mem_append_right _ (List.mem_of_getElem? (i := 1026) (by decide +kernel)), rfl⟩
theorem lkL_118 : mj_lk "PointsOfficeLaw" 118 yX6_count := Or.inl ⟨List.mem_append_right _ (List.mem_of_getElem? (i := 672) (by decide +kernel)), rfl⟩
theorem lkL_121 : mj_lk "PointsOfficeLaw" 121 yX7_count := Or.inl ⟨List.mem_append_right _ (List.mem_of_getElem? (i := 1035) (by decide +kernel)), rfl⟩
