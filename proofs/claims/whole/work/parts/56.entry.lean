/-! the law from its entry -/
abbrev lw_fl : List Cond := flatC (Jvm.Cond.and given_1 narrow_1)
abbrev tmS : Term := .field (.string "PointsOffice" 56) "java/lang/String" "value" "[B"
abbrev tmR (n : String) : Term := .static "PointsOffice$Rules" n "[I"
theorem ws_b : ∀ j, j < 46 → Cond.eq (.elem tmS (.int (Int32.ofNat j))) (.int (txB.getD j 0)) ∈ lw_fl := by decide +kernel
theorem ws_s : (Cond.exactly (.string "PointsOffice" 56) "java/lang/String" ∈ lw_fl ∧ Cond.eq (.field (.string "PointsOffice" 56) "java/lang/String" "coder" "B") (.int 0) ∈ lw_fl) ∧ Cond.arrayOf tmS .byte ∈ lw_fl ∧ Cond.eq (.length tmS) (.int (Int32.ofNat 46)) ∈ lw_fl := by decide +kernel
theorem ws_0 : (Cond.arrayOf (tmR "LEAST") .int ∈ lw_fl ∧ Cond.eq (.length (tmR "LEAST")) (.int (Int32.ofNat 6)) ∈ lw_fl) ∧ ∀ j, j < 6 → Cond.eq (.elem (tmR "LEAST") (.int (Int32.ofNat j))) (.int (mj_st0 j)) ∈ lw_fl := by decide +kernel
theorem ws_1 : (Cond.arrayOf (tmR "MOST") .int ∈ lw_fl ∧ Cond.eq (.length (tmR "MOST")) (.int (Int32.ofNat 6)) ∈ lw_fl) ∧ ∀ j, j < 6 → Cond.eq (.elem (tmR "MOST") (.int (Int32.ofNat j))) (.int (mj_st1 j)) ∈ lw_fl := by decide +kernel
theorem ws_2 : (Cond.arrayOf (tmR "UNTOLD") .int ∈ lw_fl ∧ Cond.eq (.length (tmR "UNTOLD")) (.int (Int32.ofNat 6)) ∈ lw_fl) ∧ ∀ j, j < 6 → Cond.eq (.elem (tmR "UNTOLD") (.int (Int32.ofNat j))) (.int (mj_st2 j)) ∈ lw_fl := by decide +kernel
theorem ws_c : Cond.eq (.static "java/lang/String" "COMPACT_STRINGS" "Z") (.int 1) ∈ lw_fl ∧ Cond.isRef (.static "jdk/internal/util/Preconditions" "SIOOBE_FORMATTER" "Ljava/util/function/BiFunction;") ∈ lw_fl := by decide +kernel
theorem wl_r : Cond.stringRef "PointsOffice" 56 "w060;l12;b10;m150;s120090;k300;k600;k405;k920;" ∈ lw_tbl := List.mem_append_right _ (List.mem_of_getElem? (i := 219) (by decide +kernel))
theorem wl_c : Cond.laysStatic "java/lang/String" "COMPACT_STRINGS" "Z" ∈ lw_tbl := List.mem_append_right _ (List.mem_of_getElem? (i := 229) (by decide +kernel))
theorem wl_f : Cond.laysStatic "jdk/internal/util/Preconditions" "SIOOBE_FORMATTER" "Ljava/util/function/BiFunction;" ∈ lw_tbl := List.mem_append_right _ (List.mem_of_getElem? (i := 245) (by decide +kernel))
theorem wl_2 : Cond.laysStatic "PointsOffice$Rules" "UNTOLD" "[I" ∈ lw_tbl := List.mem_append_right _ (List.mem_of_getElem? (i := 281) (by decide +kernel))
theorem wl_0 : Cond.laysStatic "PointsOffice$Rules" "LEAST" "[I" ∈ lw_tbl := List.mem_append_right _ (List.mem_of_getElem? (i := 306) (by decide +kernel))
theorem wl_1 : Cond.laysStatic "PointsOffice$Rules" "MOST" "[I" ∈ lw_tbl := List.mem_append_right _ (List.mem_of_getElem? (i := 308) (by decide +kernel))
theorem wi_r : Cond.initialized "PointsOffice$Rules" ∈ lw_tbl := List.mem_append_right _ (List.mem_of_getElem? (i := 3) (by decide +kernel))
theorem wi_s : Cond.initialized "java/lang/String" ∈ lw_tbl := List.mem_append_right _ (List.mem_of_getElem? (i := 8) (by decide +kernel))
theorem wi_p : Cond.initialized "jdk/internal/util/Preconditions" ∈ lw_tbl := List.mem_append_right _ (List.mem_of_getElem? (i := 10) (by decide +kernel))
section LAWZ
variable {s : State} {A : Array Value}
theorem lz_T (hts : ∀ w ∈ lw_tbl, w.before A s = true) : mj_T s := by
  refine ⟨fun w hw => word_at (State.WarmedH.refl s) (good_of_word (List.mem_filter.mp hw).2) (hts w (List.mem_filter.mp hw).1), fun w hw hn => ?_⟩
  have h := hts w hw
  cases w <;> first | exact va_Nw.of rfl h | cases hn
/-- a static array of ints -/
theorem lz_A {n : String} {f : Nat → Int32} (hts : ∀ w ∈ lw_tbl, w.before A s = true) (hs : ∀ w ∈ lw_fl, w.before A s = true) (hl : Cond.laysStatic "PointsOffice$Rules" n "[I" ∈ lw_tbl) (h : (Cond.arrayOf (tmR n) .int ∈ lw_fl ∧ Cond.eq (.length (tmR n)) (.int (Int32.ofNat 6)) ∈ lw_fl) ∧ ∀ j, j < 6 → Cond.eq (.elem (tmR n) (.int (Int32.ofNat j))) (.int (f j)) ∈ lw_fl) : ∃ t : Nat, va_Z "PointsOffice$Rules" n "[I" (.ref t) (gA s.heap.size) s s.heap ∧ va_T .int t 6 (fun j => .int (f j)) (gA s.heap.size) s s.heap := by
  have hA : ∀ a : Nat, a < s.heap.size → ¬ gA s.heap.size a := fun a h q => absurd h (Nat.not_lt.mpr q)
  obtain ⟨t, ht, hT⟩ := va_Tof (tm := tmR n) (ty := .int) (N := 6) (f := fun j => .int (f j)) (A := gA s.heap.size) (by decide) (hs _ h.1.1) (va_eqt (hs _ h.1.2)) (fun j hj => va_eqt (hs _ (h.2 j hj))) hA
  exact ⟨t, va_Zof (hts _ hl) (hts _ wi_r) ht hA, hT⟩
theorem lz_S (hts : ∀ w ∈ lw_tbl, w.before A s = true) (hs : ∀ w ∈ lw_fl, w.before A s = true) : ∃ a v : Nat, vk_S 1 [46] [txB] (fun _ => a) (fun _ => v) (gA s.heap.size) s s.heap ∧ vk_R "PointsOffice" 56 "w060;l12;b10;m150;s120090;k300;k600;k405;k920;" a s := by
  have hA : ∀ a : Nat, a < s.heap.size → ¬ gA s.heap.size a := fun a h q => absurd h (Nat.not_lt.mpr q)
  have z : ∀ i, i < 1 → i = 0 := fun i h => by omega
  obtain ⟨aK, aV, h1, h2⟩ := vk_Sof (args := A) (s := s) (N := 1) (tm := fun _ => .string "PointsOffice" 56) (len := [46]) (byt := [txB]) (A := gA s.heap.size) (fun i hi => by rw [z i hi]; decide) (fun i hi => hs _ ws_s.1.1) (fun i hi => hs _ ws_s.1.2) (fun i hi => hs _ ws_s.2.1) (fun i hi => by rw [z i hi]; exact hs _ ws_s.2.2) (fun i hi j hj => by rw [z i hi] at hj ⊢; exact hs _ (ws_b j hj)) (fun i j hi hj h => absurd ((z i hi).trans (z j hj).symm) h) hA
  refine ⟨aK 0, aV 0, ⟨fun i hi => ?_, fun i j hi hj _ => (z i hi).trans (z j hj).symm⟩, vk_R.of (A := A) (hts _ wl_r) (h2 0 (by decide))⟩
  rw [z i hi]
  exact h1.1 0 (by decide)
theorem lz_C (hts : ∀ w ∈ lw_tbl, w.before A s = true) (hs : ∀ w ∈ lw_fl, w.before A s = true) : va_Z "java/lang/String" "COMPACT_STRINGS" "Z" (.int 1) (gA s.heap.size) s s.heap :=
  va_Zof (hts _ wl_c) (hts _ wi_s) (va_eqi (hs _ ws_c.1)) (fun a h q => absurd h (Nat.not_lt.mpr q))
theorem lz_F (hts : ∀ w ∈ lw_tbl, w.before A s = true) (hs : ∀ w ∈ lw_fl, w.before A s = true) : ∃ t : Nat, va_Z "jdk/internal/util/Preconditions" "SIOOBE_FORMATTER" "Ljava/util/function/BiFunction;" (.ref t) (gA s.heap.size) s s.heap ∨ va_Z "jdk/internal/util/Preconditions" "SIOOBE_FORMATTER" "Ljava/util/function/BiFunction;" .null (gA s.heap.size) s s.heap := by
  have hA : ∀ a : Nat, a < s.heap.size → ¬ gA s.heap.size a := fun a h q => absurd h (Nat.not_lt.mpr q)
  obtain ⟨v, hv, hr⟩ := Cond.isRef_spec (args := A) (first := s) (o := none) (s := s) (idx := []) (hs _ ws_c.2)
  have key := va_Zof (A := gA s.heap.size) (hts _ wl_f) (hts _ wi_p) hv hA
  cases v with
  | ref t => exact ⟨t, Or.inl key⟩
  | null => exact ⟨0, Or.inr key⟩
  | _ => cases hr
theorem lz_K (hT : mj_T s) : ∃ (D : va_G) (cA : ClassId), va_K D mj_cl [(cA, .int)] s := by
  obtain ⟨c0, i0, h0⟩ := u_known (C := RX0) (T := TX0) (N := 8) (n := 8) (hT.all #[]) inX0 (mj_use hT cnX0.1 cnX0.2 #[])
  obtain ⟨c1, i1, h1⟩ := u_known (C := RX1) (T := TX1) (N := 7) (n := 7) (hT.all #[]) inX1 (mj_use hT cnX1.1 cnX1.2 #[])
  obtain ⟨c2, i2, h2⟩ := u_known (C := RX2) (T := TX2) (N := 13) (n := 13) (hT.all #[]) inX2 (mj_use hT cnX2.1 cnX2.2 #[])
  obtain ⟨c3, i3, h3⟩ := u_known (C := RX3) (T := TX3) (N := 4) (n := 4) (hT.all #[]) inX3 (mj_use hT cnX3.1 cnX3.2 #[])
  obtain ⟨c4, i4, h4⟩ := u_known (C := RX4) (T := TX4) (N := 5) (n := 5) (hT.all #[]) inX4 (mj_use hT cnX4.1 cnX4.2 #[])
  obtain ⟨c5, i5, h5⟩ := u_known (C := RX5) (T := TX5) (N := 4) (n := 4) (hT.all #[]) inX5 (mj_use hT cnX5.1 cnX5.2 #[])
  obtain ⟨c6, i6, h6⟩ := u_known (C := RX6) (T := TX6) (N := 8) (n := 8) (hT.all #[]) inX6 (mj_use hT cnX6.1 cnX6.2 #[])
  obtain ⟨c7, i7, h7⟩ := u_known (C := RX7) (T := TX7) (N := 26) (n := 26) (hT.all #[]) inX7 (mj_use hT cnX7.1 cnX7.2 #[])
  obtain ⟨cA, kA, comp, e1, e2, e3⟩ := Cond.arrayClass_spec (args := #[]) (first := s) (o := none) (s := s) (idx := []) (mj_use hT wA.1 wA.2 #[])
  refine ⟨(fun k => [c0, c1, c2, c3, c4, c5, c6, c7].getD k c0, fun k => [i0, i1, i2, i3, i4, i5, i6, i7].getD k i0), cA, fun k q hq => ?_, fun k q hq => ?_⟩
  · match k, hq with
    | 0, hq => cases hq; exact h0
    | 1, hq => cases hq; exact h1
    | 2, hq => cases hq; exact h2
    | 3, hq => cases hq; exact h3
    | 4, hq => cases hq; exact h4
    | 5, hq => cases hq; exact h5
    | 6, hq => cases hq; exact h6
    | 7, hq => cases hq; exact h7
    | k + 8, hq => simp [mj_cl] at hq
  · match k, hq with
    | 0, hq => cases hq; exact ⟨fun n z => ⟨fun k h => (by cases h), kA, e2, comp, e3⟩, e1⟩
    | k + 1, hq => simp at hq
end LAWZ
section LAWE
variable {p : Program} {l : Launch} {e : Env} {s : State} {m : MethodId} {args : Array Value} {below : List Frame} {meth : Method} {c : Code} {D : va_G} {ad : Nat → Nat} {cA : ClassId} {h0 L : Nat} {xs : Nat → Int32} {Q0 : State → Prop}
theorem whole_g2 {pre : List gS} {QX : mj_X → Prop} (h : LB p s m meth c D ad cA h0 L xs) (e37 : pre.length = 37) (n7 : gC mX7_init 17 3190 (gmw pre [.int 0, .null, .null, .null, .int 0, .int 0, .int 0, .null, .null, .null, .int 0, .null, .null, .int 0, .int 0, .int 0, .null, .null, .null, .int 0, .null, .null, .null, .null, .null, .null] []) [.ref 37] (fun g => ∃ z, QX z ∧ g = g_of z (shX ++ shM))) (nx : ∀ z, QX z → gW p l e room_1 s m args below meth c D ad cA h0 Q0 4 (g_of z (shX ++ shM)) 55 4589 18 (lawls 0) []) : gW p l e room_1 s m args below meth c D ad cA h0 Q0 4 pre 37 1373 8 [some (.ref 103), some (.ref 0), none, none] [] := by
  have e38 : (gmw pre [.int 0, .null, .null, .null, .int 0, .int 0, .int 0, .null, .null, .null, .int 0, .null, .null, .int 0, .int 0, .int 0, .null, .null, .null, .int 0, .null, .null, .null, .null, .null, .null] []).length = 38 := gmw_len e37 rfl
  refine g_new (M := mLaw) (ci := 7) (vs := [.int 0, .null, .null, .null, .int 0, .int 0, .int 0, .null, .null, .null, .int 0, .null, .null, .int 0, .int 0, .int 0, .null, .null, .null, .int 0, .null, .null, .null, .null, .null, .null]) h.1 (by rw [e37]; decide) (by rw [e37]) rfl inX7 tyX7 tyX7_ok (fun j hj => by rcases (show j = 0 ∨ j = 1 ∨ j = 2 ∨ j = 3 ∨ j = 4 ∨ j = 5 ∨ j = 6 ∨ j = 7 ∨ j = 8 ∨ j = 9 ∨ j = 10 ∨ j = 11 ∨ j = 12 ∨ j = 13 ∨ j = 14 ∨ j = 15 ∨ j = 16 ∨ j = 17 ∨ j = 18 ∨ j = 19 ∨ j = 20 ∨ j = 21 ∨ j = 22 ∨ j = 23 ∨ j = 24 ∨ j = 25 by omega) with rfl | rfl | rfl | rfl | rfl | rfl | rfl | rfl | rfl | rfl | rfl | rfl | rfl | rfl | rfl | rfl | rfl | rfl | rfl | rfl | rfl | rfl | rfl | rfl | rfl | rfl <;> rfl) (fun _ => rfl) clL_10 cnX7 czX7 (Nat.le_of_ble_eq_true rfl) (Nat.le_of_ble_eq_true rfl) dL_law_8 ?_
  rw [e37]
  refine g_dupr (M := mLaw) h.1 dL_law_11 ?_
  refine g_cw (gw' := gmw pre [.int 0, .null, .null, .null, .int 0, .int 0, .int 0, .null, .null, .null, .int 0, .null, .null, .int 0, .int 0, .int 0, .null, .null, .null, .int 0, .null, .null, .null, .null, .null, .null] []) rfl ?_
  refine g_callI (M := mLaw) (K := mX7_init) (c1 := 17) (c2 := 3190) (c0 := 37) (As := []) (st := [.ref 37]) h.1 (by rw [e38]; decide) (by rw [e38]) n7 ckX7_init ciX7_init rfl rfl lkL_12 ⟨Nat.le_of_ble_eq_true rfl, Nat.le_of_ble_eq_true rfl⟩ ⟨Nat.le_of_ble_eq_true rfl, Nat.le_of_ble_eq_true rfl⟩ rfl dL_law_12 (by decide) (fun gw2 q => ?_)
  obtain ⟨z, hz, q1⟩ := q
  refine g_cw q1 ?_
  refine g_astn (M := mLaw) h.1 dL_law_15 (by decide) (fun j hj => by cases hj; rfl) ?_
  refine g_iconst (M := mLaw) (v := nI 0) h.1 dL_law_16 (by decide) ?_
  refine g_istn (M := mLaw) h.1 dL_law_17 (by decide) (fun j hj => by cases hj; rfl) ?_
  exact nx z hz
set_option maxRecDepth 100000 in
theorem whole_g (h : LB p s m meth c D ad cA h0 L xs) (fin : ∀ (gw : List gS) (ls : List (Option Value)), gW p l e room_1 s m args below meth c D ad cA h0 Q0 4 gw 55 4589 907 ls [.int 1]) : gW p l e room_1 s m args below meth c D ad cA h0 Q0 4 [] 0 0 0 [some (.ref 103), none, none, none] [] := by
  refine g_new (M := mLaw) (ci := 6) (vs := [.null, .null, .null, .null, .null, .null, .null, .int 0]) h.1 (by decide) rfl rfl inX6 tyX6 tyX6_ok (fun j hj => by rcases (show j = 0 ∨ j = 1 ∨ j = 2 ∨ j = 3 ∨ j = 4 ∨ j = 5 ∨ j = 6 ∨ j = 7 by omega) with rfl | rfl | rfl | rfl | rfl | rfl | rfl | rfl <;> rfl) (fun _ => rfl) clL_7 cnX6 czX6 (Nat.le_of_ble_eq_true rfl) (Nat.le_of_ble_eq_true rfl) dL_law_0 ?_
  refine g_dupr (M := mLaw) h.1 dL_law_3 ?_
  refine g_callI (M := mLaw) (c0 := 0) (As := []) (st := [.ref 0]) h.1 (by decide) rfl n6 ckX6_init ciX6_init rfl rfl lkL_9 ⟨Nat.le_of_ble_eq_true rfl, Nat.le_of_ble_eq_true rfl⟩ ⟨Nat.le_of_ble_eq_true rfl, Nat.le_of_ble_eq_true rfl⟩ rfl dL_law_4 (by decide) (fun gw1 q => ?_)
  obtain ⟨y, hy, q1⟩ := q
  refine g_cw q1 ?_
  refine g_astn (M := mLaw) h.1 dL_law_7 (by decide) (fun j hj => by cases hj; rfl) ?_
  exact whole_g2 (pre := g_of y shX) h g_of_len (n7 y) (fun z hz => L_loop h fin (L + 11) 0 z (by omega) (by omega) (Inv_0 hy hz))
end LAWE
/-- the places of cells: 100 to 106 lie ahead of the law -/
def lw_ad (h0 a0 a1 a2 b a4 a5 a6 : Nat) (k : Nat) : Nat := if k < 100 then h0 + k else [a0, a1, a2, b, a4, a5, a6].getD (k - 100) 0
/-- from the entry, for every script of at most 2560 ints, the law comes to its end with true -/
theorem whole_start {p : Program} {e : Env} {s : State} {m : MethodId} {below : List Frame} {meth : Method} {c : Code} (l : Launch) (hflags : l.flags = flags0) {b L : Nat} {xs : Nat → Int32} (hL : L ≤ 2560) (C0 : lw_At p s m meth c b L xs) : W p l e room_1 s m #[Value.ref b] below meth c s.heap [] 0 0 (lw_Z below #[Value.ref b] s) (entryFrame m ([Value.ref b] : List Value).toArray 4) := by
  obtain ⟨hx, hb, hr, hml, hown, hts, hX, hbl, hlocks, hgv⟩ := id C0
  have hs : ∀ w ∈ lw_fl, w.before #[Value.ref b] s = true := flat_of_before _ hgv
  have hT := lz_T hts
  obtain ⟨D, cA, hK⟩ := lz_K hT
  obtain ⟨a0, z0, t0⟩ := lz_A hts hs wl_0 ws_0
  obtain ⟨a1, z1, t1⟩ := lz_A hts hs wl_1 ws_1
  obtain ⟨a2, z2, t2⟩ := lz_A hts hs wl_2 ws_2
  obtain ⟨a4, a5, hS1, hS2⟩ := lz_S hts hs
  have hC := lz_C hts hs
  obtain ⟨a6, hF⟩ := lz_F hts hs
  have hG : gG D (lw_ad s.heap.size a0 a1 a2 b a4 a5 a6) cA s.heap.size s := ⟨hT, hK, ⟨⟨⟨z0, t0⟩, ⟨z1, t1⟩, ⟨z2, t2⟩⟩, hS1, hC, hF, hS2⟩, fun k hk => if_pos hk⟩
  have hB : gB mLaw p s m meth c D (lw_ad s.heap.size a0 a1 a2 b a4 a5 a6) cA s.heap.size 0 := ⟨hx, hb, hml, hr, hlocks, hown, hG, rfl⟩
  have hLB : LB p s m meth c D (lw_ad s.heap.size a0 a1 a2 b a4 a5 a6) cA s.heap.size L xs := ⟨hB, hX, hbl, rfl, hL⟩
  have hl := lv_entry ([.ref b]) (n := 4) (Nat.le_of_ble_eq_true rfl)
  rw [lg_entry_eq]
  generalize (lg_sl ([.ref b]) ++ List.replicate (4 - (lg_sl ([.ref b])).length) Slot.unset).toArray = lsA at hl ⊢
  have hl : lv_has lsA 4 [(0, .ref b)] := hl
  refine whole_g hLB (fun gw ls H locs lsB hP hS hL => va_forget (fun q hq => hS.2.2 q hq) (lw_ret hx hb hr hlocks dL_law_907)) s.heap [] lsA (fun k q hk => by cases hk) va_S.rf ⟨hl.1, hl.2.1, Nat.le_refl 4, fun i v hi => ?_⟩
  match i, hi with
  | 0, hi => cases hi; exact hl.2.2 (0, .ref b) List.mem_cons_self
  | 1, hi => cases hi
  | 2, hi => cases hi
  | 3, hi => cases hi
  | k + 4, hi => cases hi
