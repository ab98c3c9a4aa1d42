/-! the law's loop -/
section LAWL
variable {p : Program} {l : Launch} {e : Env} {s : State} {m : MethodId} {args : Array Value} {below : List Frame} {meth : Method} {c : Code} {D : va_G} {ad : Nat → Nat} {cA : ClassId} {h0 L : Nat} {xs : Nat → Int32} {Q0 : State → Prop}
theorem lw_5 {i L : Nat} (hL : L ≤ 2560) (hi : i ≤ L + 5) : (nI L - 5 < nI i) ↔ L < i + 5 := by
  rw [Int32.lt_iff_toInt_lt, Int32.toInt_sub, nI_toInt (n := L) (by omega), nI_toInt (n := i) (by omega), tl_5]
  simp only [Int.bmod_def]
  omega
theorem L_sw {i : Nat} {x0 : mj_X} (h : LB p s m meth c D ad cA h0 L xs) (hi : i + 5 ≤ L) (hI : Inv x0) (nx : ∀ z : mj_X, Inv z → gW p l e room_1 s m args below meth c D ad cA h0 Q0 4 (g_of z (shX ++ shM)) 55 4589 900 (lawls i) []) (v : Int32) (n : Nat) (hv : v = nI n) (hn : n < 32) : gW p l e room_1 s m args below meth c D ad cA h0 Q0 4 (g_of x0 (shX ++ shM)) 55 4589 32 (lawls i) [.int v] := by
  subst hv
  by_cases h26 : 26 ≤ n
  · exact g_tabOut (tgt := 900) h dL_law_32 (Or.inr (by rw [nI_toInt (by omega)]; omega)) rfl (nx x0 hI)
  rcases (show n = 0 ∨ n = 1 ∨ n = 2 ∨ n = 3 ∨ n = 4 ∨ n = 5 ∨ n = 6 ∨ n = 7 ∨ n = 8 ∨ n = 9 ∨ n = 10 ∨ n = 11 ∨ n = 12 ∨ n = 13 ∨ n = 14 ∨ n = 15 ∨ n = 16 ∨ n = 17 ∨ n = 18 ∨ n = 19 ∨ n = 20 ∨ n = 21 ∨ n = 22 ∨ n = 23 ∨ n = 24 ∨ n = 25 by omega) with rfl | rfl | rfl | rfl | rfl | rfl | rfl | rfl | rfl | rfl | rfl | rfl | rfl | rfl | rfl | rfl | rfl | rfl | rfl | rfl | rfl | rfl | rfl | rfl | rfl | rfl
  · exact g_tabIn (off := 120) (tgt := 152) h dL_law_32 (by decide) (by decide) rfl rfl (L_0 h hi hI nx)
  · exact g_tabIn (off := 143) (tgt := 175) h dL_law_32 (by decide) (by decide) rfl rfl (L_1 h hi hI nx)
  · exact g_tabIn (off := 156) (tgt := 188) h dL_law_32 (by decide) (by decide) rfl rfl (L_2 h hi hI nx)
  · exact g_tabIn (off := 169) (tgt := 201) h dL_law_32 (by decide) (by decide) rfl rfl (L_3 h hi hI nx)
  · exact g_tabIn (off := 182) (tgt := 214) h dL_law_32 (by decide) (by decide) rfl rfl (L_4 h hi hI nx)
  · exact g_tabIn (off := 195) (tgt := 227) h dL_law_32 (by decide) (by decide) rfl rfl (L_5 h hi hI nx)
  · exact g_tabIn (off := 228) (tgt := 260) h dL_law_32 (by decide) (by decide) rfl rfl (L_6 h hi hI nx)
  · exact g_tabIn (off := 261) (tgt := 293) h dL_law_32 (by decide) (by decide) rfl rfl (L_7 h hi hI nx)
  · exact g_tabIn (off := 284) (tgt := 316) h dL_law_32 (by decide) (by decide) rfl rfl (L_8 h hi hI nx)
  · exact g_tabIn (off := 337) (tgt := 369) h dL_law_32 (by decide) (by decide) rfl rfl (L_9 h hi hI nx)
  · exact g_tabIn (off := 370) (tgt := 402) h dL_law_32 (by decide) (by decide) rfl rfl (L_10 h hi hI nx)
  · exact g_tabIn (off := 393) (tgt := 425) h dL_law_32 (by decide) (by decide) rfl rfl (L_11 h hi hI nx)
  · exact g_tabIn (off := 426) (tgt := 458) h dL_law_32 (by decide) (by decide) rfl rfl (L_12 h hi hI nx)
  · exact g_tabIn (off := 459) (tgt := 491) h dL_law_32 (by decide) (by decide) rfl rfl (L_13 h hi hI nx)
  · exact g_tabIn (off := 482) (tgt := 514) h dL_law_32 (by decide) (by decide) rfl rfl (L_14 h hi hI nx)
  · exact g_tabIn (off := 495) (tgt := 527) h dL_law_32 (by decide) (by decide) rfl rfl (L_15 h hi hI nx)
  · exact g_tabIn (off := 528) (tgt := 560) h dL_law_32 (by decide) (by decide) rfl rfl (L_16 h hi hI nx)
  · exact g_tabIn (off := 561) (tgt := 593) h dL_law_32 (by decide) (by decide) rfl rfl (L_17 h hi hI nx)
  · exact g_tabIn (off := 594) (tgt := 626) h dL_law_32 (by decide) (by decide) rfl rfl (L_18 h hi hI nx)
  · exact g_tabIn (off := 617) (tgt := 649) h dL_law_32 (by decide) (by decide) rfl rfl (L_19 h hi hI nx)
  · exact g_tabIn (off := 660) (tgt := 692) h dL_law_32 (by decide) (by decide) rfl rfl (L_20 h hi hI nx)
  · exact g_tabIn (off := 693) (tgt := 725) h dL_law_32 (by decide) (by decide) rfl rfl (L_21 h hi hI nx)
  · exact g_tabIn (off := 736) (tgt := 768) h dL_law_32 (by decide) (by decide) rfl rfl (L_22 h hi hI nx)
  · exact g_tabIn (off := 759) (tgt := 791) h dL_law_32 (by decide) (by decide) rfl rfl (L_23 h hi hI nx)
  · exact g_tabIn (off := 802) (tgt := 834) h dL_law_32 (by decide) (by decide) rfl rfl (L_24 h hi hI nx)
  · exact g_tabIn (off := 845) (tgt := 877) h dL_law_32 (by decide) (by decide) rfl rfl (L_25 h hi hI nx)
theorem L_loop (h : LB p s m meth c D ad cA h0 L xs) (fin : ∀ (gw : List gS) (ls : List (Option Value)), gW p l e room_1 s m args below meth c D ad cA h0 Q0 4 gw 55 4589 907 ls [.int 1]) : ∀ (f i : Nat) (x0 : mj_X), L + 10 < i + f → i ≤ L + 5 → Inv x0 → gW p l e room_1 s m args below meth c D ad cA h0 Q0 4 (g_of x0 (shX ++ shM)) 55 4589 18 (lawls i) [] := by
  intro f
  induction f with
  | zero => intro i x0 h1 h2; omega
  | succ f ih =>
    intro i x0 h1 h2 hI
    have hL : L ≤ 2560 := h.2.2.2.2
    refine g_ildn (M := mLaw) h.1 dL_law_18 rfl ?_
    refine g_aldn (M := mLaw) h.1 dL_law_19 rfl ?_
    refine g_slen h dL_law_20 ?_
    refine g_iconst (M := mLaw) (v := 5) h.1 dL_law_21 (by decide) ?_
    refine g_isub (M := mLaw) h.1 dL_law_22 ?_
    refine g_ic_gt (M := mLaw) (tgt := 906) h.1 dL_law_23 rfl (fun q => ?_) (fun q => ?_)
    · refine g_iconst (M := mLaw) (v := 1) h.1 dL_law_906 (by decide) ?_
      exact fin _ _
    · rw [lw_5 hL h2] at q
      refine g_aldn (M := mLaw) h.1 dL_law_26 rfl ?_
      refine g_ildn (M := mLaw) h.1 dL_law_27 rfl ?_
      refine g_sld h (by omega) dL_law_28 ?_
      refine g_bipush (M := mLaw) (v := 31) h.1 dL_law_29 (by decide) ?_
      refine g_iand (M := mLaw) h.1 dL_law_31 ?_
      obtain ⟨n, hn, e⟩ := pk_andE (xs i) (m := 31) 5 (by decide)
      refine L_sw h (by omega) hI (fun z hz => ?_) _ n e hn
      refine g_iinc (M := mLaw) (v := nI i) (k1 := nI 5) h.1 dL_law_900 (by decide) rfl (fun j hj => by cases hj; rfl) ?_
      refine g_goto (M := mLaw) (tgt := 18) h.1 dL_law_903 rfl ?_
      rw [show nI i + nI 5 = nI (i + 5) from nI_add i 5]
      exact ih (i + 5) z (by omega) (by omega) hz
end LAWL
