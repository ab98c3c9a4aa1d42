section MJV
variable {M : mj_M} {sh : List mj_S} {Q : Option Value → mj_X → Prop} {x : mj_X} {pc : Nat} {ls : List (Option Value)} {st : List Value}
theorem mj_iconst {n : Int} {v : Int32} (hd : decode M.2.1 pc = .ok (.iconst n, 1)) (hv : Int32.ofInt n = v) (k : mj_V M sh Q x (pc + 1) ls (.int v :: st)) : mj_V M sh Q x pc ls (st) := by
  intro p l e s m args below meth c D A ad cA B H locs lsA hP hS hL
  exact lv_iconst B.1 B.2.1 hd hv (k p l e s m args below meth c D A ad cA B H locs lsA hP hS hL)
theorem mj_bipush {n : Int} {v : Int32} (hd : decode M.2.1 pc = .ok (.bipush n, 2)) (hv : (Int8.ofInt n).toInt32 = v) (k : mj_V M sh Q x (pc + 2) ls (.int v :: st)) : mj_V M sh Q x pc ls (st) := by
  intro p l e s m args below meth c D A ad cA B H locs lsA hP hS hL
  exact lv_bipush B.1 B.2.1 hd hv (k p l e s m args below meth c D A ad cA B H locs lsA hP hS hL)
theorem mj_sipush {n : Int} {v : Int32} (hd : decode M.2.1 pc = .ok (.sipush n, 3)) (hv : (Int16.ofInt n).toInt32 = v) (k : mj_V M sh Q x (pc + 3) ls (.int v :: st)) : mj_V M sh Q x pc ls (st) := by
  intro p l e s m args below meth c D A ad cA B H locs lsA hP hS hL
  exact lv_sipush B.1 B.2.1 hd hv (k p l e s m args below meth c D A ad cA B H locs lsA hP hS hL)
theorem mj_lconst {n : Fin 2} {v : Int64} (hd : decode M.2.1 pc = .ok (.lconst n, 1)) (hv : Int64.ofNat (n : Nat) = v) (k : mj_V M sh Q x (pc + 1) ls (.long v :: st)) : mj_V M sh Q x pc ls (st) := by
  intro p l e s m args below meth c D A ad cA B H locs lsA hP hS hL
  exact lv_lconst B.1 B.2.1 hd hv (k p l e s m args below meth c D A ad cA B H locs lsA hP hS hL)
theorem mj_ildn {k0 : Fin 4} {v : Int32} (hd : decode M.2.1 pc = .ok (.iload_n k0, 1)) (hl : ls[(k0 : Nat)]? = some (some (.int v))) (k : mj_V M sh Q x (pc + 1) ls (.int v :: st)) : mj_V M sh Q x pc ls (st) := by
  intro p l e s m args below meth c D A ad cA B H locs lsA hP hS hL
  exact lv_iload_n B.1 B.2.1 hd rfl (hL.2.2.2 _ _ hl) (k p l e s m args below meth c D A ad cA B H locs lsA hP hS hL)
theorem mj_ild {i : Nat} {v : Int32} (hd : decode M.2.1 pc = .ok (.iload i, 2)) (hl : ls[i]? = some (some (.int v))) (k : mj_V M sh Q x (pc + 2) ls (.int v :: st)) : mj_V M sh Q x pc ls (st) := by
  intro p l e s m args below meth c D A ad cA B H locs lsA hP hS hL
  exact lv_iload B.1 B.2.1 hd (hL.2.2.2 _ _ hl) (k p l e s m args below meth c D A ad cA B H locs lsA hP hS hL)
theorem mj_lldn {k0 : Fin 4} {v : Int64} (hd : decode M.2.1 pc = .ok (.lload_n k0, 1)) (hl : ls[(k0 : Nat)]? = some (some (.long v))) (k : mj_V M sh Q x (pc + 1) ls (.long v :: st)) : mj_V M sh Q x pc ls (st) := by
  intro p l e s m args below meth c D A ad cA B H locs lsA hP hS hL
  exact lv_lload_n B.1 B.2.1 hd rfl (hL.2.2.2 _ _ hl) (k p l e s m args below meth c D A ad cA B H locs lsA hP hS hL)
theorem mj_lld {i : Nat} {v : Int64} (hd : decode M.2.1 pc = .ok (.lload i, 2)) (hl : ls[i]? = some (some (.long v))) (k : mj_V M sh Q x (pc + 2) ls (.long v :: st)) : mj_V M sh Q x pc ls (st) := by
  intro p l e s m args below meth c D A ad cA B H locs lsA hP hS hL
  exact lv_lload B.1 B.2.1 hd (hL.2.2.2 _ _ hl) (k p l e s m args below meth c D A ad cA B H locs lsA hP hS hL)
theorem mj_aldn {k0 : Fin 4} {v : Nat} (hd : decode M.2.1 pc = .ok (.aload_n k0, 1)) (hl : ls[(k0 : Nat)]? = some (some (.ref v))) (k : mj_V M sh Q x (pc + 1) ls (.ref v :: st)) : mj_V M sh Q x pc ls (st) := by
  intro p l e s m args below meth c D A ad cA B H locs lsA hP hS hL
  exact lv_aload_n B.1 B.2.1 hd rfl (hL.2.2.2 _ _ hl) (k p l e s m args below meth c D A ad cA B H locs lsA hP hS hL)
theorem mj_iadd {a b : Int32} (hd : decode M.2.1 pc = .ok (.iadd, 1)) (k : mj_V M sh Q x (pc + 1) ls (.int (a + b) :: st)) : mj_V M sh Q x pc ls (.int b :: .int a :: st) := by
  intro p l e s m args below meth c D A ad cA B H locs lsA hP hS hL
  exact lv_iadd B.1 B.2.1 hd (k p l e s m args below meth c D A ad cA B H locs lsA hP hS hL)
theorem mj_isub {a b : Int32} (hd : decode M.2.1 pc = .ok (.isub, 1)) (k : mj_V M sh Q x (pc + 1) ls (.int (a - b) :: st)) : mj_V M sh Q x pc ls (.int b :: .int a :: st) := by
  intro p l e s m args below meth c D A ad cA B H locs lsA hP hS hL
  exact lv_isub B.1 B.2.1 hd (k p l e s m args below meth c D A ad cA B H locs lsA hP hS hL)
theorem mj_imul {a b : Int32} (hd : decode M.2.1 pc = .ok (.imul, 1)) (k : mj_V M sh Q x (pc + 1) ls (.int (a * b) :: st)) : mj_V M sh Q x pc ls (.int b :: .int a :: st) := by
  intro p l e s m args below meth c D A ad cA B H locs lsA hP hS hL
  exact lv_imul B.1 B.2.1 hd (k p l e s m args below meth c D A ad cA B H locs lsA hP hS hL)
theorem mj_iand {a b : Int32} (hd : decode M.2.1 pc = .ok (.iand, 1)) (k : mj_V M sh Q x (pc + 1) ls (.int (a &&& b) :: st)) : mj_V M sh Q x pc ls (.int b :: .int a :: st) := by
  intro p l e s m args below meth c D A ad cA B H locs lsA hP hS hL
  exact lv_iand B.1 B.2.1 hd (k p l e s m args below meth c D A ad cA B H locs lsA hP hS hL)
theorem mj_ladd {a b : Int64} (hd : decode M.2.1 pc = .ok (.ladd, 1)) (k : mj_V M sh Q x (pc + 1) ls (.long (a + b) :: st)) : mj_V M sh Q x pc ls (.long b :: .long a :: st) := by
  intro p l e s m args below meth c D A ad cA B H locs lsA hP hS hL
  exact lv_ladd B.1 B.2.1 hd (k p l e s m args below meth c D A ad cA B H locs lsA hP hS hL)
theorem mj_lsub {a b : Int64} (hd : decode M.2.1 pc = .ok (.lsub, 1)) (k : mj_V M sh Q x (pc + 1) ls (.long (a - b) :: st)) : mj_V M sh Q x pc ls (.long b :: .long a :: st) := by
  intro p l e s m args below meth c D A ad cA B H locs lsA hP hS hL
  exact lv_lsub B.1 B.2.1 hd (k p l e s m args below meth c D A ad cA B H locs lsA hP hS hL)
theorem mj_lmul {a b : Int64} (hd : decode M.2.1 pc = .ok (.lmul, 1)) (k : mj_V M sh Q x (pc + 1) ls (.long (a * b) :: st)) : mj_V M sh Q x pc ls (.long b :: .long a :: st) := by
  intro p l e s m args below meth c D A ad cA B H locs lsA hP hS hL
  exact lv_lmul B.1 B.2.1 hd (k p l e s m args below meth c D A ad cA B H locs lsA hP hS hL)
theorem mj_idiv {a b : Int32} (hd : decode M.2.1 pc = .ok (.idiv, 1)) (hne : ¬ b = 0) (k : mj_V M sh Q x (pc + 1) ls (.int (a / b) :: st)) : mj_V M sh Q x pc ls (.int b :: .int a :: st) := by
  intro p l e s m args below meth c D A ad cA B H locs lsA hP hS hL
  exact lv_idiv B.1 B.2.1 hd hne (k p l e s m args below meth c D A ad cA B H locs lsA hP hS hL)
theorem mj_irem {a b : Int32} (hd : decode M.2.1 pc = .ok (.irem, 1)) (hne : ¬ b = 0) (k : mj_V M sh Q x (pc + 1) ls (.int (a - a / b * b) :: st)) : mj_V M sh Q x pc ls (.int b :: .int a :: st) := by
  intro p l e s m args below meth c D A ad cA B H locs lsA hP hS hL
  exact lv_irem B.1 B.2.1 hd hne (k p l e s m args below meth c D A ad cA B H locs lsA hP hS hL)
theorem mj_lrem {a b : Int64} (hd : decode M.2.1 pc = .ok (.lrem, 1)) (hne : ¬ b = 0) (k : mj_V M sh Q x (pc + 1) ls (.long (a - a / b * b) :: st)) : mj_V M sh Q x pc ls (.long b :: .long a :: st) := by
  intro p l e s m args below meth c D A ad cA B H locs lsA hP hS hL
  exact lv_lrem B.1 B.2.1 hd hne (k p l e s m args below meth c D A ad cA B H locs lsA hP hS hL)
theorem mj_ineg {a : Int32} (hd : decode M.2.1 pc = .ok (.ineg, 1)) (k : mj_V M sh Q x (pc + 1) ls (.int (-a) :: st)) : mj_V M sh Q x pc ls (.int a :: st) := by
  intro p l e s m args below meth c D A ad cA B H locs lsA hP hS hL
  exact lv_ineg B.1 B.2.1 hd (k p l e s m args below meth c D A ad cA B H locs lsA hP hS hL)
theorem mj_i2l {a : Int32} (hd : decode M.2.1 pc = .ok (.i2l, 1)) (k : mj_V M sh Q x (pc + 1) ls (.long a.toInt64 :: st)) : mj_V M sh Q x pc ls (.int a :: st) := by
  intro p l e s m args below meth c D A ad cA B H locs lsA hP hS hL
  exact lv_i2l B.1 B.2.1 hd rfl (k p l e s m args below meth c D A ad cA B H locs lsA hP hS hL)
theorem mj_l2i {a : Int64} (hd : decode M.2.1 pc = .ok (.l2i, 1)) (k : mj_V M sh Q x (pc + 1) ls (.int a.toInt32 :: st)) : mj_V M sh Q x pc ls (.long a :: st) := by
  intro p l e s m args below meth c D A ad cA B H locs lsA hP hS hL
  exact lv_l2i B.1 B.2.1 hd rfl (k p l e s m args below meth c D A ad cA B H locs lsA hP hS hL)
theorem mj_lcmp {a b : Int64} (hd : decode M.2.1 pc = .ok (.lcmp, 1)) (k : mj_V M sh Q x (pc + 1) ls (.int (lg_cmp a b) :: st)) : mj_V M sh Q x pc ls (.long b :: .long a :: st) := by
  intro p l e s m args below meth c D A ad cA B H locs lsA hP hS hL
  exact W.lcmp B.1 B.2.1 hd (k p l e s m args below meth c D A ad cA B H locs lsA hP hS hL)
theorem mj_dupi {a : Int32} (hd : decode M.2.1 pc = .ok (.dup, 1)) (k : mj_V M sh Q x (pc + 1) ls (.int a :: .int a :: st)) : mj_V M sh Q x pc ls (.int a :: st) := by
  intro p l e s m args below meth c D A ad cA B H locs lsA hP hS hL
  exact lv_dup B.1 B.2.1 hd rfl (k p l e s m args below meth c D A ad cA B H locs lsA hP hS hL)
theorem mj_dupr {a : Nat} (hd : decode M.2.1 pc = .ok (.dup, 1)) (k : mj_V M sh Q x (pc + 1) ls (.ref a :: .ref a :: st)) : mj_V M sh Q x pc ls (.ref a :: st) := by
  intro p l e s m args below meth c D A ad cA B H locs lsA hP hS hL
  exact lv_dup B.1 B.2.1 hd rfl (k p l e s m args below meth c D A ad cA B H locs lsA hP hS hL)
theorem mj_dup2 {a : Int32} {b : Nat} (hd : decode M.2.1 pc = .ok (.dup2, 1)) (k : mj_V M sh Q x (pc + 1) ls (.int a :: .ref b :: .int a :: .ref b :: st)) : mj_V M sh Q x pc ls (.int a :: .ref b :: st) := by
  intro p l e s m args below meth c D A ad cA B H locs lsA hP hS hL
  exact lv_dup2_11 B.1 B.2.1 hd rfl rfl (k p l e s m args below meth c D A ad cA B H locs lsA hP hS hL)
theorem mj_popi {a : Int32} (hd : decode M.2.1 pc = .ok (.pop, 1)) (k : mj_V M sh Q x (pc + 1) ls (st)) : mj_V M sh Q x pc ls (.int a :: st) := by
  intro p l e s m args below meth c D A ad cA B H locs lsA hP hS hL
  exact lv_pop B.1 B.2.1 hd rfl (k p l e s m args below meth c D A ad cA B H locs lsA hP hS hL)
theorem mj_if_eq {a : Int32} {off : Int} {tgt : Nat} (hd : decode M.2.1 pc = .ok (.ifCond .eq off, 3)) (ht : (pc : Int) + off = (tgt : Int)) (kt : a = 0 → mj_V M sh Q x tgt ls st) (kf : ¬ a = 0 → mj_V M sh Q x (pc + 3) ls st) : mj_V M sh Q x pc ls (.int a :: st) := by
  intro p l e s m args below meth c D A ad cA B H locs lsA hP hS hL
  exact lv_if_eq B.1 B.2.1 hd ht (fun h => kt h p l e s m args below meth c D A ad cA B H locs lsA hP hS hL) (fun h => kf h p l e s m args below meth c D A ad cA B H locs lsA hP hS hL)
theorem mj_ic_eq {a b : Int32} {off : Int} {tgt : Nat} (hd : decode M.2.1 pc = .ok (.if_icmp .eq off, 3)) (ht : (pc : Int) + off = (tgt : Int)) (kt : a = b → mj_V M sh Q x tgt ls st) (kf : ¬ a = b → mj_V M sh Q x (pc + 3) ls st) : mj_V M sh Q x pc ls (.int b :: .int a :: st) := by
  intro p l e s m args below meth c D A ad cA B H locs lsA hP hS hL
  exact lv_icmp_eq B.1 B.2.1 hd ht (fun h => kt h p l e s m args below meth c D A ad cA B H locs lsA hP hS hL) (fun h => kf h p l e s m args below meth c D A ad cA B H locs lsA hP hS hL)
theorem mj_if_ne {a : Int32} {off : Int} {tgt : Nat} (hd : decode M.2.1 pc = .ok (.ifCond .ne off, 3)) (ht : (pc : Int) + off = (tgt : Int)) (kt : ¬ a = 0 → mj_V M sh Q x tgt ls st) (kf : a = 0 → mj_V M sh Q x (pc + 3) ls st) : mj_V M sh Q x pc ls (.int a :: st) := by
  intro p l e s m args below meth c D A ad cA B H locs lsA hP hS hL
  exact lv_if_ne B.1 B.2.1 hd ht (fun h => kt h p l e s m args below meth c D A ad cA B H locs lsA hP hS hL) (fun h => kf h p l e s m args below meth c D A ad cA B H locs lsA hP hS hL)
theorem mj_ic_ne {a b : Int32} {off : Int} {tgt : Nat} (hd : decode M.2.1 pc = .ok (.if_icmp .ne off, 3)) (ht : (pc : Int) + off = (tgt : Int)) (kt : ¬ a = b → mj_V M sh Q x tgt ls st) (kf : a = b → mj_V M sh Q x (pc + 3) ls st) : mj_V M sh Q x pc ls (.int b :: .int a :: st) := by
  intro p l e s m args below meth c D A ad cA B H locs lsA hP hS hL
  exact lv_icmp_ne B.1 B.2.1 hd ht (fun h => kt h p l e s m args below meth c D A ad cA B H locs lsA hP hS hL) (fun h => kf h p l e s m args below meth c D A ad cA B H locs lsA hP hS hL)
theorem mj_if_lt {a : Int32} {off : Int} {tgt : Nat} (hd : decode M.2.1 pc = .ok (.ifCond .lt off, 3)) (ht : (pc : Int) + off = (tgt : Int)) (kt : a < 0 → mj_V M sh Q x tgt ls st) (kf : ¬ a < 0 → mj_V M sh Q x (pc + 3) ls st) : mj_V M sh Q x pc ls (.int a :: st) := by
  intro p l e s m args below meth c D A ad cA B H locs lsA hP hS hL
  exact lv_if_lt B.1 B.2.1 hd ht (fun h => kt h p l e s m args below meth c D A ad cA B H locs lsA hP hS hL) (fun h => kf h p l e s m args below meth c D A ad cA B H locs lsA hP hS hL)
theorem mj_ic_lt {a b : Int32} {off : Int} {tgt : Nat} (hd : decode M.2.1 pc = .ok (.if_icmp .lt off, 3)) (ht : (pc : Int) + off = (tgt : Int)) (kt : a < b → mj_V M sh Q x tgt ls st) (kf : ¬ a < b → mj_V M sh Q x (pc + 3) ls st) : mj_V M sh Q x pc ls (.int b :: .int a :: st) := by
  intro p l e s m args below meth c D A ad cA B H locs lsA hP hS hL
  exact lv_icmp_lt B.1 B.2.1 hd ht (fun h => kt h p l e s m args below meth c D A ad cA B H locs lsA hP hS hL) (fun h => kf h p l e s m args below meth c D A ad cA B H locs lsA hP hS hL)
theorem mj_if_ge {a : Int32} {off : Int} {tgt : Nat} (hd : decode M.2.1 pc = .ok (.ifCond .ge off, 3)) (ht : (pc : Int) + off = (tgt : Int)) (kt : 0 ≤ a → mj_V M sh Q x tgt ls st) (kf : ¬ 0 ≤ a → mj_V M sh Q x (pc + 3) ls st) : mj_V M sh Q x pc ls (.int a :: st) := by
  intro p l e s m args below meth c D A ad cA B H locs lsA hP hS hL
  exact lv_if_ge B.1 B.2.1 hd ht (fun h => kt h p l e s m args below meth c D A ad cA B H locs lsA hP hS hL) (fun h => kf h p l e s m args below meth c D A ad cA B H locs lsA hP hS hL)
theorem mj_ic_ge {a b : Int32} {off : Int} {tgt : Nat} (hd : decode M.2.1 pc = .ok (.if_icmp .ge off, 3)) (ht : (pc : Int) + off = (tgt : Int)) (kt : b ≤ a → mj_V M sh Q x tgt ls st) (kf : ¬ b ≤ a → mj_V M sh Q x (pc + 3) ls st) : mj_V M sh Q x pc ls (.int b :: .int a :: st) := by
  intro p l e s m args below meth c D A ad cA B H locs lsA hP hS hL
  exact lv_icmp_ge B.1 B.2.1 hd ht (fun h => kt h p l e s m args below meth c D A ad cA B H locs lsA hP hS hL) (fun h => kf h p l e s m args below meth c D A ad cA B H locs lsA hP hS hL)
theorem mj_if_gt {a : Int32} {off : Int} {tgt : Nat} (hd : decode M.2.1 pc = .ok (.ifCond .gt off, 3)) (ht : (pc : Int) + off = (tgt : Int)) (kt : 0 < a → mj_V M sh Q x tgt ls st) (kf : ¬ 0 < a → mj_V M sh Q x (pc + 3) ls st) : mj_V M sh Q x pc ls (.int a :: st) := by
  intro p l e s m args below meth c D A ad cA B H locs lsA hP hS hL
  exact lv_if_gt B.1 B.2.1 hd ht (fun h => kt h p l e s m args below meth c D A ad cA B H locs lsA hP hS hL) (fun h => kf h p l e s m args below meth c D A ad cA B H locs lsA hP hS hL)
theorem mj_ic_gt {a b : Int32} {off : Int} {tgt : Nat} (hd : decode M.2.1 pc = .ok (.if_icmp .gt off, 3)) (ht : (pc : Int) + off = (tgt : Int)) (kt : b < a → mj_V M sh Q x tgt ls st) (kf : ¬ b < a → mj_V M sh Q x (pc + 3) ls st) : mj_V M sh Q x pc ls (.int b :: .int a :: st) := by
  intro p l e s m args below meth c D A ad cA B H locs lsA hP hS hL
  exact lv_icmp_gt B.1 B.2.1 hd ht (fun h => kt h p l e s m args below meth c D A ad cA B H locs lsA hP hS hL) (fun h => kf h p l e s m args below meth c D A ad cA B H locs lsA hP hS hL)
theorem mj_if_le {a : Int32} {off : Int} {tgt : Nat} (hd : decode M.2.1 pc = .ok (.ifCond .le off, 3)) (ht : (pc : Int) + off = (tgt : Int)) (kt : a ≤ 0 → mj_V M sh Q x tgt ls st) (kf : ¬ a ≤ 0 → mj_V M sh Q x (pc + 3) ls st) : mj_V M sh Q x pc ls (.int a :: st) := by
  intro p l e s m args below meth c D A ad cA B H locs lsA hP hS hL
  exact lv_if_le B.1 B.2.1 hd ht (fun h => kt h p l e s m args below meth c D A ad cA B H locs lsA hP hS hL) (fun h => kf h p l e s m args below meth c D A ad cA B H locs lsA hP hS hL)
theorem mj_ic_le {a b : Int32} {off : Int} {tgt : Nat} (hd : decode M.2.1 pc = .ok (.if_icmp .le off, 3)) (ht : (pc : Int) + off = (tgt : Int)) (kt : a ≤ b → mj_V M sh Q x tgt ls st) (kf : ¬ a ≤ b → mj_V M sh Q x (pc + 3) ls st) : mj_V M sh Q x pc ls (.int b :: .int a :: st) := by
  intro p l e s m args below meth c D A ad cA B H locs lsA hP hS hL
  exact lv_icmp_le B.1 B.2.1 hd ht (fun h => kt h p l e s m args below meth c D A ad cA B H locs lsA hP hS hL) (fun h => kf h p l e s m args below meth c D A ad cA B H locs lsA hP hS hL)
theorem mj_goto {off : Int} {tgt : Nat} (hd : decode M.2.1 pc = .ok (.goto off, 3)) (ht : (pc : Int) + off = (tgt : Int)) (k : mj_V M sh Q x tgt ls st) : mj_V M sh Q x pc ls st := by
  intro p l e s m args below meth c D A ad cA B H locs lsA hP hS hL
  exact lv_goto B.1 B.2.1 hd ht (k p l e s m args below meth c D A ad cA B H locs lsA hP hS hL)
theorem mj_ist0 {w : Option Value} {r : List (Option Value)} {v : Int32} (hd : decode M.2.1 pc = .ok (.istore 0, 2)) (k : mj_V M sh Q x (pc + 2) (some (.int v) :: r) st) : mj_V M sh Q x pc (w :: r) (.int v :: st) := by
  intro p l e s m args below meth c D A ad cA B H locs lsA hP hS hL
  exact lv_istore B.1 B.2.1 hd hL.has (Nat.lt_of_lt_of_le (by simp only [List.length_cons]; omega) hL.2.2.1) rfl (fun lsB hB => k p l e s m args below meth c D A ad cA B H locs lsB hP hS (hL.set1 (i := 0) (v := .int v) (fun j hj => by cases hj) hB))
theorem mj_istn0 {w : Option Value} {r : List (Option Value)} {v : Int32} (hd : decode M.2.1 pc = .ok (.istore_n 0, 1)) (k : mj_V M sh Q x (pc + 1) (some (.int v) :: r) st) : mj_V M sh Q x pc (w :: r) (.int v :: st) := by
  intro p l e s m args below meth c D A ad cA B H locs lsA hP hS hL
  exact lv_istore_n B.1 B.2.1 hd rfl hL.has (Nat.lt_of_lt_of_le (by simp only [List.length_cons]; omega) hL.2.2.1) rfl (fun lsB hB => k p l e s m args below meth c D A ad cA B H locs lsB hP hS (hL.set1 (i := 0) (v := .int v) (fun j hj => by cases hj) hB))
theorem mj_inc0 {r : List (Option Value)} {v k0 : Int32} {n : Int} (hd : decode M.2.1 pc = .ok (.iinc 0 n, 3)) (hk : Int32.ofInt n = k0) (k : mj_V M sh Q x (pc + 3) (some (.int (v + k0)) :: r) st) : mj_V M sh Q x pc (some (.int v) :: r) st := by
  intro p l e s m args below meth c D A ad cA B H locs lsA hP hS hL
  obtain ⟨kk, hkk⟩ := List.getElem?_of_mem (mj_pr_in (ad := ad) (ls := some (.int v) :: r) (i := 0) (v := .int v) rfl)
  exact lv_iinc B.1 B.2.1 hd hL.has hkk (by rw [hk]) (Nat.lt_of_lt_of_le (by simp only [List.length_cons]; omega) hL.2.2.1) rfl (fun lsB hB => k p l e s m args below meth c D A ad cA B H locs lsB hP hS (hL.set1 (i := 0) (v := .int (v + k0)) (fun j hj => by cases hj) hB))
theorem mj_ist1 {a0 : Option Value} {w : Option Value} {r : List (Option Value)} {v : Int32} (hd : decode M.2.1 pc = .ok (.istore 1, 2)) (hn : mj_nl a0 = true) (k : mj_V M sh Q x (pc + 2) (a0 :: some (.int v) :: r) st) : mj_V M sh Q x pc (a0 :: w :: r) (.int v :: st) := by
  intro p l e s m args below meth c D A ad cA B H locs lsA hP hS hL
  exact lv_istore B.1 B.2.1 hd hL.has (Nat.lt_of_lt_of_le (by simp only [List.length_cons]; omega) hL.2.2.1) rfl (fun lsB hB => k p l e s m args below meth c D A ad cA B H locs lsB hP hS (hL.set1 (i := 1) (v := .int v) (fun j hj => by cases hj; exact hn) hB))
theorem mj_istn1 {a0 : Option Value} {w : Option Value} {r : List (Option Value)} {v : Int32} (hd : decode M.2.1 pc = .ok (.istore_n 1, 1)) (hn : mj_nl a0 = true) (k : mj_V M sh Q x (pc + 1) (a0 :: some (.int v) :: r) st) : mj_V M sh Q x pc (a0 :: w :: r) (.int v :: st) := by
  intro p l e s m args below meth c D A ad cA B H locs lsA hP hS hL
  exact lv_istore_n B.1 B.2.1 hd rfl hL.has (Nat.lt_of_lt_of_le (by simp only [List.length_cons]; omega) hL.2.2.1) rfl (fun lsB hB => k p l e s m args below meth c D A ad cA B H locs lsB hP hS (hL.set1 (i := 1) (v := .int v) (fun j hj => by cases hj; exact hn) hB))
theorem mj_inc1 {a0 : Option Value} {r : List (Option Value)} {v k0 : Int32} {n : Int} (hd : decode M.2.1 pc = .ok (.iinc 1 n, 3)) (hk : Int32.ofInt n = k0) (hn : mj_nl a0 = true) (k : mj_V M sh Q x (pc + 3) (a0 :: some (.int (v + k0)) :: r) st) : mj_V M sh Q x pc (a0 :: some (.int v) :: r) st := by
  intro p l e s m args below meth c D A ad cA B H locs lsA hP hS hL
  obtain ⟨kk, hkk⟩ := List.getElem?_of_mem (mj_pr_in (ad := ad) (ls := a0 :: some (.int v) :: r) (i := 1) (v := .int v) rfl)
  exact lv_iinc B.1 B.2.1 hd hL.has hkk (by rw [hk]) (Nat.lt_of_lt_of_le (by simp only [List.length_cons]; omega) hL.2.2.1) rfl (fun lsB hB => k p l e s m args below meth c D A ad cA B H locs lsB hP hS (hL.set1 (i := 1) (v := .int (v + k0)) (fun j hj => by cases hj; exact hn) hB))
theorem mj_ist2 {a0 a1 : Option Value} {w : Option Value} {r : List (Option Value)} {v : Int32} (hd : decode M.2.1 pc = .ok (.istore 2, 2)) (hn : mj_nl a1 = true) (k : mj_V M sh Q x (pc + 2) (a0 :: a1 :: some (.int v) :: r) st) : mj_V M sh Q x pc (a0 :: a1 :: w :: r) (.int v :: st) := by
  intro p l e s m args below meth c D A ad cA B H locs lsA hP hS hL
  exact lv_istore B.1 B.2.1 hd hL.has (Nat.lt_of_lt_of_le (by simp only [List.length_cons]; omega) hL.2.2.1) rfl (fun lsB hB => k p l e s m args below meth c D A ad cA B H locs lsB hP hS (hL.set1 (i := 2) (v := .int v) (fun j hj => by cases hj; exact hn) hB))
theorem mj_istn2 {a0 a1 : Option Value} {w : Option Value} {r : List (Option Value)} {v : Int32} (hd : decode M.2.1 pc = .ok (.istore_n 2, 1)) (hn : mj_nl a1 = true) (k : mj_V M sh Q x (pc + 1) (a0 :: a1 :: some (.int v) :: r) st) : mj_V M sh Q x pc (a0 :: a1 :: w :: r) (.int v :: st) := by
  intro p l e s m args below meth c D A ad cA B H locs lsA hP hS hL
  exact lv_istore_n B.1 B.2.1 hd rfl hL.has (Nat.lt_of_lt_of_le (by simp only [List.length_cons]; omega) hL.2.2.1) rfl (fun lsB hB => k p l e s m args below meth c D A ad cA B H locs lsB hP hS (hL.set1 (i := 2) (v := .int v) (fun j hj => by cases hj; exact hn) hB))
theorem mj_inc2 {a0 a1 : Option Value} {r : List (Option Value)} {v k0 : Int32} {n : Int} (hd : decode M.2.1 pc = .ok (.iinc 2 n, 3)) (hk : Int32.ofInt n = k0) (hn : mj_nl a1 = true) (k : mj_V M sh Q x (pc + 3) (a0 :: a1 :: some (.int (v + k0)) :: r) st) : mj_V M sh Q x pc (a0 :: a1 :: some (.int v) :: r) st := by
  intro p l e s m args below meth c D A ad cA B H locs lsA hP hS hL
  obtain ⟨kk, hkk⟩ := List.getElem?_of_mem (mj_pr_in (ad := ad) (ls := a0 :: a1 :: some (.int v) :: r) (i := 2) (v := .int v) rfl)
  exact lv_iinc B.1 B.2.1 hd hL.has hkk (by rw [hk]) (Nat.lt_of_lt_of_le (by simp only [List.length_cons]; omega) hL.2.2.1) rfl (fun lsB hB => k p l e s m args below meth c D A ad cA B H locs lsB hP hS (hL.set1 (i := 2) (v := .int (v + k0)) (fun j hj => by cases hj; exact hn) hB))
theorem mj_ist3 {a0 a1 a2 : Option Value} {w : Option Value} {r : List (Option Value)} {v : Int32} (hd : decode M.2.1 pc = .ok (.istore 3, 2)) (hn : mj_nl a2 = true) (k : mj_V M sh Q x (pc + 2) (a0 :: a1 :: a2 :: some (.int v) :: r) st) : mj_V M sh Q x pc (a0 :: a1 :: a2 :: w :: r) (.int v :: st) := by
  intro p l e s m args below meth c D A ad cA B H locs lsA hP hS hL
  exact lv_istore B.1 B.2.1 hd hL.has (Nat.lt_of_lt_of_le (by simp only [List.length_cons]; omega) hL.2.2.1) rfl (fun lsB hB => k p l e s m args below meth c D A ad cA B H locs lsB hP hS (hL.set1 (i := 3) (v := .int v) (fun j hj => by cases hj; exact hn) hB))
theorem mj_istn3 {a0 a1 a2 : Option Value} {w : Option Value} {r : List (Option Value)} {v : Int32} (hd : decode M.2.1 pc = .ok (.istore_n 3, 1)) (hn : mj_nl a2 = true) (k : mj_V M sh Q x (pc + 1) (a0 :: a1 :: a2 :: some (.int v) :: r) st) : mj_V M sh Q x pc (a0 :: a1 :: a2 :: w :: r) (.int v :: st) := by
  intro p l e s m args below meth c D A ad cA B H locs lsA hP hS hL
  exact lv_istore_n B.1 B.2.1 hd rfl hL.has (Nat.lt_of_lt_of_le (by simp only [List.length_cons]; omega) hL.2.2.1) rfl (fun lsB hB => k p l e s m args below meth c D A ad cA B H locs lsB hP hS (hL.set1 (i := 3) (v := .int v) (fun j hj => by cases hj; exact hn) hB))
theorem mj_inc3 {a0 a1 a2 : Option Value} {r : List (Option Value)} {v k0 : Int32} {n : Int} (hd : decode M.2.1 pc = .ok (.iinc 3 n, 3)) (hk : Int32.ofInt n = k0) (hn : mj_nl a2 = true) (k : mj_V M sh Q x (pc + 3) (a0 :: a1 :: a2 :: some (.int (v + k0)) :: r) st) : mj_V M sh Q x pc (a0 :: a1 :: a2 :: some (.int v) :: r) st := by
  intro p l e s m args below meth c D A ad cA B H locs lsA hP hS hL
  obtain ⟨kk, hkk⟩ := List.getElem?_of_mem (mj_pr_in (ad := ad) (ls := a0 :: a1 :: a2 :: some (.int v) :: r) (i := 3) (v := .int v) rfl)
  exact lv_iinc B.1 B.2.1 hd hL.has hkk (by rw [hk]) (Nat.lt_of_lt_of_le (by simp only [List.length_cons]; omega) hL.2.2.1) rfl (fun lsB hB => k p l e s m args below meth c D A ad cA B H locs lsB hP hS (hL.set1 (i := 3) (v := .int (v + k0)) (fun j hj => by cases hj; exact hn) hB))
theorem mj_ist4 {a0 a1 a2 a3 : Option Value} {w : Option Value} {r : List (Option Value)} {v : Int32} (hd : decode M.2.1 pc = .ok (.istore 4, 2)) (hn : mj_nl a3 = true) (k : mj_V M sh Q x (pc + 2) (a0 :: a1 :: a2 :: a3 :: some (.int v) :: r) st) : mj_V M sh Q x pc (a0 :: a1 :: a2 :: a3 :: w :: r) (.int v :: st) := by
  intro p l e s m args below meth c D A ad cA B H locs lsA hP hS hL
  exact lv_istore B.1 B.2.1 hd hL.has (Nat.lt_of_lt_of_le (by simp only [List.length_cons]; omega) hL.2.2.1) rfl (fun lsB hB => k p l e s m args below meth c D A ad cA B H locs lsB hP hS (hL.set1 (i := 4) (v := .int v) (fun j hj => by cases hj; exact hn) hB))
theorem mj_inc4 {a0 a1 a2 a3 : Option Value} {r : List (Option Value)} {v k0 : Int32} {n : Int} (hd : decode M.2.1 pc = .ok (.iinc 4 n, 3)) (hk : Int32.ofInt n = k0) (hn : mj_nl a3 = true) (k : mj_V M sh Q x (pc + 3) (a0 :: a1 :: a2 :: a3 :: some (.int (v + k0)) :: r) st) : mj_V M sh Q x pc (a0 :: a1 :: a2 :: a3 :: some (.int v) :: r) st := by
  intro p l e s m args below meth c D A ad cA B H locs lsA hP hS hL
  obtain ⟨kk, hkk⟩ := List.getElem?_of_mem (mj_pr_in (ad := ad) (ls := a0 :: a1 :: a2 :: a3 :: some (.int v) :: r) (i := 4) (v := .int v) rfl)
  exact lv_iinc B.1 B.2.1 hd hL.has hkk (by rw [hk]) (Nat.lt_of_lt_of_le (by simp only [List.length_cons]; omega) hL.2.2.1) rfl (fun lsB hB => k p l e s m args below meth c D A ad cA B H locs lsB hP hS (hL.set1 (i := 4) (v := .int (v + k0)) (fun j hj => by cases hj; exact hn) hB))
theorem mj_ist5 {a0 a1 a2 a3 a4 : Option Value} {w : Option Value} {r : List (Option Value)} {v : Int32} (hd : decode M.2.1 pc = .ok (.istore 5, 2)) (hn : mj_nl a4 = true) (k : mj_V M sh Q x (pc + 2) (a0 :: a1 :: a2 :: a3 :: a4 :: some (.int v) :: r) st) : mj_V M sh Q x pc (a0 :: a1 :: a2 :: a3 :: a4 :: w :: r) (.int v :: st) := by
  intro p l e s m args below meth c D A ad cA B H locs lsA hP hS hL
  exact lv_istore B.1 B.2.1 hd hL.has (Nat.lt_of_lt_of_le (by simp only [List.length_cons]; omega) hL.2.2.1) rfl (fun lsB hB => k p l e s m args below meth c D A ad cA B H locs lsB hP hS (hL.set1 (i := 5) (v := .int v) (fun j hj => by cases hj; exact hn) hB))
theorem mj_inc5 {a0 a1 a2 a3 a4 : Option Value} {r : List (Option Value)} {v k0 : Int32} {n : Int} (hd : decode M.2.1 pc = .ok (.iinc 5 n, 3)) (hk : Int32.ofInt n = k0) (hn : mj_nl a4 = true) (k : mj_V M sh Q x (pc + 3) (a0 :: a1 :: a2 :: a3 :: a4 :: some (.int (v + k0)) :: r) st) : mj_V M sh Q x pc (a0 :: a1 :: a2 :: a3 :: a4 :: some (.int v) :: r) st := by
  intro p l e s m args below meth c D A ad cA B H locs lsA hP hS hL
  obtain ⟨kk, hkk⟩ := List.getElem?_of_mem (mj_pr_in (ad := ad) (ls := a0 :: a1 :: a2 :: a3 :: a4 :: some (.int v) :: r) (i := 5) (v := .int v) rfl)
  exact lv_iinc B.1 B.2.1 hd hL.has hkk (by rw [hk]) (Nat.lt_of_lt_of_le (by simp only [List.length_cons]; omega) hL.2.2.1) rfl (fun lsB hB => k p l e s m args below meth c D A ad cA B H locs lsB hP hS (hL.set1 (i := 5) (v := .int (v + k0)) (fun j hj => by cases hj; exact hn) hB))
theorem mj_ist6 {a0 a1 a2 a3 a4 a5 : Option Value} {w : Option Value} {r : List (Option Value)} {v : Int32} (hd : decode M.2.1 pc = .ok (.istore 6, 2)) (hn : mj_nl a5 = true) (k : mj_V M sh Q x (pc + 2) (a0 :: a1 :: a2 :: a3 :: a4 :: a5 :: some (.int v) :: r) st) : mj_V M sh Q x pc (a0 :: a1 :: a2 :: a3 :: a4 :: a5 :: w :: r) (.int v :: st) := by
  intro p l e s m args below meth c D A ad cA B H locs lsA hP hS hL
  exact lv_istore B.1 B.2.1 hd hL.has (Nat.lt_of_lt_of_le (by simp only [List.length_cons]; omega) hL.2.2.1) rfl (fun lsB hB => k p l e s m args below meth c D A ad cA B H locs lsB hP hS (hL.set1 (i := 6) (v := .int v) (fun j hj => by cases hj; exact hn) hB))
theorem mj_inc6 {a0 a1 a2 a3 a4 a5 : Option Value} {r : List (Option Value)} {v k0 : Int32} {n : Int} (hd : decode M.2.1 pc = .ok (.iinc 6 n, 3)) (hk : Int32.ofInt n = k0) (hn : mj_nl a5 = true) (k : mj_V M sh Q x (pc + 3) (a0 :: a1 :: a2 :: a3 :: a4 :: a5 :: some (.int (v + k0)) :: r) st) : mj_V M sh Q x pc (a0 :: a1 :: a2 :: a3 :: a4 :: a5 :: some (.int v) :: r) st := by
  intro p l e s m args below meth c D A ad cA B H locs lsA hP hS hL
  obtain ⟨kk, hkk⟩ := List.getElem?_of_mem (mj_pr_in (ad := ad) (ls := a0 :: a1 :: a2 :: a3 :: a4 :: a5 :: some (.int v) :: r) (i := 6) (v := .int v) rfl)
  exact lv_iinc B.1 B.2.1 hd hL.has hkk (by rw [hk]) (Nat.lt_of_lt_of_le (by simp only [List.length_cons]; omega) hL.2.2.1) rfl (fun lsB hB => k p l e s m args below meth c D A ad cA B H locs lsB hP hS (hL.set1 (i := 6) (v := .int (v + k0)) (fun j hj => by cases hj; exact hn) hB))
theorem mj_ist7 {a0 a1 a2 a3 a4 a5 a6 : Option Value} {w : Option Value} {r : List (Option Value)} {v : Int32} (hd : decode M.2.1 pc = .ok (.istore 7, 2)) (hn : mj_nl a6 = true) (k : mj_V M sh Q x (pc + 2) (a0 :: a1 :: a2 :: a3 :: a4 :: a5 :: a6 :: some (.int v) :: r) st) : mj_V M sh Q x pc (a0 :: a1 :: a2 :: a3 :: a4 :: a5 :: a6 :: w :: r) (.int v :: st) := by
  intro p l e s m args below meth c D A ad cA B H locs lsA hP hS hL
  exact lv_istore B.1 B.2.1 hd hL.has (Nat.lt_of_lt_of_le (by simp only [List.length_cons]; omega) hL.2.2.1) rfl (fun lsB hB => k p l e s m args below meth c D A ad cA B H locs lsB hP hS (hL.set1 (i := 7) (v := .int v) (fun j hj => by cases hj; exact hn) hB))
theorem mj_inc7 {a0 a1 a2 a3 a4 a5 a6 : Option Value} {r : List (Option Value)} {v k0 : Int32} {n : Int} (hd : decode M.2.1 pc = .ok (.iinc 7 n, 3)) (hk : Int32.ofInt n = k0) (hn : mj_nl a6 = true) (k : mj_V M sh Q x (pc + 3) (a0 :: a1 :: a2 :: a3 :: a4 :: a5 :: a6 :: some (.int (v + k0)) :: r) st) : mj_V M sh Q x pc (a0 :: a1 :: a2 :: a3 :: a4 :: a5 :: a6 :: some (.int v) :: r) st := by
  intro p l e s m args below meth c D A ad cA B H locs lsA hP hS hL
  obtain ⟨kk, hkk⟩ := List.getElem?_of_mem (mj_pr_in (ad := ad) (ls := a0 :: a1 :: a2 :: a3 :: a4 :: a5 :: a6 :: some (.int v) :: r) (i := 7) (v := .int v) rfl)
  exact lv_iinc B.1 B.2.1 hd hL.has hkk (by rw [hk]) (Nat.lt_of_lt_of_le (by simp only [List.length_cons]; omega) hL.2.2.1) rfl (fun lsB hB => k p l e s m args below meth c D A ad cA B H locs lsB hP hS (hL.set1 (i := 7) (v := .int (v + k0)) (fun j hj => by cases hj; exact hn) hB))
theorem mj_ist8 {a0 a1 a2 a3 a4 a5 a6 a7 : Option Value} {w : Option Value} {r : List (Option Value)} {v : Int32} (hd : decode M.2.1 pc = .ok (.istore 8, 2)) (hn : mj_nl a7 = true) (k : mj_V M sh Q x (pc + 2) (a0 :: a1 :: a2 :: a3 :: a4 :: a5 :: a6 :: a7 :: some (.int v) :: r) st) : mj_V M sh Q x pc (a0 :: a1 :: a2 :: a3 :: a4 :: a5 :: a6 :: a7 :: w :: r) (.int v :: st) := by
  intro p l e s m args below meth c D A ad cA B H locs lsA hP hS hL
  exact lv_istore B.1 B.2.1 hd hL.has (Nat.lt_of_lt_of_le (by simp only [List.length_cons]; omega) hL.2.2.1) rfl (fun lsB hB => k p l e s m args below meth c D A ad cA B H locs lsB hP hS (hL.set1 (i := 8) (v := .int v) (fun j hj => by cases hj; exact hn) hB))
theorem mj_inc8 {a0 a1 a2 a3 a4 a5 a6 a7 : Option Value} {r : List (Option Value)} {v k0 : Int32} {n : Int} (hd : decode M.2.1 pc = .ok (.iinc 8 n, 3)) (hk : Int32.ofInt n = k0) (hn : mj_nl a7 = true) (k : mj_V M sh Q x (pc + 3) (a0 :: a1 :: a2 :: a3 :: a4 :: a5 :: a6 :: a7 :: some (.int (v + k0)) :: r) st) : mj_V M sh Q x pc (a0 :: a1 :: a2 :: a3 :: a4 :: a5 :: a6 :: a7 :: some (.int v) :: r) st := by
  intro p l e s m args below meth c D A ad cA B H locs lsA hP hS hL
  obtain ⟨kk, hkk⟩ := List.getElem?_of_mem (mj_pr_in (ad := ad) (ls := a0 :: a1 :: a2 :: a3 :: a4 :: a5 :: a6 :: a7 :: some (.int v) :: r) (i := 8) (v := .int v) rfl)
  exact lv_iinc B.1 B.2.1 hd hL.has hkk (by rw [hk]) (Nat.lt_of_lt_of_le (by simp only [List.length_cons]; omega) hL.2.2.1) rfl (fun lsB hB => k p l e s m args below meth c D A ad cA B H locs lsB hP hS (hL.set1 (i := 8) (v := .int (v + k0)) (fun j hj => by cases hj; exact hn) hB))
theorem mj_ist9 {a0 a1 a2 a3 a4 a5 a6 a7 a8 : Option Value} {w : Option Value} {r : List (Option Value)} {v : Int32} (hd : decode M.2.1 pc = .ok (.istore 9, 2)) (hn : mj_nl a8 = true) (k : mj_V M sh Q x (pc + 2) (a0 :: a1 :: a2 :: a3 :: a4 :: a5 :: a6 :: a7 :: a8 :: some (.int v) :: r) st) : mj_V M sh Q x pc (a0 :: a1 :: a2 :: a3 :: a4 :: a5 :: a6 :: a7 :: a8 :: w :: r) (.int v :: st) := by
  intro p l e s m args below meth c D A ad cA B H locs lsA hP hS hL
  exact lv_istore B.1 B.2.1 hd hL.has (Nat.lt_of_lt_of_le (by simp only [List.length_cons]; omega) hL.2.2.1) rfl (fun lsB hB => k p l e s m args below meth c D A ad cA B H locs lsB hP hS (hL.set1 (i := 9) (v := .int v) (fun j hj => by cases hj; exact hn) hB))
theorem mj_inc9 {a0 a1 a2 a3 a4 a5 a6 a7 a8 : Option Value} {r : List (Option Value)} {v k0 : Int32} {n : Int} (hd : decode M.2.1 pc = .ok (.iinc 9 n, 3)) (hk : Int32.ofInt n = k0) (hn : mj_nl a8 = true) (k : mj_V M sh Q x (pc + 3) (a0 :: a1 :: a2 :: a3 :: a4 :: a5 :: a6 :: a7 :: a8 :: some (.int (v + k0)) :: r) st) : mj_V M sh Q x pc (a0 :: a1 :: a2 :: a3 :: a4 :: a5 :: a6 :: a7 :: a8 :: some (.int v) :: r) st := by
  intro p l e s m args below meth c D A ad cA B H locs lsA hP hS hL
  obtain ⟨kk, hkk⟩ := List.getElem?_of_mem (mj_pr_in (ad := ad) (ls := a0 :: a1 :: a2 :: a3 :: a4 :: a5 :: a6 :: a7 :: a8 :: some (.int v) :: r) (i := 9) (v := .int v) rfl)
  exact lv_iinc B.1 B.2.1 hd hL.has hkk (by rw [hk]) (Nat.lt_of_lt_of_le (by simp only [List.length_cons]; omega) hL.2.2.1) rfl (fun lsB hB => k p l e s m args below meth c D A ad cA B H locs lsB hP hS (hL.set1 (i := 9) (v := .int (v + k0)) (fun j hj => by cases hj; exact hn) hB))
theorem mj_ist10 {a0 a1 a2 a3 a4 a5 a6 a7 a8 a9 : Option Value} {w : Option Value} {r : List (Option Value)} {v : Int32} (hd : decode M.2.1 pc = .ok (.istore 10, 2)) (hn : mj_nl a9 = true) (k : mj_V M sh Q x (pc + 2) (a0 :: a1 :: a2 :: a3 :: a4 :: a5 :: a6 :: a7 :: a8 :: a9 :: some (.int v) :: r) st) : mj_V M sh Q x pc (a0 :: a1 :: a2 :: a3 :: a4 :: a5 :: a6 :: a7 :: a8 :: a9 :: w :: r) (.int v :: st) := by
  intro p l e s m args below meth c D A ad cA B H locs lsA hP hS hL
  exact lv_istore B.1 B.2.1 hd hL.has (Nat.lt_of_lt_of_le (by simp only [List.length_cons]; omega) hL.2.2.1) rfl (fun lsB hB => k p l e s m args below meth c D A ad cA B H locs lsB hP hS (hL.set1 (i := 10) (v := .int v) (fun j hj => by cases hj; exact hn) hB))
theorem mj_inc10 {a0 a1 a2 a3 a4 a5 a6 a7 a8 a9 : Option Value} {r : List (Option Value)} {v k0 : Int32} {n : Int} (hd : decode M.2.1 pc = .ok (.iinc 10 n, 3)) (hk : Int32.ofInt n = k0) (hn : mj_nl a9 = true) (k : mj_V M sh Q x (pc + 3) (a0 :: a1 :: a2 :: a3 :: a4 :: a5 :: a6 :: a7 :: a8 :: a9 :: some (.int (v + k0)) :: r) st) : mj_V M sh Q x pc (a0 :: a1 :: a2 :: a3 :: a4 :: a5 :: a6 :: a7 :: a8 :: a9 :: some (.int v) :: r) st := by
  intro p l e s m args below meth c D A ad cA B H locs lsA hP hS hL
  obtain ⟨kk, hkk⟩ := List.getElem?_of_mem (mj_pr_in (ad := ad) (ls := a0 :: a1 :: a2 :: a3 :: a4 :: a5 :: a6 :: a7 :: a8 :: a9 :: some (.int v) :: r) (i := 10) (v := .int v) rfl)
  exact lv_iinc B.1 B.2.1 hd hL.has hkk (by rw [hk]) (Nat.lt_of_lt_of_le (by simp only [List.length_cons]; omega) hL.2.2.1) rfl (fun lsB hB => k p l e s m args below meth c D A ad cA B H locs lsB hP hS (hL.set1 (i := 10) (v := .int (v + k0)) (fun j hj => by cases hj; exact hn) hB))
theorem mj_ist11 {a0 a1 a2 a3 a4 a5 a6 a7 a8 a9 a10 : Option Value} {w : Option Value} {r : List (Option Value)} {v : Int32} (hd : decode M.2.1 pc = .ok (.istore 11, 2)) (hn : mj_nl a10 = true) (k : mj_V M sh Q x (pc + 2) (a0 :: a1 :: a2 :: a3 :: a4 :: a5 :: a6 :: a7 :: a8 :: a9 :: a10 :: some (.int v) :: r) st) : mj_V M sh Q x pc (a0 :: a1 :: a2 :: a3 :: a4 :: a5 :: a6 :: a7 :: a8 :: a9 :: a10 :: w :: r) (.int v :: st) := by
  intro p l e s m args below meth c D A ad cA B H locs lsA hP hS hL
  exact lv_istore B.1 B.2.1 hd hL.has (Nat.lt_of_lt_of_le (by simp only [List.length_cons]; omega) hL.2.2.1) rfl (fun lsB hB => k p l e s m args below meth c D A ad cA B H locs lsB hP hS (hL.set1 (i := 11) (v := .int v) (fun j hj => by cases hj; exact hn) hB))
theorem mj_inc11 {a0 a1 a2 a3 a4 a5 a6 a7 a8 a9 a10 : Option Value} {r : List (Option Value)} {v k0 : Int32} {n : Int} (hd : decode M.2.1 pc = .ok (.iinc 11 n, 3)) (hk : Int32.ofInt n = k0) (hn : mj_nl a10 = true) (k : mj_V M sh Q x (pc + 3) (a0 :: a1 :: a2 :: a3 :: a4 :: a5 :: a6 :: a7 :: a8 :: a9 :: a10 :: some (.int (v + k0)) :: r) st) : mj_V M sh Q x pc (a0 :: a1 :: a2 :: a3 :: a4 :: a5 :: a6 :: a7 :: a8 :: a9 :: a10 :: some (.int v) :: r) st := by
  intro p l e s m args below meth c D A ad cA B H locs lsA hP hS hL
  obtain ⟨kk, hkk⟩ := List.getElem?_of_mem (mj_pr_in (ad := ad) (ls := a0 :: a1 :: a2 :: a3 :: a4 :: a5 :: a6 :: a7 :: a8 :: a9 :: a10 :: some (.int v) :: r) (i := 11) (v := .int v) rfl)
  exact lv_iinc B.1 B.2.1 hd hL.has hkk (by rw [hk]) (Nat.lt_of_lt_of_le (by simp only [List.length_cons]; omega) hL.2.2.1) rfl (fun lsB hB => k p l e s m args below meth c D A ad cA B H locs lsB hP hS (hL.set1 (i := 11) (v := .int (v + k0)) (fun j hj => by cases hj; exact hn) hB))
theorem mj_iald {c0 n : Nat} {i : Int32} (hd : decode M.2.1 pc = .ok (.iaload, 1)) (hsh : sh[c0]? = some (.inr n)) (j : Nat) (hj : j < n) (hi : i = nI j) (hn : n < 2 ^ 31) (k : mj_V M sh Q x (pc + 1) ls (.int (x c0 j) :: st)) : mj_V M sh Q x pc ls (.int i :: .ref c0 :: st) := by
  intro p l e s m args below meth c D A ad cA B H locs lsA hP hS hL
  subst hi
  have hk := k p l e s m args below meth c D A ad cA B H locs lsA hP hS hL
  refine va_iald (i := nI j) B.1 B.2.1 B.2.2.2.2.2.2.2.1 hP c0 0 (mj_w_at hsh) rfl (vp_in_nI hj hn) hd ?_
  rw [nI_clamp (by omega)]
  exact hk
theorem mj_iast {c0 n : Nat} {i v : Int32} (hd : decode M.2.1 pc = .ok (.iastore, 1)) (hsh : sh[c0]? = some (.inr n)) (j : Nat) (hj : j < n) (hi : i = nI j) (hn : n < 2 ^ 31) (k : mj_V M sh Q (mj_up x c0 j v) (pc + 1) ls st) : mj_V M sh Q x pc ls (.int v :: .int i :: .ref c0 :: st) := by
  intro p l e s m args below meth c D A ad cA B H locs lsA hP hS hL
  subst hi
  refine va_iast (i := nI j) (x := v) B.1 B.2.1 B.2.2.2.2.2.2.2.1 hP (mj_D B.2.2.2.2.2.2 x) hS c0 0 (mj_w_at hsh) rfl (vp_in_nI hj hn) hd (fun H1 locs1 hP1 _ hS1 => ?_)
  rw [nI_clamp (by omega), mj_w_set (ad := ad) (cA := cA) (x := x) (k := c0) (i := j) (v := v) (e := .inl (cA, n, .inl (upd (x c0) j v))) hsh rfl] at hP1
  exact k p l e s m args below meth c D A ad cA B H1 locs1 lsA hP1 hS1 hL
theorem mj_alen {c0 n : Nat} (hd : decode M.2.1 pc = .ok (.arraylength, 1)) (hsh : sh[c0]? = some (.inr n)) (k : mj_V M sh Q x (pc + 1) ls (.int (nI n) :: st)) : mj_V M sh Q x pc ls (.ref c0 :: st) := by
  intro p l e s m args below meth c D A ad cA B H locs lsA hP hS hL
  exact va_alen B.1 B.2.1 B.2.2.2.2.2.2.2.1 hP c0 0 (mj_w_at hsh) rfl rfl hd (k p l e s m args below meth c D A ad cA B H locs lsA hP hS hL)
def mj_wd (w : Cond) : Prop := w ∈ lw_tbl ∧ goodWord w = true
def mj_wn (w : Cond) : Prop := w ∈ lw_tbl ∧ mj_nest w = true
theorem mj_in {ws : List Cond} (h : GoodIn lw_tbl ws) (hg : ws.all goodWord = true) : ∀ w ∈ ws, w ∈ mj_tb := fun w hw => List.mem_filter.mpr ⟨(h w hw).1, List.all_eq_true.mp hg w hw⟩
/-- what is known of a field: class ci of the table, place k; its link from the class own -/
def mj_fk (own : String) (idx ci k : Nat) (C : String) (T : u_T) (N : Nat) : Prop :=
  mj_cl[ci]? = some (C, T, N) ∧ k < N ∧ (∀ w ∈ u_ws C T N, w ∈ mj_tb) ∧ (T k).1 = C ∧ (mj_wd (.fieldLink own idx C (T k).2.1 (T k).2.2.1) ∨ ∃ h, mj_wn (.fieldLinkNest own idx C (T k).2.1 (T k).2.2.1 h))
theorem mj_get {ci kf idx c0 : Nat} {C : String} {T : u_T} {N : Nat} {fs : List (Option Nat)} {f : Option Nat} {v : Value} (hk : mj_fk M.1.cls idx ci kf C T N) (hd : decode M.2.1 pc = .ok (.getfield idx, 3)) (hsh : sh[c0]? = some (.inl (ci, fs))) (hf : fs[kf]? = some f) (hv : ∀ ad, mj_v ad v = mj_fv ad (x c0) kf f) (k : mj_V M sh Q x (pc + 3) ls (v :: st)) : mj_V M sh Q x pc ls (.ref c0 :: st) := by
  intro p l e s m args below meth c D A ad cA B H locs lsA hP hS hL
  obtain ⟨h1, h2, h3, h4, h5⟩ := hk
  have hk2 := k p l e s m args below meth c D A ad cA B H locs lsA hP hS hL
  rw [List.map_cons, hv ad] at hk2
  rcases h5 with h5 | ⟨h, h5⟩
  · exact va_get B.1 B.2.1 (B.2.2.2.2.2.2.1.all args) h3 B.2.2.2.2.2.1 B.2.2.2.2.2.2.2.1 hP c0 (mj_w_at hsh) h1 kf h2 (mj_use B.2.2.2.2.2.2.1 h5.1 h5.2 args) (fun z hz => by rw [h4] at hz; exact hz) (mj_fs_at hf) hd hk2
  · exact va_getN B.1 B.2.1 (B.2.2.2.2.2.2.1.all args) h3 B.2.2.2.2.2.1 B.2.2.2.2.2.2.2.1 hP c0 (mj_w_at hsh) h1 kf h2 (va_Nw.use rfl (B.2.2.2.2.2.2.1.2 _ h5.1 h5.2)) (fun z hz => by rw [h4] at hz; exact hz) (mj_fs_at hf) hd hk2
theorem mj_geti {ci kf idx c0 : Nat} {C : String} {T : u_T} {N : Nat} {fs : List (Option Nat)} (hk : mj_fk M.1.cls idx ci kf C T N) (hd : decode M.2.1 pc = .ok (.getfield idx, 3)) (hsh : sh[c0]? = some (.inl (ci, fs))) (hf : fs[kf]? = some none) (k : mj_V M sh Q x (pc + 3) ls (.int (x c0 kf) :: st)) : mj_V M sh Q x pc ls (.ref c0 :: st) :=
  mj_get hk hd hsh hf (fun _ => rfl) k
theorem mj_getr {ci kf idx c0 c1 : Nat} {C : String} {T : u_T} {N : Nat} {fs : List (Option Nat)} (hk : mj_fk M.1.cls idx ci kf C T N) (hd : decode M.2.1 pc = .ok (.getfield idx, 3)) (hsh : sh[c0]? = some (.inl (ci, fs))) (hf : fs[kf]? = some (some c1)) (k : mj_V M sh Q x (pc + 3) ls (.ref c1 :: st)) : mj_V M sh Q x pc ls (.ref c0 :: st) :=
  mj_get hk hd hsh hf (fun _ => rfl) k
theorem mj_put {ci kf idx c0 : Nat} {C : String} {T : u_T} {N : Nat} {fs : List (Option Nat)} {v : Int32} {ty : FieldType} {ty0 : Nat → FieldType} (hk : mj_fk M.1.cls idx ci kf C T N) (hty : ∀ k, k < N → parseFieldDescriptor (T k).2.2.1 = some (ty0 k)) (hnm : ∀ a, a < N → ∀ b, b < N → a ≠ b → (T a).2.1 ≠ (T b).2.1) (hfin : (T kf).2.2.2 = false) (hdty : parseFieldDescriptor (T kf).2.2.1 = some ty) (hn : narrow ty (.int v) = .int v) (hfit : fits ty (.int v) = true) (hd : decode M.2.1 pc = .ok (.putfield idx, 3)) (hsh : sh[c0]? = some (.inl (ci, fs))) (hf : fs[kf]? = some none) (k : mj_V M sh Q (mj_up x c0 kf v) (pc + 3) ls st) : mj_V M sh Q x pc ls (.int v :: .ref c0 :: st) := by
  intro p l e s m args below meth c D A ad cA B H locs lsA hP hS hL
  obtain ⟨h1, h2, h3, h4, h5⟩ := hk
  have hlen : kf < (fs.mapIdx (mj_fv ad (x c0))).length := by rw [List.length_mapIdx]; exact (List.getElem?_eq_some_iff.mp hf).1
  have fin : ∀ (H1 : Heap) (locs1 : List Loc), va_P D mj_cl ((mj_w ad cA x sh).set c0 (ad c0, .inr (ci, (fs.mapIdx (mj_fv ad (x c0))).set kf (.int v)))) H1 → va_S A s.heap H1 locs1 → W p l e (mj_rm M) s m args below meth c H1 locs1 0 0 (MQ below (mj_Qc D A ad cA sh Q) args s 0 0 A) (F0 m (pc + 3) lsA (st.map (mj_v ad))) := by
    intro H1 locs1 hP1 hS1
    rw [mj_fs_set hf, mj_w_set (ad := ad) (cA := cA) (x := x) (k := c0) (i := kf) (v := v) (e := .inr (ci, fs.mapIdx (mj_fv ad (upd (x c0) kf v)))) hsh rfl] at hP1
    exact k p l e s m args below meth c D A ad cA B H1 locs1 lsA hP1 hS1 hL
  rcases h5 with h5 | ⟨h, h5⟩
  · exact va_put B.1 B.2.1 (B.2.2.2.2.2.2.1.all args) h3 ty0 hty hnm B.2.2.2.2.2.1 B.2.2.2.2.2.2.2.1 hP (mj_D B.2.2.2.2.2.2 x) hS c0 (mj_w_at hsh) h1 kf h2 (mj_use B.2.2.2.2.2.2.1 h5.1 h5.2 args) (fun z hz => by rw [h4] at hz; exact hz) hfin hdty hn hfit hlen hd (fun H1 locs1 a _ b => fin H1 locs1 a b)
  · exact va_putN B.1 B.2.1 (B.2.2.2.2.2.2.1.all args) h3 ty0 hty hnm B.2.2.2.2.2.1 B.2.2.2.2.2.2.2.1 hP (mj_D B.2.2.2.2.2.2 x) hS c0 (mj_w_at hsh) h1 kf h2 (va_Nw.use rfl (B.2.2.2.2.2.2.1.2 _ h5.1 h5.2)) (fun z hz => by rw [h4] at hz; exact hz) hfin hdty hn hfit hlen hd (fun H1 locs1 a _ b => fin H1 locs1 a b)
theorem mj_ldc {idx : Nat} {v : Int32} (hw : mj_wd (.constant M.1.cls idx v)) (hd : decode M.2.1 pc = .ok (.ldc idx, 2)) (k : mj_V M sh Q x (pc + 2) ls (.int v :: st)) : mj_V M sh Q x pc ls st := by
  intro p l e s m args below meth c D A ad cA B H locs lsA hP hS hL
  exact lv_ldc B.1 B.2.1 B.2.2.2.2.2.1 (mj_use B.2.2.2.2.2.2.1 hw.1 hw.2 args) hd (k p l e s m args below meth c D A ad cA B H locs lsA hP hS hL)
theorem mj_ldc2 {idx : Nat} {v : Int64} (hw : mj_wd (.constantLong M.1.cls idx v)) (hd : decode M.2.1 pc = .ok (.ldc2_w idx, 3)) (k : mj_V M sh Q x (pc + 3) ls (.long v :: st)) : mj_V M sh Q x pc ls st := by
  intro p l e s m args below meth c D A ad cA B H locs lsA hP hS hL
  exact lv_ldc2 B.1 B.2.1 B.2.2.2.2.2.1 (mj_use B.2.2.2.2.2.2.1 hw.1 hw.2 args) hd (k p l e s m args below meth c D A ad cA B H locs lsA hP hS hL)
/-- returns -/
theorem mj_ret {v : Int32} (hr : M.2.2.2.1 = some .int) (hd : decode M.2.1 pc = .ok (.ireturn, 1)) (hq : Q (some (.int v)) x) : mj_V M sh Q x pc ls [.int v] := by
  intro p l e s m args below meth c D A ad cA B H locs lsA hP hS hL
  exact W.iret (v := v) B.1 B.2.1 (B.2.2.2.1.trans hr) (fun t ht hW => ⟨⟨some (.int v), x, rfl, hq, by rw [ht]; exact hP⟩, hS.F ht⟩) hS.2.2 hd B.2.2.2.2.1
theorem mj_retz {v : Int32} (hr : M.2.2.2.1 = some .boolean) (hv : v = 0 ∨ v = 1) (hd : decode M.2.1 pc = .ok (.ireturn, 1)) (hq : Q (some (.int v)) x) : mj_V M sh Q x pc ls [.int v] := by
  intro p l e s m args below meth c D A ad cA B H locs lsA hP hS hL
  exact W.zret (v := v) B.1 B.2.1 (B.2.2.2.1.trans hr) (by rcases hv with rfl | rfl <;> rfl) (fun t ht hW => ⟨⟨some (.int v), x, rfl, hq, by rw [ht]; exact hP⟩, hS.F ht⟩) hS.2.2 hd B.2.2.2.2.1
theorem mj_retv (hr : M.2.2.2.1 = none) (hd : decode M.2.1 pc = .ok (.return_, 1)) (hq : Q none x) : mj_V M sh Q x pc ls [] := by
  intro p l e s m args below meth c D A ad cA B H locs lsA hP hS hL
  exact W.vret B.1 B.2.1 (B.2.2.2.1.trans hr) (fun t ht hW => ⟨⟨none, x, rfl, hq, by rw [ht]; exact hP⟩, hS.F ht⟩) hS.2.2 hd B.2.2.2.2.1
end MJV
