section GG
variable {E : gE} {Y : mY} {Z : gZ} {pc : Nat} {lv : List (Nat × Value)} {st : List Value} {w : wd} {ce sl : Nat}
theorem g_iconst {n : Int} {v : Int32} (hd : decode Y.2.1 pc = .ok (.iconst n, 1)) (hv : Int32.ofInt n = v) (k : G E Y Z (pc + 1) lv (.int v :: st) w ce sl) : G E Y Z pc lv (st) w ce sl := by
  intro p e s m args below meth c H locs ls X hl hP hD hS
  exact lv_iconst X.x X.b hd hv (k p e s m args below meth c H locs ls X hl hP hD hS)
theorem g_bipush {n : Int} {v : Int32} (hd : decode Y.2.1 pc = .ok (.bipush n, 2)) (hv : (Int8.ofInt n).toInt32 = v) (k : G E Y Z (pc + 2) lv (.int v :: st) w ce sl) : G E Y Z pc lv (st) w ce sl := by
  intro p e s m args below meth c H locs ls X hl hP hD hS
  exact lv_bipush X.x X.b hd hv (k p e s m args below meth c H locs ls X hl hP hD hS)
theorem g_sipush {n : Int} {v : Int32} (hd : decode Y.2.1 pc = .ok (.sipush n, 3)) (hv : (Int16.ofInt n).toInt32 = v) (k : G E Y Z (pc + 3) lv (.int v :: st) w ce sl) : G E Y Z pc lv (st) w ce sl := by
  intro p e s m args below meth c H locs ls X hl hP hD hS
  exact lv_sipush X.x X.b hd hv (k p e s m args below meth c H locs ls X hl hP hD hS)
theorem g_iload_n {j : Nat} {i : Fin 4} {x : Int32} (hd : decode Y.2.1 pc = .ok (.iload_n i, 1)) (hk : lv[j]? = some (i.val, .int x)) (k : G E Y Z (pc + 1) lv (.int x :: st) w ce sl) : G E Y Z pc lv (st) w ce sl := by
  intro p e s m args below meth c H locs ls X hl hP hD hS
  exact lv_iload_n X.x X.b hd rfl (lv_at hl j hk) (k p e s m args below meth c H locs ls X hl hP hD hS)
theorem g_iload {j i : Nat} {x : Int32} (hd : decode Y.2.1 pc = .ok (.iload i, 2)) (hk : lv[j]? = some (i, .int x)) (k : G E Y Z (pc + 2) lv (.int x :: st) w ce sl) : G E Y Z pc lv (st) w ce sl := by
  intro p e s m args below meth c H locs ls X hl hP hD hS
  exact lv_iload X.x X.b hd (lv_at hl j hk) (k p e s m args below meth c H locs ls X hl hP hD hS)
theorem g_aload_n {j : Nat} {i : Fin 4} {x : Nat} (hd : decode Y.2.1 pc = .ok (.aload_n i, 1)) (hk : lv[j]? = some (i.val, .ref x)) (k : G E Y Z (pc + 1) lv (.ref x :: st) w ce sl) : G E Y Z pc lv (st) w ce sl := by
  intro p e s m args below meth c H locs ls X hl hP hD hS
  exact lv_aload_n X.x X.b hd rfl (lv_at hl j hk) (k p e s m args below meth c H locs ls X hl hP hD hS)
theorem g_aload {j i : Nat} {x : Nat} (hd : decode Y.2.1 pc = .ok (.aload i, 2)) (hk : lv[j]? = some (i, .ref x)) (k : G E Y Z (pc + 2) lv (.ref x :: st) w ce sl) : G E Y Z pc lv (st) w ce sl := by
  intro p e s m args below meth c H locs ls X hl hP hD hS
  exact lv_aload X.x X.b hd (lv_at hl j hk) (k p e s m args below meth c H locs ls X hl hP hD hS)
theorem g_aload_nN {j : Nat} {i : Fin 4} (hd : decode Y.2.1 pc = .ok (.aload_n i, 1)) (hk : lv[j]? = some (i.val, .null)) (k : G E Y Z (pc + 1) lv (.null :: st) w ce sl) : G E Y Z pc lv (st) w ce sl := by
  intro p e s m args below meth c H locs ls X hl hP hD hS
  exact lv_aload_nN X.x X.b hd rfl (lv_at hl j hk) (k p e s m args below meth c H locs ls X hl hP hD hS)
theorem g_istore_n {i : Fin 4} {x : Int32} {lv' : List (Nat × Value)} (hd : decode Y.2.1 pc = .ok (.istore_n i, 1)) (hn : i.val < Y.2.2.1) (hl' : (i.val, Value.int x) :: lv.filter (fun q => !(q.1 == i.val) && !(q.1 + 1 == i.val && q.2.category == 2)) = lv') (k : G E Y Z (pc + 1) lv' st w ce sl) : G E Y Z pc lv (.int x :: st) w ce sl := by
  intro p e s m args below meth c H locs ls X hl hP hD hS
  exact lv_istore_n X.x X.b hd rfl hl hn hl' (fun ls' h' => k p e s m args below meth c H locs ls' X h' hP hD hS)
theorem g_istore {i : Nat} {x : Int32} {lv' : List (Nat × Value)} (hd : decode Y.2.1 pc = .ok (.istore i, 2)) (hn : i < Y.2.2.1) (hl' : (i, Value.int x) :: lv.filter (fun q => !(q.1 == i) && !(q.1 + 1 == i && q.2.category == 2)) = lv') (k : G E Y Z (pc + 2) lv' st w ce sl) : G E Y Z pc lv (.int x :: st) w ce sl := by
  intro p e s m args below meth c H locs ls X hl hP hD hS
  exact lv_istore X.x X.b hd hl hn hl' (fun ls' h' => k p e s m args below meth c H locs ls' X h' hP hD hS)
theorem g_astore_n {i : Fin 4} {x : Nat} {lv' : List (Nat × Value)} (hd : decode Y.2.1 pc = .ok (.astore_n i, 1)) (hn : i.val < Y.2.2.1) (hl' : (i.val, Value.ref x) :: lv.filter (fun q => !(q.1 == i.val) && !(q.1 + 1 == i.val && q.2.category == 2)) = lv') (k : G E Y Z (pc + 1) lv' st w ce sl) : G E Y Z pc lv (.ref x :: st) w ce sl := by
  intro p e s m args below meth c H locs ls X hl hP hD hS
  exact lv_astore_n X.x X.b hd rfl hl hn hl' (fun ls' h' => k p e s m args below meth c H locs ls' X h' hP hD hS)
theorem g_astore {i : Nat} {x : Nat} {lv' : List (Nat × Value)} (hd : decode Y.2.1 pc = .ok (.astore i, 2)) (hn : i < Y.2.2.1) (hl' : (i, Value.ref x) :: lv.filter (fun q => !(q.1 == i) && !(q.1 + 1 == i && q.2.category == 2)) = lv') (k : G E Y Z (pc + 2) lv' st w ce sl) : G E Y Z pc lv (.ref x :: st) w ce sl := by
  intro p e s m args below meth c H locs ls X hl hP hD hS
  exact lv_astore X.x X.b hd hl hn hl' (fun ls' h' => k p e s m args below meth c H locs ls' X h' hP hD hS)
theorem g_iinc {i j : Nat} {n : Int} {x v : Int32} {lv' : List (Nat × Value)} (hd : decode Y.2.1 pc = .ok (.iinc i n, 3)) (hk : lv[j]? = some (i, .int x)) (hv : x + Int32.ofInt n = v) (hn : i < Y.2.2.1) (hl' : (i, Value.int v) :: lv.filter (fun q => !(q.1 == i) && !(q.1 + 1 == i && q.2.category == 2)) = lv') (k : G E Y Z (pc + 3) lv' st w ce sl) : G E Y Z pc lv st w ce sl := by
  intro p e s m args below meth c H locs ls X hl hP hD hS
  exact lv_iinc X.x X.b hd hl hk hv hn hl' (fun ls' h' => k p e s m args below meth c H locs ls' X h' hP hD hS)
theorem g_iadd {x y : Int32} (hd : decode Y.2.1 pc = .ok (.iadd, 1)) (k : G E Y Z (pc + 1) lv (.int (x + y) :: st) w ce sl) : G E Y Z pc lv (.int y :: .int x :: st) w ce sl := by
  intro p e s m args below meth c H locs ls X hl hP hD hS
  exact lv_iadd X.x X.b hd (k p e s m args below meth c H locs ls X hl hP hD hS)
theorem g_isub {x y : Int32} (hd : decode Y.2.1 pc = .ok (.isub, 1)) (k : G E Y Z (pc + 1) lv (.int (x - y) :: st) w ce sl) : G E Y Z pc lv (.int y :: .int x :: st) w ce sl := by
  intro p e s m args below meth c H locs ls X hl hP hD hS
  exact lv_isub X.x X.b hd (k p e s m args below meth c H locs ls X hl hP hD hS)
theorem g_imul {x y : Int32} (hd : decode Y.2.1 pc = .ok (.imul, 1)) (k : G E Y Z (pc + 1) lv (.int (x * y) :: st) w ce sl) : G E Y Z pc lv (.int y :: .int x :: st) w ce sl := by
  intro p e s m args below meth c H locs ls X hl hP hD hS
  exact lv_imul X.x X.b hd (k p e s m args below meth c H locs ls X hl hP hD hS)
theorem g_iand {x y : Int32} (hd : decode Y.2.1 pc = .ok (.iand, 1)) (k : G E Y Z (pc + 1) lv (.int (x &&& y) :: st) w ce sl) : G E Y Z pc lv (.int y :: .int x :: st) w ce sl := by
  intro p e s m args below meth c H locs ls X hl hP hD hS
  exact lv_iand X.x X.b hd (k p e s m args below meth c H locs ls X hl hP hD hS)
theorem g_ishr {x y : Int32} (hd : decode Y.2.1 pc = .ok (.ishr, 1)) (k : G E Y Z (pc + 1) lv (.int (x >>> (y &&& 31)) :: st) w ce sl) : G E Y Z pc lv (.int y :: .int x :: st) w ce sl := by
  intro p e s m args below meth c H locs ls X hl hP hD hS
  exact lv_ishr X.x X.b hd (k p e s m args below meth c H locs ls X hl hP hD hS)
theorem g_dup {va : Value} (hd : decode Y.2.1 pc = .ok (.dup, 1)) (hc : va.category = 1) (k : G E Y Z (pc + 1) lv (va :: va :: st) w ce sl) : G E Y Z pc lv (va :: st) w ce sl := by
  intro p e s m args below meth c H locs ls X hl hP hD hS
  exact lv_dup X.x X.b hd hc (k p e s m args below meth c H locs ls X hl hP hD hS)
theorem g_pop {va : Value} (hd : decode Y.2.1 pc = .ok (.pop, 1)) (hc : va.category = 1) (k : G E Y Z (pc + 1) lv (st) w ce sl) : G E Y Z pc lv (va :: st) w ce sl := by
  intro p e s m args below meth c H locs ls X hl hP hD hS
  exact lv_pop X.x X.b hd hc (k p e s m args below meth c H locs ls X hl hP hD hS)
theorem g_dup_x1 {va vb : Value} (hd : decode Y.2.1 pc = .ok (.dup_x1, 1)) (hc : va.category = 1) (hc2 : vb.category = 1) (k : G E Y Z (pc + 1) lv (va :: vb :: va :: st) w ce sl) : G E Y Z pc lv (va :: vb :: st) w ce sl := by
  intro p e s m args below meth c H locs ls X hl hP hD hS
  exact lv_dup_x1 X.x X.b hd hc hc2 (k p e s m args below meth c H locs ls X hl hP hD hS)
theorem g_dup_x2 {va vb vd : Value} (hd : decode Y.2.1 pc = .ok (.dup_x2, 1)) (hc : va.category = 1) (hc2 : vb.category = 1) (hc3 : vd.category = 1) (k : G E Y Z (pc + 1) lv (va :: vb :: vd :: va :: st) w ce sl) : G E Y Z pc lv (va :: vb :: vd :: st) w ce sl := by
  intro p e s m args below meth c H locs ls X hl hP hD hS
  exact lv_dup_x2 X.x X.b hd hc hc2 hc3 (k p e s m args below meth c H locs ls X hl hP hD hS)
theorem g_dup2 {va vb : Value} (hd : decode Y.2.1 pc = .ok (.dup2, 1)) (hc : va.category = 1) (hc2 : vb.category = 1) (k : G E Y Z (pc + 1) lv (va :: vb :: va :: vb :: st) w ce sl) : G E Y Z pc lv (va :: vb :: st) w ce sl := by
  intro p e s m args below meth c H locs ls X hl hP hD hS
  exact lv_dup2_11 X.x X.b hd hc hc2 (k p e s m args below meth c H locs ls X hl hP hD hS)
theorem g_null (hd : decode Y.2.1 pc = .ok (.aconst_null, 1)) (k : G E Y Z (pc + 1) lv (.null :: st) w ce sl) : G E Y Z pc lv (st) w ce sl := by
  intro p e s m args below meth c H locs ls X hl hP hD hS
  exact lv_null X.x X.b hd (k p e s m args below meth c H locs ls X hl hP hD hS)
theorem g_goto {off : Int} {tgt : Nat} (hd : decode Y.2.1 pc = .ok (.goto off, 3)) (ht : (pc : Int) + off = (tgt : Int)) (k : G E Y Z tgt lv st w ce sl) : G E Y Z pc lv st w ce sl := by
  intro p e s m args below meth c H locs ls X hl hP hD hS
  exact lv_goto X.x X.b hd ht (k p e s m args below meth c H locs ls X hl hP hD hS)
theorem g_if_eq {x : Int32} {off : Int} {tgt : Nat} (hd : decode Y.2.1 pc = .ok (.ifCond .eq off, 3)) (ht : (pc : Int) + off = (tgt : Int)) (kt : x = 0 → G E Y Z tgt lv st w ce sl) (kf : ¬ x = 0 → G E Y Z (pc + 3) lv st w ce sl) : G E Y Z pc lv (.int x :: st) w ce sl := by
  intro p e s m args below meth c H locs ls X hl hP hD hS
  exact lv_if_eq X.x X.b hd ht (fun h => kt h p e s m args below meth c H locs ls X hl hP hD hS) (fun h => kf h p e s m args below meth c H locs ls X hl hP hD hS)
theorem g_icmp_eq {x y : Int32} {off : Int} {tgt : Nat} (hd : decode Y.2.1 pc = .ok (.if_icmp .eq off, 3)) (ht : (pc : Int) + off = (tgt : Int)) (kt : x = y → G E Y Z tgt lv st w ce sl) (kf : ¬ x = y → G E Y Z (pc + 3) lv st w ce sl) : G E Y Z pc lv (.int y :: .int x :: st) w ce sl := by
  intro p e s m args below meth c H locs ls X hl hP hD hS
  exact lv_icmp_eq X.x X.b hd ht (fun h => kt h p e s m args below meth c H locs ls X hl hP hD hS) (fun h => kf h p e s m args below meth c H locs ls X hl hP hD hS)
theorem g_if_ne {x : Int32} {off : Int} {tgt : Nat} (hd : decode Y.2.1 pc = .ok (.ifCond .ne off, 3)) (ht : (pc : Int) + off = (tgt : Int)) (kt : ¬ x = 0 → G E Y Z tgt lv st w ce sl) (kf : x = 0 → G E Y Z (pc + 3) lv st w ce sl) : G E Y Z pc lv (.int x :: st) w ce sl := by
  intro p e s m args below meth c H locs ls X hl hP hD hS
  exact lv_if_ne X.x X.b hd ht (fun h => kt h p e s m args below meth c H locs ls X hl hP hD hS) (fun h => kf h p e s m args below meth c H locs ls X hl hP hD hS)
theorem g_icmp_ne {x y : Int32} {off : Int} {tgt : Nat} (hd : decode Y.2.1 pc = .ok (.if_icmp .ne off, 3)) (ht : (pc : Int) + off = (tgt : Int)) (kt : ¬ x = y → G E Y Z tgt lv st w ce sl) (kf : x = y → G E Y Z (pc + 3) lv st w ce sl) : G E Y Z pc lv (.int y :: .int x :: st) w ce sl := by
  intro p e s m args below meth c H locs ls X hl hP hD hS
  exact lv_icmp_ne X.x X.b hd ht (fun h => kt h p e s m args below meth c H locs ls X hl hP hD hS) (fun h => kf h p e s m args below meth c H locs ls X hl hP hD hS)
theorem g_if_lt {x : Int32} {off : Int} {tgt : Nat} (hd : decode Y.2.1 pc = .ok (.ifCond .lt off, 3)) (ht : (pc : Int) + off = (tgt : Int)) (kt : x < 0 → G E Y Z tgt lv st w ce sl) (kf : ¬ x < 0 → G E Y Z (pc + 3) lv st w ce sl) : G E Y Z pc lv (.int x :: st) w ce sl := by
  intro p e s m args below meth c H locs ls X hl hP hD hS
  exact lv_if_lt X.x X.b hd ht (fun h => kt h p e s m args below meth c H locs ls X hl hP hD hS) (fun h => kf h p e s m args below meth c H locs ls X hl hP hD hS)
theorem g_icmp_lt {x y : Int32} {off : Int} {tgt : Nat} (hd : decode Y.2.1 pc = .ok (.if_icmp .lt off, 3)) (ht : (pc : Int) + off = (tgt : Int)) (kt : x < y → G E Y Z tgt lv st w ce sl) (kf : ¬ x < y → G E Y Z (pc + 3) lv st w ce sl) : G E Y Z pc lv (.int y :: .int x :: st) w ce sl := by
  intro p e s m args below meth c H locs ls X hl hP hD hS
  exact lv_icmp_lt X.x X.b hd ht (fun h => kt h p e s m args below meth c H locs ls X hl hP hD hS) (fun h => kf h p e s m args below meth c H locs ls X hl hP hD hS)
theorem g_if_ge {x : Int32} {off : Int} {tgt : Nat} (hd : decode Y.2.1 pc = .ok (.ifCond .ge off, 3)) (ht : (pc : Int) + off = (tgt : Int)) (kt : 0 ≤ x → G E Y Z tgt lv st w ce sl) (kf : ¬ 0 ≤ x → G E Y Z (pc + 3) lv st w ce sl) : G E Y Z pc lv (.int x :: st) w ce sl := by
  intro p e s m args below meth c H locs ls X hl hP hD hS
  exact lv_if_ge X.x X.b hd ht (fun h => kt h p e s m args below meth c H locs ls X hl hP hD hS) (fun h => kf h p e s m args below meth c H locs ls X hl hP hD hS)
theorem g_icmp_ge {x y : Int32} {off : Int} {tgt : Nat} (hd : decode Y.2.1 pc = .ok (.if_icmp .ge off, 3)) (ht : (pc : Int) + off = (tgt : Int)) (kt : y ≤ x → G E Y Z tgt lv st w ce sl) (kf : ¬ y ≤ x → G E Y Z (pc + 3) lv st w ce sl) : G E Y Z pc lv (.int y :: .int x :: st) w ce sl := by
  intro p e s m args below meth c H locs ls X hl hP hD hS
  exact lv_icmp_ge X.x X.b hd ht (fun h => kt h p e s m args below meth c H locs ls X hl hP hD hS) (fun h => kf h p e s m args below meth c H locs ls X hl hP hD hS)
theorem g_if_gt {x : Int32} {off : Int} {tgt : Nat} (hd : decode Y.2.1 pc = .ok (.ifCond .gt off, 3)) (ht : (pc : Int) + off = (tgt : Int)) (kt : 0 < x → G E Y Z tgt lv st w ce sl) (kf : ¬ 0 < x → G E Y Z (pc + 3) lv st w ce sl) : G E Y Z pc lv (.int x :: st) w ce sl := by
  intro p e s m args below meth c H locs ls X hl hP hD hS
  exact lv_if_gt X.x X.b hd ht (fun h => kt h p e s m args below meth c H locs ls X hl hP hD hS) (fun h => kf h p e s m args below meth c H locs ls X hl hP hD hS)
theorem g_icmp_gt {x y : Int32} {off : Int} {tgt : Nat} (hd : decode Y.2.1 pc = .ok (.if_icmp .gt off, 3)) (ht : (pc : Int) + off = (tgt : Int)) (kt : y < x → G E Y Z tgt lv st w ce sl) (kf : ¬ y < x → G E Y Z (pc + 3) lv st w ce sl) : G E Y Z pc lv (.int y :: .int x :: st) w ce sl := by
  intro p e s m args below meth c H locs ls X hl hP hD hS
  exact lv_icmp_gt X.x X.b hd ht (fun h => kt h p e s m args below meth c H locs ls X hl hP hD hS) (fun h => kf h p e s m args below meth c H locs ls X hl hP hD hS)
theorem g_if_le {x : Int32} {off : Int} {tgt : Nat} (hd : decode Y.2.1 pc = .ok (.ifCond .le off, 3)) (ht : (pc : Int) + off = (tgt : Int)) (kt : x ≤ 0 → G E Y Z tgt lv st w ce sl) (kf : ¬ x ≤ 0 → G E Y Z (pc + 3) lv st w ce sl) : G E Y Z pc lv (.int x :: st) w ce sl := by
  intro p e s m args below meth c H locs ls X hl hP hD hS
  exact lv_if_le X.x X.b hd ht (fun h => kt h p e s m args below meth c H locs ls X hl hP hD hS) (fun h => kf h p e s m args below meth c H locs ls X hl hP hD hS)
theorem g_icmp_le {x y : Int32} {off : Int} {tgt : Nat} (hd : decode Y.2.1 pc = .ok (.if_icmp .le off, 3)) (ht : (pc : Int) + off = (tgt : Int)) (kt : x ≤ y → G E Y Z tgt lv st w ce sl) (kf : ¬ x ≤ y → G E Y Z (pc + 3) lv st w ce sl) : G E Y Z pc lv (.int y :: .int x :: st) w ce sl := by
  intro p e s m args below meth c H locs ls X hl hP hD hS
  exact lv_icmp_le X.x X.b hd ht (fun h => kt h p e s m args below meth c H locs ls X hl hP hD hS) (fun h => kf h p e s m args below meth c H locs ls X hl hP hD hS)
theorem g_acmp_eq {rx ry : Option Nat} {off : Int} {tgt : Nat} (hd : decode Y.2.1 pc = .ok (.if_acmp .eq off, 3)) (ht : (pc : Int) + off = (tgt : Int)) (kt : rx = ry → G E Y Z tgt lv st w ce sl) (kf : ¬ rx = ry → G E Y Z (pc + 3) lv st w ce sl) : G E Y Z pc lv (va_rf ry :: va_rf rx :: st) w ce sl := by
  intro p e s m args below meth c H locs ls X hl hP hD hS
  exact lv_acmp_eq X.x X.b hd ht (fun h => kt h p e s m args below meth c H locs ls X hl hP hD hS) (fun h => kf h p e s m args below meth c H locs ls X hl hP hD hS)
theorem g_acmp_ne {rx ry : Option Nat} {off : Int} {tgt : Nat} (hd : decode Y.2.1 pc = .ok (.if_acmp .ne off, 3)) (ht : (pc : Int) + off = (tgt : Int)) (kt : ¬ rx = ry → G E Y Z tgt lv st w ce sl) (kf : rx = ry → G E Y Z (pc + 3) lv st w ce sl) : G E Y Z pc lv (va_rf ry :: va_rf rx :: st) w ce sl := by
  intro p e s m args below meth c H locs ls X hl hP hD hS
  exact lv_acmp_ne X.x X.b hd ht (fun h => kt h p e s m args below meth c H locs ls X hl hP hD hS) (fun h => kf h p e s m args below meth c H locs ls X hl hP hD hS)
theorem g_tableOut {dflt lo hi : Int} {offs : Array Int} {len : Nat} {x : Int32} {tgt : Nat} (hd : decode Y.2.1 pc = .ok (.tableswitch dflt lo hi offs, len)) (h : x.toInt < lo ∨ hi < x.toInt) (ht : (pc : Int) + dflt = (tgt : Int)) (k : G E Y Z tgt lv st w ce sl) : G E Y Z pc lv (.int x :: st) w ce sl := by
  intro p e s m args below meth c H locs ls X hl hP hD hS
  exact lv_tableOut X.x X.b hd h ht (k p e s m args below meth c H locs ls X hl hP hD hS)
theorem g_tableIn {dflt lo hi : Int} {offs : Array Int} {len : Nat} {x : Int32} {off : Int} {tgt : Nat} (hd : decode Y.2.1 pc = .ok (.tableswitch dflt lo hi offs, len)) (h1 : ¬ x.toInt < lo) (h2 : ¬ hi < x.toInt) (ho : offs[(x.toInt - lo).toNat]? = some off) (ht : (pc : Int) + off = (tgt : Int)) (k : G E Y Z tgt lv st w ce sl) : G E Y Z pc lv (.int x :: st) w ce sl := by
  intro p e s m args below meth c H locs ls X hl hP hD hS
  exact lv_tableIn X.x X.b hd h1 h2 ho ht (k p e s m args below meth c H locs ls X hl hP hD hS)
theorem g_lookup {dflt : Int} {ps : Array (Int × Int)} {len : Nat} {x : Int32} {off : Int} {tgt : Nat} (hd : decode Y.2.1 pc = .ok (.lookupswitch dflt ps, len)) (hp : (ps.toList.zip (ps.toList.drop 1)).all (fun (a, next) => a.1 < next.1) = true) (ho : Op.lookupswitch.offset ps.toList dflt x.toInt = off) (ht : (pc : Int) + off = (tgt : Int)) (k : G E Y Z tgt lv st w ce sl) : G E Y Z pc lv (.int x :: st) w ce sl := by
  intro p e s m args below meth c H locs ls X hl hP hD hS
  exact lv_lookup X.x X.b hd hp ho ht (k p e s m args below meth c H locs ls X hl hP hD hS)
theorem g_topi {x : Int32} (k : ∀ y : Int32, y = x → G E Y Z pc lv (.int y :: st) w ce sl) : G E Y Z pc lv (.int x :: st) w ce sl := k x rfl
/-- the same state in other words -/
theorem g_eq {lv' : List (Nat × Value)} {st' : List Value} {w' : wd} (h1 : lv = lv') (h2 : st = st') (h3 : w = w') (k : G E Y Z pc lv' st' w' ce sl) : G E Y Z pc lv st w ce sl := by
  subst h1 h2 h3
  exact k
/-- fewer locals, by their places -/
theorem g_lv {lv' : List (Nat × Value)} (ks : List Nat) (hl' : lv_pick lv ks = lv') (k : G E Y Z pc lv' st w ce sl) : G E Y Z pc lv st w ce sl := by
  intro p e s m args below meth c H locs ls X hl hP hD hS
  exact k p e s m args below meth c H locs ls X (lv_sub hl ks hl') hP hD hS
/-- a field by its class's place, its place there, and the number in the pool of the class that reads it -/
def fdl (own : String) (ci j index : Nat) : Prop := ∃ (C : String) (T : u_T) (N : Nat) (ref : String), vwCl[ci]? = some (C, T, N) ∧ (∀ w ∈ u_ws C T N, w ∈ WS) ∧ j < N ∧ Cond.fieldLink own index ref (T j).2.1 (T j).2.2.1 ∈ WS ∧ (ref = (T j).1 ∨ Cond.sameField ref (T j).1 (T j).2.1 (T j).2.2.1 ∈ WS)
theorem fd_same {s : State} {args : Array Value} {ref C n d : String} (hts : ∀ w ∈ WS, w.before args s = true) (h : ref = C ∨ Cond.sameField ref C n d ∈ WS) : ∀ x, s.fieldFound? C n d = some x → s.fieldFound? ref n d = some x := by
  rcases h with h | h
  · subst h
    exact fun _ z => z
  · exact fun x z => u_same (hts _ h) x z
theorem g_get {a ci j index : Nat} {fs : List Value} {v : Value} (hd : decode Y.2.1 pc = .ok (.getfield index, 3)) (hf : fdl Y.1.cls ci j index) (ha : wh w a (.inr (ci, fs))) (hv : fs[j]? = some v) (k : G E Y Z (pc + 3) lv (v :: st) w ce sl) : G E Y Z pc lv (.ref a :: st) w ce sl := by
  intro p e s m args below meth c H locs ls X hl hP hD hS
  obtain ⟨C, T, N, ref, h1, h2, h3, h4, h5⟩ := hf
  obtain ⟨q0, hq⟩ := ha.at
  exact va_get X.x X.b X.ts h2 X.own X.K.1 hP q0 hq h1 j h3 (X.ts _ h4) (fd_same X.ts h5) hv hd (k p e s m args below meth c H locs ls X hl hP hD hS)
/-- a field that may be written -/
def fdw (own : String) (ci j index : Nat) (ty : FieldType) (fin : Bool) : Prop := ∃ (C : String) (T : u_T) (N : Nat) (ref : String) (ty0 : Nat → FieldType), vwCl[ci]? = some (C, T, N) ∧ (∀ w ∈ u_ws C T N, w ∈ WS) ∧ j < N ∧ Cond.fieldLink own index ref (T j).2.1 (T j).2.2.1 ∈ WS ∧ (ref = (T j).1 ∨ Cond.sameField ref (T j).1 (T j).2.1 (T j).2.2.1 ∈ WS) ∧ (∀ k, k < N → parseFieldDescriptor (T k).2.2.1 = some (ty0 k)) ∧ (∀ a, a < N → ∀ b, b < N → a ≠ b → (T a).2.1 ≠ (T b).2.1) ∧ parseFieldDescriptor (T j).2.2.1 = some ty ∧ (T j).2.2.2 = fin ∧ (fin = true → (T j).1 = own)
theorem g_put {a ci j index : Nat} {fs : List Value} {v : Value} {ty : FieldType} {fin : Bool} (hd : decode Y.2.1 pc = .ok (.putfield index, 3)) (hf : fdw Y.1.cls ci j index ty fin) (hi : fin = false ∨ Y.1.name = "<init>") (ha : wh w a (.inr (ci, fs))) (hn : narrow ty v = v) (hfit : fits ty v = true) (hl0 : j < fs.length) (k : G E Y Z (pc + 3) lv st (wu w a (.inr (ci, fs.set j v))) ce sl) : G E Y Z pc lv (v :: .ref a :: st) w ce sl := by
  intro p e s m args below meth c H locs ls X hl hP hD hS
  obtain ⟨C, T, N, ref, ty0, h1, h2, h3, h4, h5, h6, h7, h8, h9, h10⟩ := hf
  obtain ⟨q0, hq⟩ := ha.at
  have kk : ∀ (H1 : Heap) (locs1 : List Loc), va_P E.2.1 vwCl ((wl w).set q0 (a, .inr (ci, fs.set j v))) H1 → va_D Z.2.1 ((wl w).set q0 (a, .inr (ci, fs.set j v))) → va_S Z.2.1 s.heap H1 locs1 → W p E.1 e (Z.1) s m args below meth c H1 locs1 ce sl (MQ below (gQ E Z) args s Z.1.cells Z.1.slots Z.2.1) (F0 m (pc + 3) ls st) := by
    intro H1 locs1 hP1 hD1 hS1
    rw [ha.set hD hq] at hP1 hD1
    exact k p e s m args below meth c H1 locs1 ls X hl hP1 hD1 hS1
  cases hfn : fin with
  | false => exact va_put X.x X.b X.ts h2 ty0 h6 h7 X.own X.K.1 hP hD hS q0 hq h1 j h3 (X.ts _ h4) (fd_same X.ts h5) (h9.trans hfn) h8 hn hfit hl0 hd kk
  | true =>
    rcases hi with hz | hz
    · rw [hfn] at hz; cases hz
    · exact va_putF X.x X.b X.ts h2 ty0 h6 h7 X.own X.K.1 hP hD hS q0 hq h1 j h3 (X.ts _ h4) (fd_same X.ts h5) (h9.trans hfn) (X.nm hz) (h10 hfn) h8 hn hfit hl0 hd kk
theorem g_iald {a n j : Nat} {f : Nat → Int32} {i : Int32} (hd : decode Y.2.1 pc = .ok (.iaload, 1)) (ha : wh w a (.inl (E.2.2.1 0, n, .inl f))) (hi : i = nI j) (hj : j < n) (hn : n < 2 ^ 31) (k : G E Y Z (pc + 1) lv (.int (f j) :: st) w ce sl) : G E Y Z pc lv (.int i :: .ref a :: st) w ce sl := by
  intro p e s m args below meth c H locs ls X hl hP hD hS
  obtain ⟨q0, hq⟩ := ha.at
  refine va_iald X.x X.b X.K.1 hP q0 0 hq rfl (pk_in j n hj hi hn) hd ?_
  rw [pk_cl j hi (by omega)]
  exact k p e s m args below meth c H locs ls X hl hP hD hS
theorem g_zald {a n j : Nat} {f : Nat → Int32} {i : Int32} (hd : decode Y.2.1 pc = .ok (.baload, 1)) (ha : wh w a (.inl (E.2.2.1 1, n, .inl f))) (hi : i = nI j) (hj : j < n) (hn : n < 2 ^ 31) (k : G E Y Z (pc + 1) lv (.int (f j) :: st) w ce sl) : G E Y Z pc lv (.int i :: .ref a :: st) w ce sl := by
  intro p e s m args below meth c H locs ls X hl hP hD hS
  obtain ⟨q0, hq⟩ := ha.at
  refine va_zald X.x X.b X.K.1 hP q0 1 hq rfl (pk_in j n hj hi hn) hd ?_
  rw [pk_cl j hi (by omega)]
  exact k p e s m args below meth c H locs ls X hl hP hD hS
theorem g_iast {a n j : Nat} {f : Nat → Int32} {i x : Int32} (hd : decode Y.2.1 pc = .ok (.iastore, 1)) (ha : wh w a (.inl (E.2.2.1 0, n, .inl f))) (hi : i = nI j) (hj : j < n) (hn : n < 2 ^ 31) (k : G E Y Z (pc + 1) lv st (wu w a (.inl (E.2.2.1 0, n, .inl (upd f j x)))) ce sl) : G E Y Z pc lv (.int x :: .int i :: .ref a :: st) w ce sl := by
  intro p e s m args below meth c H locs ls X hl hP hD hS
  obtain ⟨q0, hq⟩ := ha.at
  refine va_iast X.x X.b X.K.1 hP hD hS q0 0 hq rfl (pk_in j n hj hi hn) hd (fun H1 locs1 hP1 hD1 hS1 => ?_)
  rw [pk_cl j hi (by omega), ha.set hD hq] at hP1 hD1
  exact k p e s m args below meth c H1 locs1 ls X hl hP1 hD1 hS1
theorem g_zast {a n j : Nat} {f : Nat → Int32} {i x : Int32} (hd : decode Y.2.1 pc = .ok (.bastore, 1)) (ha : wh w a (.inl (E.2.2.1 1, n, .inl f))) (hi : i = nI j) (hj : j < n) (hn : n < 2 ^ 31) (hx : vp_nar .boolean x = x) (k : G E Y Z (pc + 1) lv st (wu w a (.inl (E.2.2.1 1, n, .inl (upd f j x)))) ce sl) : G E Y Z pc lv (.int x :: .int i :: .ref a :: st) w ce sl := by
  intro p e s m args below meth c H locs ls X hl hP hD hS
  obtain ⟨q0, hq⟩ := ha.at
  refine va_zast X.x X.b X.K.1 hP hD hS q0 1 hq rfl (pk_in j n hj hi hn) hd (fun H1 locs1 hP1 hD1 hS1 => ?_)
  rw [hx, pk_cl j hi (by omega), ha.set hD hq] at hP1 hD1
  exact k p e s m args below meth c H1 locs1 ls X hl hP1 hD1 hS1
theorem g_aald {a n j t0 : Nat} {cA : ClassId} {C : String} {f : Nat → Option Nat} {i : Int32} {v : Value} (hd : decode Y.2.1 pc = .ok (.aaload, 1)) (ha : wh w a (.inl (cA, n, .inr (.inr (.inr (.inr f)))))) (ht : (tyl E)[t0]? = some (cA, .object C)) (hi : i = nI j) (hj : j < n) (hn : n < 2 ^ 31) (hv : va_rf (f j) = v) (k : G E Y Z (pc + 1) lv (v :: st) w ce sl) : G E Y Z pc lv (.int i :: .ref a :: st) w ce sl := by
  intro p e s m args below meth c H locs ls X hl hP hD hS
  obtain ⟨q0, hq⟩ := ha.at
  refine va_aldq X.x X.b X.K.1 hP q0 t0 hq ht (pk_in j n hj hi hn) hd ?_
  rw [pk_cl j hi (by omega), hv]
  exact k p e s m args below meth c H locs ls X hl hP hD hS
theorem g_aast {a n j t0 v ci : Nat} {cA : ClassId} {r : vw_C} {f : Nat → Option Nat} {i : Int32} {vs : List Value} (hd : decode Y.2.1 pc = .ok (.aastore, 1)) (ha : wh w a (.inl (cA, n, .inr (.inr (.inr (.inr f)))))) (ht : (tyl E)[t0]? = some (cA, .object r.1)) (hv : wh w v (.inr (ci, vs))) (hc : vwCl[ci]? = some r) (hi : i = nI j) (hj : j < n) (hn : n < 2 ^ 31) (k : G E Y Z (pc + 1) lv st (wu w a (.inl (cA, n, .inr (.inr (.inr (.inr (va_up f j (some v)))))))) ce sl) : G E Y Z pc lv (.ref v :: .int i :: .ref a :: st) w ce sl := by
  intro p e s m args below meth c H locs ls X hl hP hD hS
  obtain ⟨q0, hq⟩ := ha.at
  obtain ⟨q1, hq1⟩ := hv.at
  refine va_astq X.x X.b X.K.1 hP hD hS q0 t0 q1 ci hq ht hq1 hc (pk_in j n hj hi hn) hd (fun H1 locs1 hP1 hD1 hS1 => ?_)
  rw [pk_cl j hi (by omega), ha.set hD hq] at hP1 hD1
  exact k p e s m args below meth c H1 locs1 ls X hl hP1 hD1 hS1
/-- into a row of a wider kind -/
theorem g_aastO {a n j t0 v ci : Nat} {cA : ClassId} {r : vw_C} {O : String} {f : Nat → Option Nat} {i : Int32} {vs : List Value} (hd : decode Y.2.1 pc = .ok (.aastore, 1)) (ha : wh w a (.inl (cA, n, .inr (.inr (.inr (.inr f)))))) (ht : (tyl E)[t0]? = some (cA, .object O)) (hca : Cond.castable r.1 O ∈ lw_tbl) (hv : wh w v (.inr (ci, vs))) (hc : vwCl[ci]? = some r) (hi : i = nI j) (hj : j < n) (hn : n < 2 ^ 31) (k : G E Y Z (pc + 1) lv st (wu w a (.inl (cA, n, .inr (.inr (.inr (.inr (va_up f j (some v)))))))) ce sl) : G E Y Z pc lv (.ref v :: .int i :: .ref a :: st) w ce sl := by
  intro p e s m args below meth c H locs ls X hl hP hD hS
  obtain ⟨q0, hq⟩ := ha.at
  obtain ⟨q1, hq1⟩ := hv.at
  refine va_astqO X.x X.b X.K.1 hP hD hS q0 t0 q1 ci hq ht (X.K.2.1 _ hca rfl) hq1 hc (pk_in j n hj hi hn) hd (fun H1 locs1 hP1 hD1 hS1 => ?_)
  rw [pk_cl j hi (by omega), ha.set hD hq] at hP1 hD1
  exact k p e s m args below meth c H1 locs1 ls X hl hP1 hD1 hS1
theorem g_aastN {a n j t0 : Nat} {cA : ClassId} {C : String} {f : Nat → Option Nat} {i : Int32} (hd : decode Y.2.1 pc = .ok (.aastore, 1)) (ha : wh w a (.inl (cA, n, .inr (.inr (.inr (.inr f)))))) (ht : (tyl E)[t0]? = some (cA, .object C)) (hi : i = nI j) (hj : j < n) (hn : n < 2 ^ 31) (k : G E Y Z (pc + 1) lv st (wu w a (.inl (cA, n, .inr (.inr (.inr (.inr (va_up f j none))))))) ce sl) : G E Y Z pc lv (.null :: .int i :: .ref a :: st) w ce sl := by
  intro p e s m args below meth c H locs ls X hl hP hD hS
  obtain ⟨q0, hq⟩ := ha.at
  refine va_astqN X.x X.b X.K.1 hP hD hS q0 t0 hq ht (pk_in j n hj hi hn) hd (fun H1 locs1 hP1 hD1 hS1 => ?_)
  rw [pk_cl j hi (by omega), ha.set hD hq] at hP1 hD1
  exact k p e s m args below meth c H1 locs1 ls X hl hP1 hD1 hS1
theorem g_alen {a t0 : Nat} {cA : ClassId} {x : vp_A} {ty : FieldType} (hd : decode Y.2.1 pc = .ok (.arraylength, 1)) (ha : wh w a (.inl (cA, x))) (ht : (tyl E)[t0]? = some (cA, ty)) (k : G E Y Z (pc + 1) lv (.int (nI x.1) :: st) w ce sl) : G E Y Z pc lv (.ref a :: st) w ce sl := by
  intro p e s m args below meth c H locs ls X hl hP hD hS
  obtain ⟨q0, hq⟩ := ha.at
  exact va_alen X.x X.b X.K.1 hP q0 t0 hq ht rfl hd (k p e s m args below meth c H locs ls X hl hP hD hS)
theorem g_new {ci index N : Nat} {C : String} {T : u_T} {fs : List Value} (ty : Nat → FieldType) (hd : decode Y.2.1 pc = .ok (.new index, 3)) (hc : vwCl[ci]? = some (C, T, N)) (hin : ∀ w ∈ u_ws C T N, w ∈ WS) (hty : ∀ k, k < N → parseFieldDescriptor (T k).2.2.1 = some (ty k)) (hcl : Cond.classLink Y.1.cls index C ∈ WS) (hinst : Cond.instantiable C N ∈ WS) (hini : Cond.initialized C ∈ WS) (hfs : ∀ j, j < N → defaultValue (ty j) = vp_V fs j) (hce : ce + 1 ≤ Z.1.cells) (hsl : sl + N ≤ Z.1.slots) (k : ∀ q : Nat, q ∉ w.1 → G E Y Z (pc + 3) lv (.ref q :: st) (wn w q (.inr (ci, fs))) (ce + 1) (sl + N)) : G E Y Z pc lv st w ce sl := by
  intro p e s m args below meth c H locs ls X hl hP hD hS
  refine va_new X.x X.b X.ts hin ty hty X.own (X.ts _ hcl) (X.ts _ hinst) (X.ts _ hini) X.K.1 hP hD hS X.A hc hfs hce hsl hd (fun q H1 hP1 hD1 hS1 => ?_)
  obtain ⟨hq, he⟩ := wl.push hD1
  rw [he] at hP1 hD1
  exact k q hq p e s m args below meth c H1 locs ls X hl hP1 hD1 hS1
theorem g_ireturn {v : Int32} (hd : decode Y.2.1 pc = .ok (.ireturn, 1)) (hr : Y.2.2.2 = some .int) (hce : ce ≤ Z.1.cells) (hsl : sl ≤ Z.1.slots) (hq : Z.2.2.1 (some (.int v)) w) : G E Y Z pc lv [.int v] w ce sl := by
  intro p e s m args below meth c H locs ls X hl hP hD hS
  refine W.widen hce hsl ?_
  exact W.iret X.x X.b (X.rt.trans hr) (fun t ht _ => ⟨⟨_, w, rfl, hq, by rw [ht]; exact hP, hD⟩, hS.F ht⟩) hS.2.2 hd X.lk
theorem g_zreturn {v : Int32} (hd : decode Y.2.1 pc = .ok (.ireturn, 1)) (hr : Y.2.2.2 = some .boolean) (hn : narrow .boolean (.int v) = .int v) (hce : ce ≤ Z.1.cells) (hsl : sl ≤ Z.1.slots) (hq : Z.2.2.1 (some (.int v)) w) : G E Y Z pc lv [.int v] w ce sl := by
  intro p e s m args below meth c H locs ls X hl hP hD hS
  refine W.widen hce hsl ?_
  exact W.zret X.x X.b (X.rt.trans hr) hn (fun t ht _ => ⟨⟨_, w, rfl, hq, by rw [ht]; exact hP, hD⟩, hS.F ht⟩) hS.2.2 hd X.lk
theorem g_areturn {v : Value} {C : String} (hd : decode Y.2.1 pc = .ok (.areturn, 1)) (hr : Y.2.2.2 = some (.object C)) (hv : v = .null ∨ ∃ a, v = .ref a) (hce : ce ≤ Z.1.cells) (hsl : sl ≤ Z.1.slots) (hq : Z.2.2.1 (some v) w) : G E Y Z pc lv [v] w ce sl := by
  intro p e s m args below meth c H locs ls X hl hP hD hS
  refine W.widen hce hsl ?_
  exact W.aret X.x X.b (X.rt.trans hr) (Or.inl ⟨C, rfl⟩) hv (fun t ht _ => ⟨⟨_, w, rfl, hq, by rw [ht]; exact hP, hD⟩, hS.F ht⟩) hS.2.2 hd X.lk
theorem g_return (hd : decode Y.2.1 pc = .ok (.return_, 1)) (hr : Y.2.2.2 = none) (hce : ce ≤ Z.1.cells) (hsl : sl ≤ Z.1.slots) (hq : Z.2.2.1 none w) : G E Y Z pc lv [] w ce sl := by
  intro p e s m args below meth c H locs ls X hl hP hD hS
  refine W.widen hce hsl ?_
  exact W.vret X.x X.b (X.rt.trans hr) (fun t ht _ => ⟨⟨_, w, rfl, hq, by rw [ht]; exact hP, hD⟩, hS.F ht⟩) hS.2.2 hd X.lk
end GG
