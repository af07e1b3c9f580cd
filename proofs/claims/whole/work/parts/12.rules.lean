section RV
variable {G : Gl} {Y : MI} {R : Room} {F : Fn} {gc gs pc : Nat} {L : List (Option Value)} {S : List Value} {h : Hp}
theorem V_iconst {n : Int} (v : Int32) (hd : decode Y.2.1 pc = .ok (.iconst n, 1)) (hv : Int32.ofInt n = v) (K : V G Y R F gc gs (pc + 1) L (.int v :: S) h) : V G Y R F gc gs pc L S h := by
  intro p e s m args below meth c C H locs ls hS hH hl
  exact lv_iconst C.1 C.2.1 hd hv (K p e s m args below meth c C H locs ls hS hH hl)
theorem V_bipush {n : Int} (v : Int32) (hd : decode Y.2.1 pc = .ok (.bipush n, 2)) (hv : (Int8.ofInt n).toInt32 = v) (K : V G Y R F gc gs (pc + 2) L (.int v :: S) h) : V G Y R F gc gs pc L S h := by
  intro p e s m args below meth c C H locs ls hS hH hl
  exact lv_bipush C.1 C.2.1 hd hv (K p e s m args below meth c C H locs ls hS hH hl)
theorem V_sipush {n : Int} (v : Int32) (hd : decode Y.2.1 pc = .ok (.sipush n, 3)) (hv : (Int16.ofInt n).toInt32 = v) (K : V G Y R F gc gs (pc + 3) L (.int v :: S) h) : V G Y R F gc gs pc L S h := by
  intro p e s m args below meth c C H locs ls hS hH hl
  exact lv_sipush C.1 C.2.1 hd hv (K p e s m args below meth c C H locs ls hS hH hl)
theorem V_iload_n {k : Fin 4} {x : Int32} (hd : decode Y.2.1 pc = .ok (.iload_n k, 1)) (hL : L[(k : Nat)]? = some (some (.int x))) (K : V G Y R F gc gs (pc + 1) L (.int x :: S) h) : V G Y R F gc gs pc L S h := by
  intro p e s m args below meth c C H locs ls hS hH hl
  exact lv_iload_n C.1 C.2.1 hd rfl (pr_at hl hL rfl) (K p e s m args below meth c C H locs ls hS hH hl)
theorem V_aload_n {k : Fin 4} {x : Nat} (hd : decode Y.2.1 pc = .ok (.aload_n k, 1)) (hL : L[(k : Nat)]? = some (some (.ref x))) (K : V G Y R F gc gs (pc + 1) L (.ref x :: S) h) : V G Y R F gc gs pc L S h := by
  intro p e s m args below meth c C H locs ls hS hH hl
  exact lv_aload_n C.1 C.2.1 hd rfl (pr_at hl hL rfl) (K p e s m args below meth c C H locs ls hS hH hl)
theorem V_aload_nN {k : Fin 4} (hd : decode Y.2.1 pc = .ok (.aload_n k, 1)) (hL : L[(k : Nat)]? = some (some (.null))) (K : V G Y R F gc gs (pc + 1) L (.null :: S) h) : V G Y R F gc gs pc L S h := by
  intro p e s m args below meth c C H locs ls hS hH hl
  exact lv_aload_nN C.1 C.2.1 hd rfl (pr_at hl hL rfl) (K p e s m args below meth c C H locs ls hS hH hl)
theorem V_iload {i : Nat} {x : Int32} (hd : decode Y.2.1 pc = .ok (.iload i, 2)) (hL : L[i]? = some (some (.int x))) (K : V G Y R F gc gs (pc + 2) L (.int x :: S) h) : V G Y R F gc gs pc L S h := by
  intro p e s m args below meth c C H locs ls hS hH hl
  exact lv_iload C.1 C.2.1 hd (pr_at hl hL rfl) (K p e s m args below meth c C H locs ls hS hH hl)
theorem V_aload {i : Nat} {x : Nat} (hd : decode Y.2.1 pc = .ok (.aload i, 2)) (hL : L[i]? = some (some (.ref x))) (K : V G Y R F gc gs (pc + 2) L (.ref x :: S) h) : V G Y R F gc gs pc L S h := by
  intro p e s m args below meth c C H locs ls hS hH hl
  exact lv_aload C.1 C.2.1 hd (pr_at hl hL rfl) (K p e s m args below meth c C H locs ls hS hH hl)
theorem V_aloadN {i : Nat} (hd : decode Y.2.1 pc = .ok (.aload i, 2)) (hL : L[i]? = some (some (.null))) (K : V G Y R F gc gs (pc + 2) L (.null :: S) h) : V G Y R F gc gs pc L S h := by
  intro p e s m args below meth c C H locs ls hS hH hl
  exact lv_aloadN C.1 C.2.1 hd (pr_at hl hL rfl) (K p e s m args below meth c C H locs ls hS hH hl)
theorem V_istore_n {k : Fin 4} {x : Int32} (hd : decode Y.2.1 pc = .ok (.istore_n k, 1)) (hn : (k : Nat) < Y.2.2.1) (K : V G Y R F gc gs (pc + 1) (L.set (k : Nat) (some (.int x))) S h) : V G Y R F gc gs pc L (.int x :: S) h := by
  intro p e s m args below meth c C H locs ls hS hH hl
  exact lv_istore_n C.1 C.2.1 hd rfl hl hn rfl (fun ls' hl' => K p e s m args below meth c C H locs ls' hS hH (pr_set rfl hl'))
theorem V_astore_n {k : Fin 4} {x : Nat} (hd : decode Y.2.1 pc = .ok (.astore_n k, 1)) (hn : (k : Nat) < Y.2.2.1) (K : V G Y R F gc gs (pc + 1) (L.set (k : Nat) (some (.ref x))) S h) : V G Y R F gc gs pc L (.ref x :: S) h := by
  intro p e s m args below meth c C H locs ls hS hH hl
  exact lv_astore_n C.1 C.2.1 hd rfl hl hn rfl (fun ls' hl' => K p e s m args below meth c C H locs ls' hS hH (pr_set rfl hl'))
theorem V_astore_nN {k : Fin 4} (hd : decode Y.2.1 pc = .ok (.astore_n k, 1)) (hn : (k : Nat) < Y.2.2.1) (K : V G Y R F gc gs (pc + 1) (L.set (k : Nat) (some (.null))) S h) : V G Y R F gc gs pc L (.null :: S) h := by
  intro p e s m args below meth c C H locs ls hS hH hl
  exact lv_astore_nN C.1 C.2.1 hd rfl hl hn rfl (fun ls' hl' => K p e s m args below meth c C H locs ls' hS hH (pr_set rfl hl'))
theorem V_istore {i : Nat} {x : Int32} (hd : decode Y.2.1 pc = .ok (.istore i, 2)) (hn : i < Y.2.2.1) (K : V G Y R F gc gs (pc + 2) (L.set i (some (.int x))) S h) : V G Y R F gc gs pc L (.int x :: S) h := by
  intro p e s m args below meth c C H locs ls hS hH hl
  exact lv_istore C.1 C.2.1 hd hl hn rfl (fun ls' hl' => K p e s m args below meth c C H locs ls' hS hH (pr_set rfl hl'))
theorem V_astore {i : Nat} {x : Nat} (hd : decode Y.2.1 pc = .ok (.astore i, 2)) (hn : i < Y.2.2.1) (K : V G Y R F gc gs (pc + 2) (L.set i (some (.ref x))) S h) : V G Y R F gc gs pc L (.ref x :: S) h := by
  intro p e s m args below meth c C H locs ls hS hH hl
  exact lv_astore C.1 C.2.1 hd hl hn rfl (fun ls' hl' => K p e s m args below meth c C H locs ls' hS hH (pr_set rfl hl'))
theorem V_astoreN {i : Nat} (hd : decode Y.2.1 pc = .ok (.astore i, 2)) (hn : i < Y.2.2.1) (K : V G Y R F gc gs (pc + 2) (L.set i (some (.null))) S h) : V G Y R F gc gs pc L (.null :: S) h := by
  intro p e s m args below meth c C H locs ls hS hH hl
  exact lv_astoreN C.1 C.2.1 hd hl hn rfl (fun ls' hl' => K p e s m args below meth c C H locs ls' hS hH (pr_set rfl hl'))
theorem V_iinc {i : Nat} {n : Int} {x : Int32} (hd : decode Y.2.1 pc = .ok (.iinc i n, 3)) (hL : L[i]? = some (some (.int x))) (hn : i < Y.2.2.1) (K : V G Y R F gc gs (pc + 3) (L.set i (some (.int (x + Int32.ofInt n)))) S h) : V G Y R F gc gs pc L S h := by
  intro p e s m args below meth c C H locs ls hS hH hl
  obtain ⟨k, hk⟩ := List.getElem?_of_mem (pr_mem (G := G) (i := 0) (q := (i, Value.int x)) |>.mpr ⟨i, _, hL, by simp, rfl, rfl⟩)
  exact lv_iinc C.1 C.2.1 hd hl hk rfl hn rfl (fun ls' hl' => K p e s m args below meth c C H locs ls' hS hH (pr_set rfl hl'))
theorem V_iadd {x y : Int32} (hd : decode Y.2.1 pc = .ok (.iadd, 1)) (K : V G Y R F gc gs (pc + 1) L (.int (x + y) :: S) h) : V G Y R F gc gs pc L (.int y :: .int x :: S) h := by
  intro p e s m args below meth c C H locs ls hS hH hl
  exact lv_iadd C.1 C.2.1 hd (K p e s m args below meth c C H locs ls hS hH hl)
theorem V_isub {x y : Int32} (hd : decode Y.2.1 pc = .ok (.isub, 1)) (K : V G Y R F gc gs (pc + 1) L (.int (x - y) :: S) h) : V G Y R F gc gs pc L (.int y :: .int x :: S) h := by
  intro p e s m args below meth c C H locs ls hS hH hl
  exact lv_isub C.1 C.2.1 hd (K p e s m args below meth c C H locs ls hS hH hl)
theorem V_imul {x y : Int32} (hd : decode Y.2.1 pc = .ok (.imul, 1)) (K : V G Y R F gc gs (pc + 1) L (.int (x * y) :: S) h) : V G Y R F gc gs pc L (.int y :: .int x :: S) h := by
  intro p e s m args below meth c C H locs ls hS hH hl
  exact lv_imul C.1 C.2.1 hd (K p e s m args below meth c C H locs ls hS hH hl)
theorem V_iand {x y : Int32} (hd : decode Y.2.1 pc = .ok (.iand, 1)) (K : V G Y R F gc gs (pc + 1) L (.int (x &&& y) :: S) h) : V G Y R F gc gs pc L (.int y :: .int x :: S) h := by
  intro p e s m args below meth c C H locs ls hS hH hl
  exact lv_iand C.1 C.2.1 hd (K p e s m args below meth c C H locs ls hS hH hl)
theorem V_ior {x y : Int32} (hd : decode Y.2.1 pc = .ok (.ior, 1)) (K : V G Y R F gc gs (pc + 1) L (.int (x ||| y) :: S) h) : V G Y R F gc gs pc L (.int y :: .int x :: S) h := by
  intro p e s m args below meth c C H locs ls hS hH hl
  exact lv_ior C.1 C.2.1 hd (K p e s m args below meth c C H locs ls hS hH hl)
theorem V_ixor {x y : Int32} (hd : decode Y.2.1 pc = .ok (.ixor, 1)) (K : V G Y R F gc gs (pc + 1) L (.int (x ^^^ y) :: S) h) : V G Y R F gc gs pc L (.int y :: .int x :: S) h := by
  intro p e s m args below meth c C H locs ls hS hH hl
  exact lv_ixor C.1 C.2.1 hd (K p e s m args below meth c C H locs ls hS hH hl)
theorem V_ishl {x y : Int32} (hd : decode Y.2.1 pc = .ok (.ishl, 1)) (K : V G Y R F gc gs (pc + 1) L (.int (x <<< (y &&& 31)) :: S) h) : V G Y R F gc gs pc L (.int y :: .int x :: S) h := by
  intro p e s m args below meth c C H locs ls hS hH hl
  exact lv_ishl C.1 C.2.1 hd (K p e s m args below meth c C H locs ls hS hH hl)
theorem V_ishr {x y : Int32} (hd : decode Y.2.1 pc = .ok (.ishr, 1)) (K : V G Y R F gc gs (pc + 1) L (.int (x >>> (y &&& 31)) :: S) h) : V G Y R F gc gs pc L (.int y :: .int x :: S) h := by
  intro p e s m args below meth c C H locs ls hS hH hl
  exact lv_ishr C.1 C.2.1 hd (K p e s m args below meth c C H locs ls hS hH hl)
theorem V_idiv {x y : Int32} (hd : decode Y.2.1 pc = .ok (.idiv, 1)) (hne : ¬ y = 0) (K : V G Y R F gc gs (pc + 1) L (.int (x / y) :: S) h) : V G Y R F gc gs pc L (.int y :: .int x :: S) h := by
  intro p e s m args below meth c C H locs ls hS hH hl
  exact lv_idiv C.1 C.2.1 hd hne (K p e s m args below meth c C H locs ls hS hH hl)
theorem V_irem {x y : Int32} (hd : decode Y.2.1 pc = .ok (.irem, 1)) (hne : ¬ y = 0) (K : V G Y R F gc gs (pc + 1) L (.int (x - x / y * y) :: S) h) : V G Y R F gc gs pc L (.int y :: .int x :: S) h := by
  intro p e s m args below meth c C H locs ls hS hH hl
  exact lv_irem C.1 C.2.1 hd hne (K p e s m args below meth c C H locs ls hS hH hl)
theorem V_ineg {x : Int32} (hd : decode Y.2.1 pc = .ok (.ineg, 1)) (K : V G Y R F gc gs (pc + 1) L (.int (-x) :: S) h) : V G Y R F gc gs pc L (.int x :: S) h := by
  intro p e s m args below meth c C H locs ls hS hH hl
  exact lv_ineg C.1 C.2.1 hd (K p e s m args below meth c C H locs ls hS hH hl)
theorem V_i2b {x : Int32} (hd : decode Y.2.1 pc = .ok (.i2b, 1)) (K : V G Y R F gc gs (pc + 1) L (.int x.toInt8.toInt32 :: S) h) : V G Y R F gc gs pc L (.int x :: S) h := by
  intro p e s m args below meth c C H locs ls hS hH hl
  exact lv_i2b C.1 C.2.1 hd rfl (K p e s m args below meth c C H locs ls hS hH hl)
theorem V_iushr {x y : Int32} (hd : decode Y.2.1 pc = .ok (.iushr, 1)) (K : V G Y R F gc gs (pc + 1) L (.int (x.toUInt32 >>> (y.toUInt32 &&& Int32.toUInt32 31)).toInt32 :: S) h) : V G Y R F gc gs pc L (.int y :: .int x :: S) h := by
  intro p e s m args below meth c C H locs ls hS hH hl
  exact lv_iushr C.1 C.2.1 hd rfl (K p e s m args below meth c C H locs ls hS hH hl)
theorem V_dup {v : Value} (hd : decode Y.2.1 pc = .ok (.dup, 1)) (hv : v.category = 1) (K : V G Y R F gc gs (pc + 1) L (v :: v :: S) h) : V G Y R F gc gs pc L (v :: S) h := by
  intro p e s m args below meth c C H locs ls hS hH hl
  exact lv_dup C.1 C.2.1 hd ((cv_cat G v).trans hv) (K p e s m args below meth c C H locs ls hS hH hl)
theorem V_dup_x1 {v w : Value} (hd : decode Y.2.1 pc = .ok (.dup_x1, 1)) (hv : v.category = 1) (hw : w.category = 1) (K : V G Y R F gc gs (pc + 1) L (v :: w :: v :: S) h) : V G Y R F gc gs pc L (v :: w :: S) h := by
  intro p e s m args below meth c C H locs ls hS hH hl
  exact lv_dup_x1 C.1 C.2.1 hd ((cv_cat G v).trans hv) ((cv_cat G w).trans hw) (K p e s m args below meth c C H locs ls hS hH hl)
theorem V_dup2 {v w : Value} (hd : decode Y.2.1 pc = .ok (.dup2, 1)) (hv : v.category = 1) (hw : w.category = 1) (K : V G Y R F gc gs (pc + 1) L (v :: w :: v :: w :: S) h) : V G Y R F gc gs pc L (v :: w :: S) h := by
  intro p e s m args below meth c C H locs ls hS hH hl
  exact lv_dup2_11 C.1 C.2.1 hd ((cv_cat G v).trans hv) ((cv_cat G w).trans hw) (K p e s m args below meth c C H locs ls hS hH hl)
theorem V_if_eq {x : Int32} {off : Int} (tgt : Nat) (hd : decode Y.2.1 pc = .ok (.ifCond .eq off, 3)) (ht : (pc : Int) + off = (tgt : Int)) (kt : x = 0 → V G Y R F gc gs tgt L S h) (kf : ¬ (x = 0) → V G Y R F gc gs (pc + 3) L S h) : V G Y R F gc gs pc L (.int x :: S) h := by
  intro p e s m args below meth c C H locs ls hS hH hl
  exact lv_if_eq C.1 C.2.1 hd ht (fun hc => kt hc p e s m args below meth c C H locs ls hS hH hl) (fun hc => kf hc p e s m args below meth c C H locs ls hS hH hl)
theorem V_if_ne {x : Int32} {off : Int} (tgt : Nat) (hd : decode Y.2.1 pc = .ok (.ifCond .ne off, 3)) (ht : (pc : Int) + off = (tgt : Int)) (kt : ¬ x = 0 → V G Y R F gc gs tgt L S h) (kf : x = 0 → V G Y R F gc gs (pc + 3) L S h) : V G Y R F gc gs pc L (.int x :: S) h := by
  intro p e s m args below meth c C H locs ls hS hH hl
  exact lv_if_ne C.1 C.2.1 hd ht (fun hc => kt hc p e s m args below meth c C H locs ls hS hH hl) (fun hc => kf hc p e s m args below meth c C H locs ls hS hH hl)
theorem V_if_lt {x : Int32} {off : Int} (tgt : Nat) (hd : decode Y.2.1 pc = .ok (.ifCond .lt off, 3)) (ht : (pc : Int) + off = (tgt : Int)) (kt : x < 0 → V G Y R F gc gs tgt L S h) (kf : ¬ (x < 0) → V G Y R F gc gs (pc + 3) L S h) : V G Y R F gc gs pc L (.int x :: S) h := by
  intro p e s m args below meth c C H locs ls hS hH hl
  exact lv_if_lt C.1 C.2.1 hd ht (fun hc => kt hc p e s m args below meth c C H locs ls hS hH hl) (fun hc => kf hc p e s m args below meth c C H locs ls hS hH hl)
theorem V_if_ge {x : Int32} {off : Int} (tgt : Nat) (hd : decode Y.2.1 pc = .ok (.ifCond .ge off, 3)) (ht : (pc : Int) + off = (tgt : Int)) (kt : 0 ≤ x → V G Y R F gc gs tgt L S h) (kf : ¬ (0 ≤ x) → V G Y R F gc gs (pc + 3) L S h) : V G Y R F gc gs pc L (.int x :: S) h := by
  intro p e s m args below meth c C H locs ls hS hH hl
  exact lv_if_ge C.1 C.2.1 hd ht (fun hc => kt hc p e s m args below meth c C H locs ls hS hH hl) (fun hc => kf hc p e s m args below meth c C H locs ls hS hH hl)
theorem V_if_gt {x : Int32} {off : Int} (tgt : Nat) (hd : decode Y.2.1 pc = .ok (.ifCond .gt off, 3)) (ht : (pc : Int) + off = (tgt : Int)) (kt : 0 < x → V G Y R F gc gs tgt L S h) (kf : ¬ (0 < x) → V G Y R F gc gs (pc + 3) L S h) : V G Y R F gc gs pc L (.int x :: S) h := by
  intro p e s m args below meth c C H locs ls hS hH hl
  exact lv_if_gt C.1 C.2.1 hd ht (fun hc => kt hc p e s m args below meth c C H locs ls hS hH hl) (fun hc => kf hc p e s m args below meth c C H locs ls hS hH hl)
theorem V_if_le {x : Int32} {off : Int} (tgt : Nat) (hd : decode Y.2.1 pc = .ok (.ifCond .le off, 3)) (ht : (pc : Int) + off = (tgt : Int)) (kt : x ≤ 0 → V G Y R F gc gs tgt L S h) (kf : ¬ (x ≤ 0) → V G Y R F gc gs (pc + 3) L S h) : V G Y R F gc gs pc L (.int x :: S) h := by
  intro p e s m args below meth c C H locs ls hS hH hl
  exact lv_if_le C.1 C.2.1 hd ht (fun hc => kt hc p e s m args below meth c C H locs ls hS hH hl) (fun hc => kf hc p e s m args below meth c C H locs ls hS hH hl)
theorem V_icmp_eq {x y : Int32} {off : Int} (tgt : Nat) (hd : decode Y.2.1 pc = .ok (.if_icmp .eq off, 3)) (ht : (pc : Int) + off = (tgt : Int)) (kt : x = y → V G Y R F gc gs tgt L S h) (kf : ¬ (x = y) → V G Y R F gc gs (pc + 3) L S h) : V G Y R F gc gs pc L (.int y :: .int x :: S) h := by
  intro p e s m args below meth c C H locs ls hS hH hl
  exact lv_icmp_eq C.1 C.2.1 hd ht (fun hc => kt hc p e s m args below meth c C H locs ls hS hH hl) (fun hc => kf hc p e s m args below meth c C H locs ls hS hH hl)
theorem V_icmp_ne {x y : Int32} {off : Int} (tgt : Nat) (hd : decode Y.2.1 pc = .ok (.if_icmp .ne off, 3)) (ht : (pc : Int) + off = (tgt : Int)) (kt : ¬ x = y → V G Y R F gc gs tgt L S h) (kf : x = y → V G Y R F gc gs (pc + 3) L S h) : V G Y R F gc gs pc L (.int y :: .int x :: S) h := by
  intro p e s m args below meth c C H locs ls hS hH hl
  exact lv_icmp_ne C.1 C.2.1 hd ht (fun hc => kt hc p e s m args below meth c C H locs ls hS hH hl) (fun hc => kf hc p e s m args below meth c C H locs ls hS hH hl)
theorem V_icmp_lt {x y : Int32} {off : Int} (tgt : Nat) (hd : decode Y.2.1 pc = .ok (.if_icmp .lt off, 3)) (ht : (pc : Int) + off = (tgt : Int)) (kt : x < y → V G Y R F gc gs tgt L S h) (kf : ¬ (x < y) → V G Y R F gc gs (pc + 3) L S h) : V G Y R F gc gs pc L (.int y :: .int x :: S) h := by
  intro p e s m args below meth c C H locs ls hS hH hl
  exact lv_icmp_lt C.1 C.2.1 hd ht (fun hc => kt hc p e s m args below meth c C H locs ls hS hH hl) (fun hc => kf hc p e s m args below meth c C H locs ls hS hH hl)
theorem V_icmp_ge {x y : Int32} {off : Int} (tgt : Nat) (hd : decode Y.2.1 pc = .ok (.if_icmp .ge off, 3)) (ht : (pc : Int) + off = (tgt : Int)) (kt : y ≤ x → V G Y R F gc gs tgt L S h) (kf : ¬ (y ≤ x) → V G Y R F gc gs (pc + 3) L S h) : V G Y R F gc gs pc L (.int y :: .int x :: S) h := by
  intro p e s m args below meth c C H locs ls hS hH hl
  exact lv_icmp_ge C.1 C.2.1 hd ht (fun hc => kt hc p e s m args below meth c C H locs ls hS hH hl) (fun hc => kf hc p e s m args below meth c C H locs ls hS hH hl)
theorem V_icmp_gt {x y : Int32} {off : Int} (tgt : Nat) (hd : decode Y.2.1 pc = .ok (.if_icmp .gt off, 3)) (ht : (pc : Int) + off = (tgt : Int)) (kt : y < x → V G Y R F gc gs tgt L S h) (kf : ¬ (y < x) → V G Y R F gc gs (pc + 3) L S h) : V G Y R F gc gs pc L (.int y :: .int x :: S) h := by
  intro p e s m args below meth c C H locs ls hS hH hl
  exact lv_icmp_gt C.1 C.2.1 hd ht (fun hc => kt hc p e s m args below meth c C H locs ls hS hH hl) (fun hc => kf hc p e s m args below meth c C H locs ls hS hH hl)
theorem V_icmp_le {x y : Int32} {off : Int} (tgt : Nat) (hd : decode Y.2.1 pc = .ok (.if_icmp .le off, 3)) (ht : (pc : Int) + off = (tgt : Int)) (kt : x ≤ y → V G Y R F gc gs tgt L S h) (kf : ¬ (x ≤ y) → V G Y R F gc gs (pc + 3) L S h) : V G Y R F gc gs pc L (.int y :: .int x :: S) h := by
  intro p e s m args below meth c C H locs ls hS hH hl
  exact lv_icmp_le C.1 C.2.1 hd ht (fun hc => kt hc p e s m args below meth c C H locs ls hS hH hl) (fun hc => kf hc p e s m args below meth c C H locs ls hS hH hl)
theorem V_goto {off : Int} (tgt : Nat) (hd : decode Y.2.1 pc = .ok (.goto off, 3)) (ht : (pc : Int) + off = (tgt : Int)) (K : V G Y R F gc gs tgt L S h) : V G Y R F gc gs pc L S h := by
  intro p e s m args below meth c C H locs ls hS hH hl
  exact lv_goto C.1 C.2.1 hd ht (K p e s m args below meth c C H locs ls hS hH hl)
theorem V_null (hd : decode Y.2.1 pc = .ok (.aconst_null, 1)) (K : V G Y R F gc gs (pc + 1) L (.null :: S) h) : V G Y R F gc gs pc L S h := by
  intro p e s m args below meth c C H locs ls hS hH hl
  exact lv_null C.1 C.2.1 hd (K p e s m args below meth c C H locs ls hS hH hl)
theorem V_ifnonnull {x : Nat} {off : Int} (tgt : Nat) (hd : decode Y.2.1 pc = .ok (.ifnonnull off, 3)) (ht : (pc : Int) + off = (tgt : Int)) (K : V G Y R F gc gs tgt L S h) : V G Y R F gc gs pc L (.ref x :: S) h := by
  intro p e s m args below meth c C H locs ls hS hH hl
  exact lv_ifnonnull C.1 C.2.1 hd ht (K p e s m args below meth c C H locs ls hS hH hl)
theorem V_ifnull {x : Nat} {off : Int} (hd : decode Y.2.1 pc = .ok (.ifnull off, 3)) (K : V G Y R F gc gs (pc + 3) L S h) : V G Y R F gc gs pc L (.ref x :: S) h := by
  intro p e s m args below meth c C H locs ls hS hH hl
  exact lv_ifnull C.1 C.2.1 hd (K p e s m args below meth c C H locs ls hS hH hl)
theorem V_ifnullN {off : Int} (tgt : Nat) (hd : decode Y.2.1 pc = .ok (.ifnull off, 3)) (ht : (pc : Int) + off = (tgt : Int)) (K : V G Y R F gc gs tgt L S h) : V G Y R F gc gs pc L (.null :: S) h := by
  intro p e s m args below meth c C H locs ls hS hH hl
  exact lv_ifnullN C.1 C.2.1 hd ht (K p e s m args below meth c C H locs ls hS hH hl)
theorem V_ifnonnullN {off : Int} (hd : decode Y.2.1 pc = .ok (.ifnonnull off, 3)) (K : V G Y R F gc gs (pc + 3) L S h) : V G Y R F gc gs pc L (.null :: S) h := by
  intro p e s m args below meth c C H locs ls hS hH hl
  exact lv_ifnonnullN C.1 C.2.1 hd (K p e s m args below meth c C H locs ls hS hH hl)
theorem V_tableOut {dflt lo hi : Int} {offs : Array Int} {len : Nat} {x : Int32} (tgt : Nat) (hd : decode Y.2.1 pc = .ok (.tableswitch dflt lo hi offs, len)) (hx : x.toInt < lo ∨ hi < x.toInt) (ht : (pc : Int) + dflt = (tgt : Int)) (K : V G Y R F gc gs tgt L S h) : V G Y R F gc gs pc L (.int x :: S) h := by
  intro p e s m args below meth c C H locs ls hS hH hl
  exact lv_tableOut C.1 C.2.1 hd hx ht (K p e s m args below meth c C H locs ls hS hH hl)
theorem V_tableIn {dflt lo hi : Int} {offs : Array Int} {len : Nat} {x : Int32} {off : Int} (tgt : Nat) (hd : decode Y.2.1 pc = .ok (.tableswitch dflt lo hi offs, len)) (h1 : ¬ x.toInt < lo) (h2 : ¬ hi < x.toInt) (ho : offs[(x.toInt - lo).toNat]? = some off) (ht : (pc : Int) + off = (tgt : Int)) (K : V G Y R F gc gs tgt L S h) : V G Y R F gc gs pc L (.int x :: S) h := by
  intro p e s m args below meth c C H locs ls hS hH hl
  exact lv_tableIn C.1 C.2.1 hd h1 h2 ho ht (K p e s m args below meth c C H locs ls hS hH hl)
theorem V_lookup {dflt : Int} {ps : Array (Int × Int)} {len : Nat} {x : Int32} {off : Int} (tgt : Nat) (hd : decode Y.2.1 pc = .ok (.lookupswitch dflt ps, len)) (hp : (ps.toList.zip (ps.toList.drop 1)).all (fun (a, next) => a.1 < next.1) = true) (ho : Op.lookupswitch.offset ps.toList dflt x.toInt = off) (ht : (pc : Int) + off = (tgt : Int)) (K : V G Y R F gc gs tgt L S h) : V G Y R F gc gs pc L (.int x :: S) h := by
  intro p e s m args below meth c C H locs ls hS hH hl
  exact lv_lookup C.1 C.2.1 hd hp ho ht (K p e s m args below meth c C H locs ls hS hH hl)
theorem V_ldc {idx : Nat} {v : Int32} (hd : decode Y.2.1 pc = .ok (.ldc idx, 2)) (w : Cond.constant Y.1.cls idx v ∈ TBg) (K : V G Y R F gc gs (pc + 2) L (.int v :: S) h) : V G Y R F gc gs pc L S h := by
  intro p e s m args below meth c C H locs ls hS hH hl
  exact lv_ldc C.1 C.2.1 C.2.2.2.2.2.2.1 (C.2.2.2.2.2.2.2.1 _ w) hd (K p e s m args below meth c C H locs ls hS hH hl)
theorem V_ldcw {idx : Nat} {v : Int32} (hd : decode Y.2.1 pc = .ok (.ldc_w idx, 3)) (w : Cond.constant Y.1.cls idx v ∈ TBg) (K : V G Y R F gc gs (pc + 3) L (.int v :: S) h) : V G Y R F gc gs pc L S h := by
  intro p e s m args below meth c C H locs ls hS hH hl
  exact lv_ldcw C.1 C.2.1 C.2.2.2.2.2.2.1 (C.2.2.2.2.2.2.2.1 _ w) hd (K p e s m args below meth c C H locs ls hS hH hl)
end RV
