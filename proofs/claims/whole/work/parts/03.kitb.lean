section EK
variable {x : e_T} {own : String} {cc : ByteArray} {d pc : Nat} {ls : List (Option Value)} {st : List Value} {h : List eC}
theorem ei_iconst {n : Int} {v : Int32} (X : e_X x own cc d) (hd : decode cc pc = .ok (.iconst n, 1)) (hv : Int32.ofInt n = v) (k : e_E x (pc + 1) ls (.int v :: st) h) : e_E x pc ls (st) h := by
  obtain ⟨p, l, e, R, s, m, args, below, meth, c, dC, dI, dA, ad, A, N, nL, cells, slots, Q⟩ := x
  intro hL hN H locs la hP hS hl
  exact lv_iconst X.1 X.2.1 hd hv (k hL hN H locs la hP hS hl)
theorem ei_bipush {n : Int} {v : Int32} (X : e_X x own cc d) (hd : decode cc pc = .ok (.bipush n, 2)) (hv : (Int8.ofInt n).toInt32 = v) (k : e_E x (pc + 2) ls (.int v :: st) h) : e_E x pc ls (st) h := by
  obtain ⟨p, l, e, R, s, m, args, below, meth, c, dC, dI, dA, ad, A, N, nL, cells, slots, Q⟩ := x
  intro hL hN H locs la hP hS hl
  exact lv_bipush X.1 X.2.1 hd hv (k hL hN H locs la hP hS hl)
theorem ei_sipush {n : Int} {v : Int32} (X : e_X x own cc d) (hd : decode cc pc = .ok (.sipush n, 3)) (hv : (Int16.ofInt n).toInt32 = v) (k : e_E x (pc + 3) ls (.int v :: st) h) : e_E x pc ls (st) h := by
  obtain ⟨p, l, e, R, s, m, args, below, meth, c, dC, dI, dA, ad, A, N, nL, cells, slots, Q⟩ := x
  intro hL hN H locs la hP hS hl
  exact lv_sipush X.1 X.2.1 hd hv (k hL hN H locs la hP hS hl)
theorem ei_lconst {n : Fin 2} {v : Int64} (X : e_X x own cc d) (hd : decode cc pc = .ok (.lconst n, 1)) (hv : Int64.ofNat (n : Nat) = v) (k : e_E x (pc + 1) ls (.long v :: st) h) : e_E x pc ls (st) h := by
  obtain ⟨p, l, e, R, s, m, args, below, meth, c, dC, dI, dA, ad, A, N, nL, cells, slots, Q⟩ := x
  intro hL hN H locs la hP hS hl
  exact lv_lconst X.1 X.2.1 hd hv (k hL hN H locs la hP hS hl)
theorem ei_iadd {a b : Int32} (X : e_X x own cc d) (hd : decode cc pc = .ok (.iadd, 1)) (k : e_E x (pc + 1) ls (.int (a + b) :: st) h) : e_E x pc ls (.int b :: .int a :: st) h := by
  obtain ⟨p, l, e, R, s, m, args, below, meth, c, dC, dI, dA, ad, A, N, nL, cells, slots, Q⟩ := x
  intro hL hN H locs la hP hS hl
  exact lv_iadd X.1 X.2.1 hd (k hL hN H locs la hP hS hl)
theorem ei_isub {a b : Int32} (X : e_X x own cc d) (hd : decode cc pc = .ok (.isub, 1)) (k : e_E x (pc + 1) ls (.int (a - b) :: st) h) : e_E x pc ls (.int b :: .int a :: st) h := by
  obtain ⟨p, l, e, R, s, m, args, below, meth, c, dC, dI, dA, ad, A, N, nL, cells, slots, Q⟩ := x
  intro hL hN H locs la hP hS hl
  exact lv_isub X.1 X.2.1 hd (k hL hN H locs la hP hS hl)
theorem ei_imul {a b : Int32} (X : e_X x own cc d) (hd : decode cc pc = .ok (.imul, 1)) (k : e_E x (pc + 1) ls (.int (a * b) :: st) h) : e_E x pc ls (.int b :: .int a :: st) h := by
  obtain ⟨p, l, e, R, s, m, args, below, meth, c, dC, dI, dA, ad, A, N, nL, cells, slots, Q⟩ := x
  intro hL hN H locs la hP hS hl
  exact lv_imul X.1 X.2.1 hd (k hL hN H locs la hP hS hl)
theorem ei_iand {a b : Int32} (X : e_X x own cc d) (hd : decode cc pc = .ok (.iand, 1)) (k : e_E x (pc + 1) ls (.int (a &&& b) :: st) h) : e_E x pc ls (.int b :: .int a :: st) h := by
  obtain ⟨p, l, e, R, s, m, args, below, meth, c, dC, dI, dA, ad, A, N, nL, cells, slots, Q⟩ := x
  intro hL hN H locs la hP hS hl
  exact lv_iand X.1 X.2.1 hd (k hL hN H locs la hP hS hl)
theorem ei_ior {a b : Int32} (X : e_X x own cc d) (hd : decode cc pc = .ok (.ior, 1)) (k : e_E x (pc + 1) ls (.int (a ||| b) :: st) h) : e_E x pc ls (.int b :: .int a :: st) h := by
  obtain ⟨p, l, e, R, s, m, args, below, meth, c, dC, dI, dA, ad, A, N, nL, cells, slots, Q⟩ := x
  intro hL hN H locs la hP hS hl
  exact lv_ior X.1 X.2.1 hd (k hL hN H locs la hP hS hl)
theorem ei_ixor {a b : Int32} (X : e_X x own cc d) (hd : decode cc pc = .ok (.ixor, 1)) (k : e_E x (pc + 1) ls (.int (a ^^^ b) :: st) h) : e_E x pc ls (.int b :: .int a :: st) h := by
  obtain ⟨p, l, e, R, s, m, args, below, meth, c, dC, dI, dA, ad, A, N, nL, cells, slots, Q⟩ := x
  intro hL hN H locs la hP hS hl
  exact lv_ixor X.1 X.2.1 hd (k hL hN H locs la hP hS hl)
theorem ei_ishl {a b : Int32} (X : e_X x own cc d) (hd : decode cc pc = .ok (.ishl, 1)) (k : e_E x (pc + 1) ls (.int (a <<< (b &&& 31)) :: st) h) : e_E x pc ls (.int b :: .int a :: st) h := by
  obtain ⟨p, l, e, R, s, m, args, below, meth, c, dC, dI, dA, ad, A, N, nL, cells, slots, Q⟩ := x
  intro hL hN H locs la hP hS hl
  exact lv_ishl X.1 X.2.1 hd (k hL hN H locs la hP hS hl)
theorem ei_ishr {a b : Int32} (X : e_X x own cc d) (hd : decode cc pc = .ok (.ishr, 1)) (k : e_E x (pc + 1) ls (.int (a >>> (b &&& 31)) :: st) h) : e_E x pc ls (.int b :: .int a :: st) h := by
  obtain ⟨p, l, e, R, s, m, args, below, meth, c, dC, dI, dA, ad, A, N, nL, cells, slots, Q⟩ := x
  intro hL hN H locs la hP hS hl
  exact lv_ishr X.1 X.2.1 hd (k hL hN H locs la hP hS hl)
theorem ei_ladd {a b : Int64} (X : e_X x own cc d) (hd : decode cc pc = .ok (.ladd, 1)) (k : e_E x (pc + 1) ls (.long (a + b) :: st) h) : e_E x pc ls (.long b :: .long a :: st) h := by
  obtain ⟨p, l, e, R, s, m, args, below, meth, c, dC, dI, dA, ad, A, N, nL, cells, slots, Q⟩ := x
  intro hL hN H locs la hP hS hl
  exact lv_ladd X.1 X.2.1 hd (k hL hN H locs la hP hS hl)
theorem ei_lsub {a b : Int64} (X : e_X x own cc d) (hd : decode cc pc = .ok (.lsub, 1)) (k : e_E x (pc + 1) ls (.long (a - b) :: st) h) : e_E x pc ls (.long b :: .long a :: st) h := by
  obtain ⟨p, l, e, R, s, m, args, below, meth, c, dC, dI, dA, ad, A, N, nL, cells, slots, Q⟩ := x
  intro hL hN H locs la hP hS hl
  exact lv_lsub X.1 X.2.1 hd (k hL hN H locs la hP hS hl)
theorem ei_lmul {a b : Int64} (X : e_X x own cc d) (hd : decode cc pc = .ok (.lmul, 1)) (k : e_E x (pc + 1) ls (.long (a * b) :: st) h) : e_E x pc ls (.long b :: .long a :: st) h := by
  obtain ⟨p, l, e, R, s, m, args, below, meth, c, dC, dI, dA, ad, A, N, nL, cells, slots, Q⟩ := x
  intro hL hN H locs la hP hS hl
  exact lv_lmul X.1 X.2.1 hd (k hL hN H locs la hP hS hl)
theorem ei_idiv {a b : Int32} (X : e_X x own cc d) (hd : decode cc pc = .ok (.idiv, 1)) (hne : ¬ b = 0) (k : e_E x (pc + 1) ls (.int (a / b) :: st) h) : e_E x pc ls (.int b :: .int a :: st) h := by
  obtain ⟨p, l, e, R, s, m, args, below, meth, c, dC, dI, dA, ad, A, N, nL, cells, slots, Q⟩ := x
  intro hL hN H locs la hP hS hl
  exact lv_idiv X.1 X.2.1 hd hne (k hL hN H locs la hP hS hl)
theorem ei_irem {a b : Int32} (X : e_X x own cc d) (hd : decode cc pc = .ok (.irem, 1)) (hne : ¬ b = 0) (k : e_E x (pc + 1) ls (.int (a - a / b * b) :: st) h) : e_E x pc ls (.int b :: .int a :: st) h := by
  obtain ⟨p, l, e, R, s, m, args, below, meth, c, dC, dI, dA, ad, A, N, nL, cells, slots, Q⟩ := x
  intro hL hN H locs la hP hS hl
  exact lv_irem X.1 X.2.1 hd hne (k hL hN H locs la hP hS hl)
theorem ei_ldiv {a b : Int64} (X : e_X x own cc d) (hd : decode cc pc = .ok (.ldiv, 1)) (hne : ¬ b = 0) (k : e_E x (pc + 1) ls (.long (a / b) :: st) h) : e_E x pc ls (.long b :: .long a :: st) h := by
  obtain ⟨p, l, e, R, s, m, args, below, meth, c, dC, dI, dA, ad, A, N, nL, cells, slots, Q⟩ := x
  intro hL hN H locs la hP hS hl
  exact lv_ldiv X.1 X.2.1 hd hne (k hL hN H locs la hP hS hl)
theorem ei_lrem {a b : Int64} (X : e_X x own cc d) (hd : decode cc pc = .ok (.lrem, 1)) (hne : ¬ b = 0) (k : e_E x (pc + 1) ls (.long (a - a / b * b) :: st) h) : e_E x pc ls (.long b :: .long a :: st) h := by
  obtain ⟨p, l, e, R, s, m, args, below, meth, c, dC, dI, dA, ad, A, N, nL, cells, slots, Q⟩ := x
  intro hL hN H locs la hP hS hl
  exact lv_lrem X.1 X.2.1 hd hne (k hL hN H locs la hP hS hl)
theorem ei_i2l {a : Int32} (X : e_X x own cc d) (hd : decode cc pc = .ok (.i2l, 1)) (k : e_E x (pc + 1) ls (.long a.toInt64 :: st) h) : e_E x pc ls (.int a :: st) h := by
  obtain ⟨p, l, e, R, s, m, args, below, meth, c, dC, dI, dA, ad, A, N, nL, cells, slots, Q⟩ := x
  intro hL hN H locs la hP hS hl
  exact lv_i2l X.1 X.2.1 hd rfl (k hL hN H locs la hP hS hl)
theorem ei_l2i {a : Int64} (X : e_X x own cc d) (hd : decode cc pc = .ok (.l2i, 1)) (k : e_E x (pc + 1) ls (.int a.toInt32 :: st) h) : e_E x pc ls (.long a :: st) h := by
  obtain ⟨p, l, e, R, s, m, args, below, meth, c, dC, dI, dA, ad, A, N, nL, cells, slots, Q⟩ := x
  intro hL hN H locs la hP hS hl
  exact lv_l2i X.1 X.2.1 hd rfl (k hL hN H locs la hP hS hl)
theorem ei_i2b {a : Int32} (X : e_X x own cc d) (hd : decode cc pc = .ok (.i2b, 1)) (k : e_E x (pc + 1) ls (.int a.toInt8.toInt32 :: st) h) : e_E x pc ls (.int a :: st) h := by
  obtain ⟨p, l, e, R, s, m, args, below, meth, c, dC, dI, dA, ad, A, N, nL, cells, slots, Q⟩ := x
  intro hL hN H locs la hP hS hl
  exact lv_i2b X.1 X.2.1 hd rfl (k hL hN H locs la hP hS hl)
theorem ei_i2s {a : Int32} (X : e_X x own cc d) (hd : decode cc pc = .ok (.i2s, 1)) (k : e_E x (pc + 1) ls (.int a.toInt16.toInt32 :: st) h) : e_E x pc ls (.int a :: st) h := by
  obtain ⟨p, l, e, R, s, m, args, below, meth, c, dC, dI, dA, ad, A, N, nL, cells, slots, Q⟩ := x
  intro hL hN H locs la hP hS hl
  exact lv_i2s X.1 X.2.1 hd rfl (k hL hN H locs la hP hS hl)
theorem ei_lcmp {a b : Int64} (X : e_X x own cc d) (hd : decode cc pc = .ok (.lcmp, 1)) (k : e_E x (pc + 1) ls (.int (lg_cmp a b) :: st) h) : e_E x pc ls (.long b :: .long a :: st) h := by
  obtain ⟨p, l, e, R, s, m, args, below, meth, c, dC, dI, dA, ad, A, N, nL, cells, slots, Q⟩ := x
  intro hL hN H locs la hP hS hl
  exact W.lcmp X.1 X.2.1 hd (k hL hN H locs la hP hS hl)
theorem ei_dup {v : Value} (X : e_X x own cc d) (hd : decode cc pc = .ok (.dup, 1)) (hv : v.category = 1) (k : e_E x (pc + 1) ls (v :: v :: st) h) : e_E x pc ls (v :: st) h := by
  obtain ⟨p, l, e, R, s, m, args, below, meth, c, dC, dI, dA, ad, A, N, nL, cells, slots, Q⟩ := x
  intro hL hN H locs la hP hS hl
  exact lv_dup X.1 X.2.1 hd ((e_mv_cat ad v).trans hv) (k hL hN H locs la hP hS hl)
theorem ei_pop {v : Value} (X : e_X x own cc d) (hd : decode cc pc = .ok (.pop, 1)) (hv : v.category = 1) (k : e_E x (pc + 1) ls (st) h) : e_E x pc ls (v :: st) h := by
  obtain ⟨p, l, e, R, s, m, args, below, meth, c, dC, dI, dA, ad, A, N, nL, cells, slots, Q⟩ := x
  intro hL hN H locs la hP hS hl
  exact lv_pop X.1 X.2.1 hd ((e_mv_cat ad v).trans hv) (k hL hN H locs la hP hS hl)
theorem ei_dup2 {v w : Value} (X : e_X x own cc d) (hd : decode cc pc = .ok (.dup2, 1)) (hv : v.category = 1) (hw : w.category = 1) (k : e_E x (pc + 1) ls (v :: w :: v :: w :: st) h) : e_E x pc ls (v :: w :: st) h := by
  obtain ⟨p, l, e, R, s, m, args, below, meth, c, dC, dI, dA, ad, A, N, nL, cells, slots, Q⟩ := x
  intro hL hN H locs la hP hS hl
  exact lv_dup2_11 X.1 X.2.1 hd ((e_mv_cat ad v).trans hv) ((e_mv_cat ad w).trans hw) (k hL hN H locs la hP hS hl)
theorem ei_iload_n {j : Fin 4} {i : Nat} {v : Int32} (X : e_X x own cc d) (hd : decode cc pc = .ok (.iload_n j, 1)) (hi : (j : Nat) = i) (hv : ls[i]? = some (some (.int v))) (k : e_E x (pc + 1) ls (.int v :: st) h) : e_E x pc ls (st) h := by
  obtain ⟨p, l, e, R, s, m, args, below, meth, c, dC, dI, dA, ad, A, N, nL, cells, slots, Q⟩ := x
  intro hL hN H locs la hP hS hl
  exact lv_iload_n X.1 X.2.1 hd hi (e_has_at hl hv) (k hL hN H locs la hP hS hl)
theorem ei_iload {i : Nat} {v : Int32} (X : e_X x own cc d) (hd : decode cc pc = .ok (.iload i, 2)) (hv : ls[i]? = some (some (.int v))) (k : e_E x (pc + 2) ls (.int v :: st) h) : e_E x pc ls (st) h := by
  obtain ⟨p, l, e, R, s, m, args, below, meth, c, dC, dI, dA, ad, A, N, nL, cells, slots, Q⟩ := x
  intro hL hN H locs la hP hS hl
  exact lv_iload X.1 X.2.1 hd (e_has_at hl hv) (k hL hN H locs la hP hS hl)
theorem ei_lload_n {j : Fin 4} {i : Nat} {v : Int64} (X : e_X x own cc d) (hd : decode cc pc = .ok (.lload_n j, 1)) (hi : (j : Nat) = i) (hv : ls[i]? = some (some (.long v))) (k : e_E x (pc + 1) ls (.long v :: st) h) : e_E x pc ls (st) h := by
  obtain ⟨p, l, e, R, s, m, args, below, meth, c, dC, dI, dA, ad, A, N, nL, cells, slots, Q⟩ := x
  intro hL hN H locs la hP hS hl
  exact lv_lload_n X.1 X.2.1 hd hi (e_has_at hl hv) (k hL hN H locs la hP hS hl)
theorem ei_lload {i : Nat} {v : Int64} (X : e_X x own cc d) (hd : decode cc pc = .ok (.lload i, 2)) (hv : ls[i]? = some (some (.long v))) (k : e_E x (pc + 2) ls (.long v :: st) h) : e_E x pc ls (st) h := by
  obtain ⟨p, l, e, R, s, m, args, below, meth, c, dC, dI, dA, ad, A, N, nL, cells, slots, Q⟩ := x
  intro hL hN H locs la hP hS hl
  exact lv_lload X.1 X.2.1 hd (e_has_at hl hv) (k hL hN H locs la hP hS hl)
theorem ei_aload_n {j : Fin 4} {i a : Nat} (X : e_X x own cc d) (hd : decode cc pc = .ok (.aload_n j, 1)) (hi : (j : Nat) = i) (hv : ls[i]? = some (some (.ref a))) (k : e_E x (pc + 1) ls (.ref a :: st) h) : e_E x pc ls (st) h := by
  obtain ⟨p, l, e, R, s, m, args, below, meth, c, dC, dI, dA, ad, A, N, nL, cells, slots, Q⟩ := x
  intro hL hN H locs la hP hS hl
  exact lv_aload_n X.1 X.2.1 hd hi (e_has_at hl hv) (k hL hN H locs la hP hS hl)
theorem ei_aload {i a : Nat} (X : e_X x own cc d) (hd : decode cc pc = .ok (.aload i, 2)) (hv : ls[i]? = some (some (.ref a))) (k : e_E x (pc + 2) ls (.ref a :: st) h) : e_E x pc ls (st) h := by
  obtain ⟨p, l, e, R, s, m, args, below, meth, c, dC, dI, dA, ad, A, N, nL, cells, slots, Q⟩ := x
  intro hL hN H locs la hP hS hl
  exact lv_aload X.1 X.2.1 hd (e_has_at hl hv) (k hL hN H locs la hP hS hl)
theorem ei_istore_n {j : Fin 4} {i : Nat} {a : Int32} (X : e_X x own cc d) (hd : decode cc pc = .ok (.istore_n j, 1)) (hi : (j : Nat) = i) (hn : i < ls.length) (hw : e_nw ls i = true) (k : e_E x (pc + 1) (ls.set i (some (.int a))) st h) : e_E x pc ls (.int a :: st) h := by
  obtain ⟨p, l, e, R, s, m, args, below, meth, c, dC, dI, dA, ad, A, N, nL, cells, slots, Q⟩ := x
  intro hL hN H locs la hP hS hl
  exact lv_istore_n X.1 X.2.1 hd hi hl (by rw [← hL]; exact hn) rfl (fun la hl => k (by rw [List.length_set]; exact hL) hN H locs la hP hS (e_has_mono hl (e_ls_set1 hw)))
theorem ei_lstore_n {j : Fin 4} {i : Nat} {a : Int64} (X : e_X x own cc d) (hd : decode cc pc = .ok (.lstore_n j, 1)) (hi : (j : Nat) = i) (hn : i + 1 < ls.length) (hw : e_nw ls i = true) (k : e_E x (pc + 1) ((ls.set i (some (.long a))).set (i + 1) none) st h) : e_E x pc ls (.long a :: st) h := by
  obtain ⟨p, l, e, R, s, m, args, below, meth, c, dC, dI, dA, ad, A, N, nL, cells, slots, Q⟩ := x
  intro hL hN H locs la hP hS hl
  exact lv_lstore_n X.1 X.2.1 hd hi hl (by rw [← hL]; exact hn) rfl (fun la hl => k (by rw [List.length_set, List.length_set]; exact hL) hN H locs la hP hS (e_has_mono hl (e_ls_set2 hw)))
theorem ei_astore_n {j : Fin 4} {i : Nat} {a : Nat} (X : e_X x own cc d) (hd : decode cc pc = .ok (.astore_n j, 1)) (hi : (j : Nat) = i) (hn : i < ls.length) (hw : e_nw ls i = true) (k : e_E x (pc + 1) (ls.set i (some (.ref a))) st h) : e_E x pc ls (.ref a :: st) h := by
  obtain ⟨p, l, e, R, s, m, args, below, meth, c, dC, dI, dA, ad, A, N, nL, cells, slots, Q⟩ := x
  intro hL hN H locs la hP hS hl
  exact lv_astore_n X.1 X.2.1 hd hi hl (by rw [← hL]; exact hn) rfl (fun la hl => k (by rw [List.length_set]; exact hL) hN H locs la hP hS (e_has_mono hl (e_ls_set1 hw)))
theorem ei_istore {i : Nat} {a : Int32} (X : e_X x own cc d) (hd : decode cc pc = .ok (.istore i, 2)) (hn : i < ls.length) (hw : e_nw ls i = true) (k : e_E x (pc + 2) (ls.set i (some (.int a))) st h) : e_E x pc ls (.int a :: st) h := by
  obtain ⟨p, l, e, R, s, m, args, below, meth, c, dC, dI, dA, ad, A, N, nL, cells, slots, Q⟩ := x
  intro hL hN H locs la hP hS hl
  exact lv_istore X.1 X.2.1 hd hl (by rw [← hL]; exact hn) rfl (fun la hl => k (by rw [List.length_set]; exact hL) hN H locs la hP hS (e_has_mono hl (e_ls_set1 hw)))
theorem ei_lstore {i : Nat} {a : Int64} (X : e_X x own cc d) (hd : decode cc pc = .ok (.lstore i, 2)) (hn : i + 1 < ls.length) (hw : e_nw ls i = true) (k : e_E x (pc + 2) ((ls.set i (some (.long a))).set (i + 1) none) st h) : e_E x pc ls (.long a :: st) h := by
  obtain ⟨p, l, e, R, s, m, args, below, meth, c, dC, dI, dA, ad, A, N, nL, cells, slots, Q⟩ := x
  intro hL hN H locs la hP hS hl
  exact lv_lstore X.1 X.2.1 hd hl (by rw [← hL]; exact hn) rfl (fun la hl => k (by rw [List.length_set, List.length_set]; exact hL) hN H locs la hP hS (e_has_mono hl (e_ls_set2 hw)))
theorem ei_astore {i : Nat} {a : Nat} (X : e_X x own cc d) (hd : decode cc pc = .ok (.astore i, 2)) (hn : i < ls.length) (hw : e_nw ls i = true) (k : e_E x (pc + 2) (ls.set i (some (.ref a))) st h) : e_E x pc ls (.ref a :: st) h := by
  obtain ⟨p, l, e, R, s, m, args, below, meth, c, dC, dI, dA, ad, A, N, nL, cells, slots, Q⟩ := x
  intro hL hN H locs la hP hS hl
  exact lv_astore X.1 X.2.1 hd hl (by rw [← hL]; exact hn) rfl (fun la hl => k (by rw [List.length_set]; exact hL) hN H locs la hP hS (e_has_mono hl (e_ls_set1 hw)))
theorem ei_iinc {i : Nat} {n : Int} {a v : Int32} (X : e_X x own cc d) (hd : decode cc pc = .ok (.iinc i n, 3)) (hv : ls[i]? = some (some (.int a))) (hav : a + Int32.ofInt n = v) (hw : e_nw ls i = true) (k : e_E x (pc + 3) (ls.set i (some (.int v))) st h) : e_E x pc ls st h := by
  obtain ⟨p, l, e, R, s, m, args, below, meth, c, dC, dI, dA, ad, A, N, nL, cells, slots, Q⟩ := x
  intro hL hN H locs la hP hS hl
  have hm : (i, Value.int a) ∈ e_ls ad 0 ls := e_ls_mem.mpr ⟨i, .int a, hv, by omega, rfl⟩
  obtain ⟨j, hj⟩ := List.getElem?_of_mem hm
  exact lv_iinc X.1 X.2.1 hd hl hj hav (by rw [← hL]; exact (List.getElem?_eq_some_iff.mp hv).1) rfl (fun la hl => k (by rw [List.length_set]; exact hL) hN H locs la hP hS (e_has_mono hl (e_ls_set1 hw)))
theorem ei_if_eq {a : Int32} {off : Int} {tgt : Nat} (X : e_X x own cc d) (hd : decode cc pc = .ok (.ifCond .eq off, 3)) (ht : (pc : Int) + off = (tgt : Int)) (kt : a = 0 → e_E x tgt ls st h) (kf : ¬ (a = 0) → e_E x (pc + 3) ls st h) : e_E x pc ls (.int a :: st) h := by
  obtain ⟨p, l, e, R, s, m, args, below, meth, c, dC, dI, dA, ad, A, N, nL, cells, slots, Q⟩ := x
  intro hL hN H locs la hP hS hl
  exact lv_if_eq X.1 X.2.1 hd ht (fun q => kt q hL hN H locs la hP hS hl) (fun q => kf q hL hN H locs la hP hS hl)
theorem ei_icmp_eq {a b : Int32} {off : Int} {tgt : Nat} (X : e_X x own cc d) (hd : decode cc pc = .ok (.if_icmp .eq off, 3)) (ht : (pc : Int) + off = (tgt : Int)) (kt : a = b → e_E x tgt ls st h) (kf : ¬ (a = b) → e_E x (pc + 3) ls st h) : e_E x pc ls (.int b :: .int a :: st) h := by
  obtain ⟨p, l, e, R, s, m, args, below, meth, c, dC, dI, dA, ad, A, N, nL, cells, slots, Q⟩ := x
  intro hL hN H locs la hP hS hl
  exact lv_icmp_eq X.1 X.2.1 hd ht (fun q => kt q hL hN H locs la hP hS hl) (fun q => kf q hL hN H locs la hP hS hl)
theorem ei_if_ne {a : Int32} {off : Int} {tgt : Nat} (X : e_X x own cc d) (hd : decode cc pc = .ok (.ifCond .ne off, 3)) (ht : (pc : Int) + off = (tgt : Int)) (kt : ¬ a = 0 → e_E x tgt ls st h) (kf : a = 0 → e_E x (pc + 3) ls st h) : e_E x pc ls (.int a :: st) h := by
  obtain ⟨p, l, e, R, s, m, args, below, meth, c, dC, dI, dA, ad, A, N, nL, cells, slots, Q⟩ := x
  intro hL hN H locs la hP hS hl
  exact lv_if_ne X.1 X.2.1 hd ht (fun q => kt q hL hN H locs la hP hS hl) (fun q => kf q hL hN H locs la hP hS hl)
theorem ei_icmp_ne {a b : Int32} {off : Int} {tgt : Nat} (X : e_X x own cc d) (hd : decode cc pc = .ok (.if_icmp .ne off, 3)) (ht : (pc : Int) + off = (tgt : Int)) (kt : ¬ a = b → e_E x tgt ls st h) (kf : a = b → e_E x (pc + 3) ls st h) : e_E x pc ls (.int b :: .int a :: st) h := by
  obtain ⟨p, l, e, R, s, m, args, below, meth, c, dC, dI, dA, ad, A, N, nL, cells, slots, Q⟩ := x
  intro hL hN H locs la hP hS hl
  exact lv_icmp_ne X.1 X.2.1 hd ht (fun q => kt q hL hN H locs la hP hS hl) (fun q => kf q hL hN H locs la hP hS hl)
theorem ei_if_lt {a : Int32} {off : Int} {tgt : Nat} (X : e_X x own cc d) (hd : decode cc pc = .ok (.ifCond .lt off, 3)) (ht : (pc : Int) + off = (tgt : Int)) (kt : a < 0 → e_E x tgt ls st h) (kf : ¬ (a < 0) → e_E x (pc + 3) ls st h) : e_E x pc ls (.int a :: st) h := by
  obtain ⟨p, l, e, R, s, m, args, below, meth, c, dC, dI, dA, ad, A, N, nL, cells, slots, Q⟩ := x
  intro hL hN H locs la hP hS hl
  exact lv_if_lt X.1 X.2.1 hd ht (fun q => kt q hL hN H locs la hP hS hl) (fun q => kf q hL hN H locs la hP hS hl)
theorem ei_icmp_lt {a b : Int32} {off : Int} {tgt : Nat} (X : e_X x own cc d) (hd : decode cc pc = .ok (.if_icmp .lt off, 3)) (ht : (pc : Int) + off = (tgt : Int)) (kt : a < b → e_E x tgt ls st h) (kf : ¬ (a < b) → e_E x (pc + 3) ls st h) : e_E x pc ls (.int b :: .int a :: st) h := by
  obtain ⟨p, l, e, R, s, m, args, below, meth, c, dC, dI, dA, ad, A, N, nL, cells, slots, Q⟩ := x
  intro hL hN H locs la hP hS hl
  exact lv_icmp_lt X.1 X.2.1 hd ht (fun q => kt q hL hN H locs la hP hS hl) (fun q => kf q hL hN H locs la hP hS hl)
theorem ei_if_ge {a : Int32} {off : Int} {tgt : Nat} (X : e_X x own cc d) (hd : decode cc pc = .ok (.ifCond .ge off, 3)) (ht : (pc : Int) + off = (tgt : Int)) (kt : 0 ≤ a → e_E x tgt ls st h) (kf : ¬ (0 ≤ a) → e_E x (pc + 3) ls st h) : e_E x pc ls (.int a :: st) h := by
  obtain ⟨p, l, e, R, s, m, args, below, meth, c, dC, dI, dA, ad, A, N, nL, cells, slots, Q⟩ := x
  intro hL hN H locs la hP hS hl
  exact lv_if_ge X.1 X.2.1 hd ht (fun q => kt q hL hN H locs la hP hS hl) (fun q => kf q hL hN H locs la hP hS hl)
theorem ei_icmp_ge {a b : Int32} {off : Int} {tgt : Nat} (X : e_X x own cc d) (hd : decode cc pc = .ok (.if_icmp .ge off, 3)) (ht : (pc : Int) + off = (tgt : Int)) (kt : b ≤ a → e_E x tgt ls st h) (kf : ¬ (b ≤ a) → e_E x (pc + 3) ls st h) : e_E x pc ls (.int b :: .int a :: st) h := by
  obtain ⟨p, l, e, R, s, m, args, below, meth, c, dC, dI, dA, ad, A, N, nL, cells, slots, Q⟩ := x
  intro hL hN H locs la hP hS hl
  exact lv_icmp_ge X.1 X.2.1 hd ht (fun q => kt q hL hN H locs la hP hS hl) (fun q => kf q hL hN H locs la hP hS hl)
theorem ei_if_gt {a : Int32} {off : Int} {tgt : Nat} (X : e_X x own cc d) (hd : decode cc pc = .ok (.ifCond .gt off, 3)) (ht : (pc : Int) + off = (tgt : Int)) (kt : 0 < a → e_E x tgt ls st h) (kf : ¬ (0 < a) → e_E x (pc + 3) ls st h) : e_E x pc ls (.int a :: st) h := by
  obtain ⟨p, l, e, R, s, m, args, below, meth, c, dC, dI, dA, ad, A, N, nL, cells, slots, Q⟩ := x
  intro hL hN H locs la hP hS hl
  exact lv_if_gt X.1 X.2.1 hd ht (fun q => kt q hL hN H locs la hP hS hl) (fun q => kf q hL hN H locs la hP hS hl)
theorem ei_icmp_gt {a b : Int32} {off : Int} {tgt : Nat} (X : e_X x own cc d) (hd : decode cc pc = .ok (.if_icmp .gt off, 3)) (ht : (pc : Int) + off = (tgt : Int)) (kt : b < a → e_E x tgt ls st h) (kf : ¬ (b < a) → e_E x (pc + 3) ls st h) : e_E x pc ls (.int b :: .int a :: st) h := by
  obtain ⟨p, l, e, R, s, m, args, below, meth, c, dC, dI, dA, ad, A, N, nL, cells, slots, Q⟩ := x
  intro hL hN H locs la hP hS hl
  exact lv_icmp_gt X.1 X.2.1 hd ht (fun q => kt q hL hN H locs la hP hS hl) (fun q => kf q hL hN H locs la hP hS hl)
theorem ei_if_le {a : Int32} {off : Int} {tgt : Nat} (X : e_X x own cc d) (hd : decode cc pc = .ok (.ifCond .le off, 3)) (ht : (pc : Int) + off = (tgt : Int)) (kt : a ≤ 0 → e_E x tgt ls st h) (kf : ¬ (a ≤ 0) → e_E x (pc + 3) ls st h) : e_E x pc ls (.int a :: st) h := by
  obtain ⟨p, l, e, R, s, m, args, below, meth, c, dC, dI, dA, ad, A, N, nL, cells, slots, Q⟩ := x
  intro hL hN H locs la hP hS hl
  exact lv_if_le X.1 X.2.1 hd ht (fun q => kt q hL hN H locs la hP hS hl) (fun q => kf q hL hN H locs la hP hS hl)
theorem ei_icmp_le {a b : Int32} {off : Int} {tgt : Nat} (X : e_X x own cc d) (hd : decode cc pc = .ok (.if_icmp .le off, 3)) (ht : (pc : Int) + off = (tgt : Int)) (kt : a ≤ b → e_E x tgt ls st h) (kf : ¬ (a ≤ b) → e_E x (pc + 3) ls st h) : e_E x pc ls (.int b :: .int a :: st) h := by
  obtain ⟨p, l, e, R, s, m, args, below, meth, c, dC, dI, dA, ad, A, N, nL, cells, slots, Q⟩ := x
  intro hL hN H locs la hP hS hl
  exact lv_icmp_le X.1 X.2.1 hd ht (fun q => kt q hL hN H locs la hP hS hl) (fun q => kf q hL hN H locs la hP hS hl)
theorem ei_goto {off : Int} {tgt : Nat} (X : e_X x own cc d) (hd : decode cc pc = .ok (.goto off, 3)) (ht : (pc : Int) + off = (tgt : Int)) (k : e_E x tgt ls st h) : e_E x pc ls st h := by
  obtain ⟨p, l, e, R, s, m, args, below, meth, c, dC, dI, dA, ad, A, N, nL, cells, slots, Q⟩ := x
  intro hL hN H locs la hP hS hl
  exact lv_goto X.1 X.2.1 hd ht (k hL hN H locs la hP hS hl)
def e_tchk (pc : Nat) : Int → List Int → List (Int32 × Nat) → Bool
  | _, [], [] => true
  | lo, o :: os, (v, t) :: cs => (v.toInt == lo) && (((pc : Int) + o == (t : Int)) && e_tchk pc (lo + 1) os cs)
  | _, _, _ => false
theorem e_tchk_len {pc : Nat} : ∀ {lo : Int} {os : List Int} {cs : List (Int32 × Nat)}, e_tchk pc lo os cs = true → os.length = cs.length
  | _, [], [], _ => rfl
  | lo, o :: os, (v, t) :: cs, h => by
    simp only [e_tchk, Bool.and_eq_true] at h
    simp [e_tchk_len h.2.2]
  | _, [], _ :: _, h => by simp [e_tchk] at h
  | _, _ :: _, [], h => by simp [e_tchk] at h
theorem e_tchk_at {pc : Nat} : ∀ {lo : Int} {os : List Int} {cs : List (Int32 × Nat)}, e_tchk pc lo os cs = true → ∀ (j : Nat) (v : Int32) (t : Nat), cs[j]? = some (v, t) → v.toInt = lo + j ∧ ∃ o, os[j]? = some o ∧ (pc : Int) + o = (t : Int)
  | _, [], [], _, j, v, t, hj => by simp at hj
  | lo, o :: os, (v0, t0) :: cs, h, j, v, t, hj => by
    simp only [e_tchk, Bool.and_eq_true, beq_iff_eq] at h
    cases j with
    | zero =>
      simp only [List.getElem?_cons_zero, Option.some.injEq, Prod.mk.injEq] at hj
      obtain ⟨rfl, rfl⟩ := hj
      exact ⟨by rw [h.1]; simp, o, rfl, h.2.1⟩
    | succ j =>
      have h2 := e_tchk_at h.2.2 j v t (by simpa using hj)
      refine ⟨by rw [h2.1]; omega, ?_⟩
      obtain ⟨o', h3, h4⟩ := h2.2
      exact ⟨o', by simpa using h3, h4⟩
  | _, [], _ :: _, h, _, _, _, _ => by simp [e_tchk] at h
  | _, _ :: _, [], h, _, _, _, _ => by simp [e_tchk] at h
/-- one case after the other -/
def e_tk (K : Nat → Prop) (a : Int32) : List (Int32 × Nat) → Prop
  | [] => True
  | (v, t) :: cs => (a = v → K t) ∧ e_tk K a cs
def e_tn (a : Int32) : List (Int32 × Nat) → Prop
  | [] => True
  | (v, _) :: cs => ¬ a = v ∧ e_tn a cs
theorem e_tk_at {K : Nat → Prop} {a : Int32} : ∀ {cs : List (Int32 × Nat)}, e_tk K a cs → ∀ (v : Int32) (t : Nat), (v, t) ∈ cs → a = v → K t
  | [], _, v, t, h, _ => by simp at h
  | (v0, t0) :: cs, hk, v, t, h, ha => by
    rcases List.mem_cons.mp h with h | h
    · cases h; exact hk.1 ha
    · exact e_tk_at hk.2 v t h ha
theorem e_tn_of {a : Int32} : ∀ {cs : List (Int32 × Nat)}, (∀ v t, (v, t) ∈ cs → ¬ a = v) → e_tn a cs
  | [], _ => trivial
  | (v, t) :: cs, h => ⟨h v t List.mem_cons_self, e_tn_of fun v t q => h v t (List.mem_cons_of_mem _ q)⟩
theorem ei_table {a : Int32} {dflt lo hi : Int} {offs : Array Int} {len : Nat} (cs : List (Int32 × Nat)) (td : Nat) (X : e_X x own cc d) (hd : decode cc pc = .ok (.tableswitch dflt lo hi offs, len)) (hc : e_tchk pc lo offs.toList cs = true) (hhi : hi = lo + cs.length - 1) (htd : (pc : Int) + dflt = (td : Int))
    (kin : e_tk (fun t => e_E x t ls st h) a cs) (kout : e_tn a cs → e_E x td ls st h) : e_E x pc ls (.int a :: st) h := by
  obtain ⟨p, l, e, R, s, m, args, below, meth, c, dC, dI, dA, ad, A, N, nL, cells, slots, Q⟩ := x
  intro hL hN H locs la hP hS hl
  by_cases hr : a.toInt < lo ∨ hi < a.toInt
  · refine lv_tableOut X.1 X.2.1 hd hr htd (kout (e_tn_of fun v t hm hv => ?_) hL hN H locs la hP hS hl)
    obtain ⟨j, hj⟩ := List.getElem?_of_mem hm
    have h1 := (e_tchk_at hc j v t hj).1
    have h2 := (List.getElem?_eq_some_iff.mp hj).1
    rw [hv, h1] at hr
    omega
  · have h1 : ¬ a.toInt < lo := fun q => hr (Or.inl q)
    have h2 : ¬ hi < a.toInt := fun q => hr (Or.inr q)
    have hj : (a.toInt - lo).toNat < cs.length := by omega
    obtain ⟨v, t, hvt⟩ : ∃ v t, cs[(a.toInt - lo).toNat]? = some (v, t) := ⟨_, _, List.getElem?_eq_getElem hj⟩
    obtain ⟨h3, o, h4, h5⟩ := e_tchk_at hc _ v t hvt
    have hav : a = v := Int32.toInt_inj.mp (by rw [h3]; omega)
    exact lv_tableIn X.1 X.2.1 hd h1 h2 (by rw [← Array.getElem?_toList]; exact h4) h5 (e_tk_at kin v t (List.mem_of_getElem? hvt) hav hL hN H locs la hP hS hl)
theorem ei_getf {k ci f idx : Nat} {fs : List Value} {v : Value} (X : e_X x own cc d) (fl : e_FL own idx ci f) (hd : decode cc pc = .ok (.getfield idx, 3)) (hh : h[k]? = some (.inr (ci, fs))) (hv : fs[f]? = some v) (kk : e_E x (pc + 3) ls (v :: st) h) : e_E x pc ls (.ref k :: st) h := by
  obtain ⟨p, l, e, R, s, m, args, below, meth, c, dC, dI, dA, ad, A, N, nL, cells, slots, Q⟩ := x
  intro hL hN H locs la hP hS hl
  obtain ⟨C, T, N0, ty0, hc, hf, hin, -, -, hlk⟩ := fl
  exact va_get (D := (dC, dI)) X.1 X.2.1 X.2.2.2.2.1 hin X.2.2.2.1 X.2.2.2.2.2.1 hP k (e_wd_get hh) hc f hf (X.2.2.2.2.1 _ hlk) (fun _ q => q) (v := e_mv ad v) (by rw [List.getElem?_map, hv]; rfl) hd (kk hL hN H locs la hP hS hl)
theorem ei_puti {k ci f idx : Nat} {fs : List Value} {a : Int32} (X : e_X x own cc d) (fl : e_FP own idx ci f .int) (hd : decode cc pc = .ok (.putfield idx, 3)) (hh : h[k]? = some (.inr (ci, fs))) (hf2 : f < fs.length) {h2 : List eC} (h2e : h.set k (.inr (ci, fs.set f (.int a))) = h2) (kk : e_E x (pc + 3) ls st h2) : e_E x pc ls (.int a :: .ref k :: st) h := by
  obtain ⟨p, l, e, R, s, m, args, below, meth, c, dC, dI, dA, ad, A, N, nL, cells, slots, Q⟩ := x
  intro hL hN H locs la hP hS hl
  obtain ⟨C, T, N0, ty0, hc, hf, hin, hty, hnm, hlk, hfin, hdsc⟩ := fl
  subst h2e
  refine va_put (D := (dC, dI)) X.1 X.2.1 X.2.2.2.2.1 hin ty0 hty hnm X.2.2.2.1 X.2.2.2.2.2.1 hP (e_D X.2.2.2.2.2.2.1 X.2.2.2.2.2.2.2.1 hN) hS k (e_wd_get hh) hc f hf (X.2.2.2.2.1 _ hlk) (fun _ q => q) hfin hdsc (v := e_mv ad (.int a)) rfl rfl (by rw [List.length_map]; exact hf2) hd (fun H1 locs1 hP1 hD1 hS1 => ?_)
  refine kk hL (by rw [List.length_set]; exact hN) H1 locs1 la ?_ hS1 hl
  rw [e_wd_set]
  simpa only [e_rl, List.map_set] using hP1
theorem ei_putz {k ci f idx : Nat} {fs : List Value} {a : Int32} (X : e_X x own cc d) (fl : e_FP own idx ci f .boolean) (hd : decode cc pc = .ok (.putfield idx, 3)) (hh : h[k]? = some (.inr (ci, fs))) (hf2 : f < fs.length) (hz : narrow .boolean (.int a) = .int a ∧ fits .boolean (.int a) = true) {h2 : List eC} (h2e : h.set k (.inr (ci, fs.set f (.int a))) = h2) (kk : e_E x (pc + 3) ls st h2) : e_E x pc ls (.int a :: .ref k :: st) h := by
  obtain ⟨p, l, e, R, s, m, args, below, meth, c, dC, dI, dA, ad, A, N, nL, cells, slots, Q⟩ := x
  intro hL hN H locs la hP hS hl
  obtain ⟨C, T, N0, ty0, hc, hf, hin, hty, hnm, hlk, hfin, hdsc⟩ := fl
  subst h2e
  refine va_put (D := (dC, dI)) X.1 X.2.1 X.2.2.2.2.1 hin ty0 hty hnm X.2.2.2.1 X.2.2.2.2.2.1 hP (e_D X.2.2.2.2.2.2.1 X.2.2.2.2.2.2.2.1 hN) hS k (e_wd_get hh) hc f hf (X.2.2.2.2.1 _ hlk) (fun _ q => q) hfin hdsc (v := e_mv ad (.int a)) hz.1 hz.2 (by rw [List.length_map]; exact hf2) hd (fun H1 locs1 hP1 hD1 hS1 => ?_)
  refine kk hL (by rw [List.length_set]; exact hN) H1 locs1 la ?_ hS1 hl
  rw [e_wd_set]
  simpa only [e_rl, List.map_set] using hP1
theorem ei_puta {k ci f idx : Nat} {fs : List Value} {a : Nat} {ty : FieldType} (X : e_X x own cc d) (fl : e_FP own idx ci f ty) (hd : decode cc pc = .ok (.putfield idx, 3)) (hh : h[k]? = some (.inr (ci, fs))) (hf2 : f < fs.length) (hty0 : ∃ t, ty = .array t) {h2 : List eC} (h2e : h.set k (.inr (ci, fs.set f (.ref a))) = h2) (kk : e_E x (pc + 3) ls st h2) : e_E x pc ls (.ref a :: .ref k :: st) h := by
  obtain ⟨p, l, e, R, s, m, args, below, meth, c, dC, dI, dA, ad, A, N, nL, cells, slots, Q⟩ := x
  intro hL hN H locs la hP hS hl
  obtain ⟨C, T, N0, ty0, hc, hf, hin, hty, hnm, hlk, hfin, hdsc⟩ := fl
  subst h2e
  refine va_put (D := (dC, dI)) X.1 X.2.1 X.2.2.2.2.1 hin ty0 hty hnm X.2.2.2.1 X.2.2.2.2.2.1 hP (e_D X.2.2.2.2.2.2.1 X.2.2.2.2.2.2.2.1 hN) hS k (e_wd_get hh) hc f hf (X.2.2.2.2.1 _ hlk) (fun _ q => q) hfin hdsc (v := e_mv ad (.ref a)) (by obtain ⟨t, rfl⟩ := hty0; rfl) (by obtain ⟨t, rfl⟩ := hty0; rfl) (by rw [List.length_map]; exact hf2) hd (fun H1 locs1 hP1 hD1 hS1 => ?_)
  refine kk hL (by rw [List.length_set]; exact hN) H1 locs1 la ?_ hS1 hl
  rw [e_wd_set]
  simpa only [e_rl, List.map_set] using hP1
theorem ei_iaload {k n : Nat} {g : Nat → Int32} {i : Int32} (X : e_X x own cc d) (hd : decode cc pc = .ok (.iaload, 1)) (hh : h[k]? = some (.inl (0, n, .inl g))) (hin : vp_in i n) (kk : e_E x (pc + 1) ls (.int (g i.toNatClampNeg) :: st) h) : e_E x pc ls (.int i :: .ref k :: st) h := by
  obtain ⟨p, l, e, R, s, m, args, below, meth, c, dC, dI, dA, ad, A, N, nL, cells, slots, Q⟩ := x
  intro hL hN H locs la hP hS hl
  exact va_iald X.1 X.2.1 X.2.2.2.2.2.1 hP k 0 (e_wd_get hh) rfl hin hd (kk hL hN H locs la hP hS hl)
theorem ei_laload {k n : Nat} {g : Nat → Int64} {i : Int32} (X : e_X x own cc d) (hd : decode cc pc = .ok (.laload, 1)) (hh : h[k]? = some (.inl (1, n, .inr (.inl g)))) (hin : vp_in i n) (kk : e_E x (pc + 1) ls (.long (g i.toNatClampNeg) :: st) h) : e_E x pc ls (.int i :: .ref k :: st) h := by
  obtain ⟨p, l, e, R, s, m, args, below, meth, c, dC, dI, dA, ad, A, N, nL, cells, slots, Q⟩ := x
  intro hL hN H locs la hP hS hl
  exact va_lald X.1 X.2.1 X.2.2.2.2.2.1 hP k 1 (e_wd_get hh) rfl hin hd (kk hL hN H locs la hP hS hl)
theorem ei_iastore {k n : Nat} {g : Nat → Int32} {i : Int32} {a : Int32} (X : e_X x own cc d) (hd : decode cc pc = .ok (.iastore, 1)) (hh : h[k]? = some (.inl (0, n, .inl g))) (hin : vp_in i n) {h2 : List eC} (h2e : h.set k (.inl (0, n, .inl (upd g i.toNatClampNeg a))) = h2) (kk : e_E x (pc + 1) ls st h2) : e_E x pc ls (.int a :: .int i :: .ref k :: st) h := by
  obtain ⟨p, l, e, R, s, m, args, below, meth, c, dC, dI, dA, ad, A, N, nL, cells, slots, Q⟩ := x
  intro hL hN H locs la hP hS hl
  subst h2e
  refine va_iast X.1 X.2.1 X.2.2.2.2.2.1 hP (e_D X.2.2.2.2.2.2.1 X.2.2.2.2.2.2.2.1 hN) hS k 0 (e_wd_get hh) rfl hin hd (fun H1 locs1 hP1 hD1 hS1 => ?_)
  refine kk hL (by rw [List.length_set]; exact hN) H1 locs1 la ?_ hS1 hl
  rw [e_wd_set]
  exact hP1
theorem ei_lastore {k n : Nat} {g : Nat → Int64} {i : Int32} {a : Int64} (X : e_X x own cc d) (hd : decode cc pc = .ok (.lastore, 1)) (hh : h[k]? = some (.inl (1, n, .inr (.inl g)))) (hin : vp_in i n) {h2 : List eC} (h2e : h.set k (.inl (1, n, .inr (.inl (vp_updL g i.toNatClampNeg a)))) = h2) (kk : e_E x (pc + 1) ls st h2) : e_E x pc ls (.long a :: .int i :: .ref k :: st) h := by
  obtain ⟨p, l, e, R, s, m, args, below, meth, c, dC, dI, dA, ad, A, N, nL, cells, slots, Q⟩ := x
  intro hL hN H locs la hP hS hl
  subst h2e
  refine va_last X.1 X.2.1 X.2.2.2.2.2.1 hP (e_D X.2.2.2.2.2.2.1 X.2.2.2.2.2.2.2.1 hN) hS k 1 (e_wd_get hh) rfl hin hd (fun H1 locs1 hP1 hD1 hS1 => ?_)
  refine kk hL (by rw [List.length_set]; exact hN) H1 locs1 la ?_ hS1 hl
  rw [e_wd_set]
  exact hP1
theorem ei_aaload {k n a : Nat} {g : Nat → Option Nat} {i : Int32} (X : e_X x own cc d) (hd : decode cc pc = .ok (.aaload, 1)) (hh : h[k]? = some (.inl (2, n, .inr (.inr (.inr (.inr g)))))) (hin : vp_in i n) (hg : g i.toNatClampNeg = some a) (kk : e_E x (pc + 1) ls (.ref a :: st) h) : e_E x pc ls (.int i :: .ref k :: st) h := by
  obtain ⟨p, l, e, R, s, m, args, below, meth, c, dC, dI, dA, ad, A, N, nL, cells, slots, Q⟩ := x
  intro hL hN H locs la hP hS hl
  refine va_aldq (C := RX4) X.1 X.2.1 X.2.2.2.2.2.1 hP k 2 (e_wd_get hh) rfl hin hd ?_
  rw [hg]
  exact kk hL hN H locs la hP hS hl
theorem ei_ldc {idx : Nat} {v : Int32} (X : e_X x own cc d) (hw : Cond.constant own idx v ∈ e_ws) (hd : decode cc pc = .ok (.ldc idx, 2)) (kk : e_E x (pc + 2) ls (.int v :: st) h) : e_E x pc ls st h := by
  obtain ⟨p, l, e, R, s, m, args, below, meth, c, dC, dI, dA, ad, A, N, nL, cells, slots, Q⟩ := x
  intro hL hN H locs la hP hS hl
  exact lv_ldc X.1 X.2.1 X.2.2.2.1 (X.2.2.2.2.1 _ hw) hd (kk hL hN H locs la hP hS hl)
theorem ei_ldc2 {idx : Nat} {v : Int64} (X : e_X x own cc d) (hw : Cond.constantLong own idx v ∈ e_ws) (hd : decode cc pc = .ok (.ldc2_w idx, 3)) (kk : e_E x (pc + 3) ls (.long v :: st) h) : e_E x pc ls st h := by
  obtain ⟨p, l, e, R, s, m, args, below, meth, c, dC, dI, dA, ad, A, N, nL, cells, slots, Q⟩ := x
  intro hL hN H locs la hP hS hl
  exact lv_ldc2 X.1 X.2.1 X.2.2.2.1 (X.2.2.2.2.1 _ hw) hd (kk hL hN H locs la hP hS hl)
theorem e_cats (ad : Nat → Nat) : ∀ (st : List Value), ((st.map (e_mv ad)).map fun v => v.category).sum = (st.map fun v => v.category).sum
  | [] => rfl
  | v :: st => by
    have h := e_cats ad st
    simp only [List.map_cons, List.sum_cons, e_mv_cat, h]
def e_MJ (own : String) (idx : Nat) (y : MethodName) (cc : ByteArray) (maxL : Nat) : Prop :=
  Cond.methodLink own idx y ∈ e_ws ∧ Cond.static y ∈ e_ws ∧ Cond.initialized "java/lang/Math" ∈ e_ws ∧ Cond.code y cc maxL (some .int) ∈ e_ws
theorem ei_mmax {idx : Nat} {a b : Int32} (X : e_X x own cc (d + 1)) (mj : e_MJ own idx Lib.Math.max.name Lib.Math.max.code 2) (hd : decode cc pc = .ok (.invokestatic idx, 3)) (hst : (st.map fun v => v.category).sum ≤ 8) (kk : e_E x (pc + 3) ls (.int (if a < b then b else a) :: st) h) : e_E x pc ls (.int b :: .int a :: st) h := by
  obtain ⟨p, l, e, R, s, m, args, below, meth, c, dC, dI, dA, ad, A, N, nL, cells, slots, Q⟩ := x
  intro hL hN H locs la hP hS hl
  obtain ⟨h1, h2, h3, h4⟩ := mj
  have hR1 := X.2.2.2.2.2.2.2.2.1
  have hR2 := X.2.2.2.2.2.2.2.2.2.1
  exact va_mmax X.1 X.2.1 (X.2.2.1.trans hl.1.symm) X.2.2.2.1 (X.2.2.2.2.1 _ h1) (X.2.2.2.2.1 _ h2) (X.2.2.2.2.1 _ h3) (X.2.2.2.2.1 _ h4) (by omega) (by rw [e_cats]; omega) X.2.2.2.2.2.2.2.2.2.2.1 X.2.2.2.2.2.2.2.2.2.2.2 hd (kk hL hN H locs la hP hS hl)
theorem ei_mmin {idx : Nat} {a b : Int32} (X : e_X x own cc (d + 1)) (mj : e_MJ own idx Lib.Math.min.name Lib.Math.min.code 2) (hd : decode cc pc = .ok (.invokestatic idx, 3)) (hst : (st.map fun v => v.category).sum ≤ 8) (kk : e_E x (pc + 3) ls (.int (if b < a then b else a) :: st) h) : e_E x pc ls (.int b :: .int a :: st) h := by
  obtain ⟨p, l, e, R, s, m, args, below, meth, c, dC, dI, dA, ad, A, N, nL, cells, slots, Q⟩ := x
  intro hL hN H locs la hP hS hl
  obtain ⟨h1, h2, h3, h4⟩ := mj
  have hR1 := X.2.2.2.2.2.2.2.2.1
  have hR2 := X.2.2.2.2.2.2.2.2.2.1
  exact va_mmin X.1 X.2.1 (X.2.2.1.trans hl.1.symm) X.2.2.2.1 (X.2.2.2.2.1 _ h1) (X.2.2.2.2.1 _ h2) (X.2.2.2.2.1 _ h3) (X.2.2.2.2.1 _ h4) (by omega) (by rw [e_cats]; omega) X.2.2.2.2.2.2.2.2.2.2.1 X.2.2.2.2.2.2.2.2.2.2.2 hd (kk hL hN H locs la hP hS hl)
theorem ei_mabs {idx : Nat} {a : Int32} (X : e_X x own cc (d + 1)) (mj : e_MJ own idx Lib.Math.abs.name Lib.Math.abs.code 1) (hd : decode cc pc = .ok (.invokestatic idx, 3)) (hst : (st.map fun v => v.category).sum ≤ 8) (kk : e_E x (pc + 3) ls (.int (if 0 ≤ a then a else 0 - a) :: st) h) : e_E x pc ls (.int a :: st) h := by
  obtain ⟨p, l, e, R, s, m, args, below, meth, c, dC, dI, dA, ad, A, N, nL, cells, slots, Q⟩ := x
  intro hL hN H locs la hP hS hl
  obtain ⟨h1, h2, h3, h4⟩ := mj
  have hR1 := X.2.2.2.2.2.2.2.2.1
  have hR2 := X.2.2.2.2.2.2.2.2.2.1
  exact va_mabs X.1 X.2.1 (X.2.2.1.trans hl.1.symm) X.2.2.2.1 (X.2.2.2.2.1 _ h1) (X.2.2.2.2.1 _ h2) (X.2.2.2.2.1 _ h3) (X.2.2.2.2.1 _ h4) (by omega) (by rw [e_cats]; omega) X.2.2.2.2.2.2.2.2.2.2.1 X.2.2.2.2.2.2.2.2.2.2.2 hd (kk hL hN H locs la hP hS hl)
theorem ei_copy {idx k0 k1 n0 n1 : Nat} {f g : Nat → Int32} {sp dp n : Int32} (X : e_X x own cc (d + 1)) (w1 : Cond.methodLink own idx arraycopyName ∈ e_ws) (w2 : Cond.native arraycopyName ∈ e_ws) (w3 : Cond.static arraycopyName ∈ e_ws) (w4 : Cond.initialized "java/lang/System" ∈ e_ws) (hd : decode cc pc = .ok (.invokestatic idx, 3)) (hst : (st.map fun v => v.category).sum ≤ 8)
    (hh0 : h[k0]? = some (.inl (0, n0, .inl f))) (hh1 : h[k1]? = some (.inl (0, n1, .inl g))) (h1 : ¬ sp < 0) (h2 : ¬ dp < 0) (h3 : ¬ n < 0) (h4 : sp.toNatClampNeg + n.toNatClampNeg ≤ n0) (h5 : dp.toNatClampNeg + n.toNatClampNeg ≤ n1)
    {h2' : List eC} (h2e : h.set k1 (.inl (0, n1, .inl (va_cpy f g sp.toNatClampNeg dp.toNatClampNeg n.toNatClampNeg))) = h2') (kk : e_E x (pc + 3) ls st h2') : e_E x pc ls (.int n :: .int dp :: .ref k1 :: .int sp :: .ref k0 :: st) h := by
  obtain ⟨p, l, e, R, s, m, args, below, meth, c, dC, dI, dA, ad, A, N, nL, cells, slots, Q⟩ := x
  intro hL hN H locs la hP hS hl
  subst h2e
  have hR1 := X.2.2.2.2.2.2.2.2.1
  have hR2 := X.2.2.2.2.2.2.2.2.2.1
  have hnf : nativeFrameWords "java/lang/System" "arraycopy" 5 + 11 ≤ 32 := by decide +kernel
  refine va_copyi X.1 X.2.1 (X.2.2.1.trans hl.1.symm) X.2.2.2.1 (X.2.2.2.2.1 _ w1) (X.2.2.2.2.1 _ w2) (X.2.2.2.2.1 _ w3) (X.2.2.2.2.1 _ w4) X.2.2.2.2.2.1 hP (e_D X.2.2.2.2.2.2.1 X.2.2.2.2.2.2.2.1 hN) hS k0 k1 0 0 (e_wd_get hh0) (e_wd_get hh1) rfl rfl rfl h1 h2 h3 h4 h5 (fun _ _ => rfl) (by omega) (by rw [e_cats]; omega) hd (fun H1 locs1 hP1 hD1 hS1 => ?_)
  refine kk hL (by rw [List.length_set]; exact hN) H1 locs1 la ?_ hS1 hl
  rw [e_wd_set]
  exact hP1
theorem ei_ireturn {v : Int32} {P : Option Value → List eC → Prop} (X : e_X x own cc d) (F : e_F x (some .int) P) (hd : decode cc pc = .ok (.ireturn, 1)) (hp : P (some (.int v)) h) : e_E x pc ls [.int v] h := by
  obtain ⟨p, l, e, R, s, m, args, below, meth, c, dC, dI, dA, ad, A, N, nL, cells, slots, Q⟩ := x
  intro hL hN H locs la hP hS hl
  obtain ⟨rfl, hr, hk⟩ := F
  exact W.iret X.1 X.2.1 hr (fun t ht hW => ⟨⟨_, h, hN, hp, rfl, by rw [ht]; exact hP⟩, hS.F ht⟩) hS.2.2 hd hk
theorem ei_zreturn {v : Int32} {P : Option Value → List eC → Prop} (X : e_X x own cc d) (F : e_F x (some .boolean) P) (hd : decode cc pc = .ok (.ireturn, 1)) (hz : narrow .boolean (.int v) = .int v) (hp : P (some (.int v)) h) : e_E x pc ls [.int v] h := by
  obtain ⟨p, l, e, R, s, m, args, below, meth, c, dC, dI, dA, ad, A, N, nL, cells, slots, Q⟩ := x
  intro hL hN H locs la hP hS hl
  obtain ⟨rfl, hr, hk⟩ := F
  exact W.zret X.1 X.2.1 hr hz (fun t ht hW => ⟨⟨_, h, hN, hp, rfl, by rw [ht]; exact hP⟩, hS.F ht⟩) hS.2.2 hd hk
theorem ei_lreturn {v : Int64} {P : Option Value → List eC → Prop} (X : e_X x own cc d) (F : e_F x (some .long) P) (hd : decode cc pc = .ok (.lreturn, 1)) (hp : P (some (.long v)) h) : e_E x pc ls [.long v] h := by
  obtain ⟨p, l, e, R, s, m, args, below, meth, c, dC, dI, dA, ad, A, N, nL, cells, slots, Q⟩ := x
  intro hL hN H locs la hP hS hl
  obtain ⟨rfl, hr, hk⟩ := F
  exact W.lret X.1 X.2.1 hr (fun t ht hW => ⟨⟨_, h, hN, hp, rfl, by rw [ht]; exact hP⟩, hS.F ht⟩) hS.2.2 hd hk
theorem ei_vreturn {P : Option Value → List eC → Prop} (X : e_X x own cc d) (F : e_F x none P) (hd : decode cc pc = .ok (.return_, 1)) (hp : P none h) : e_E x pc ls [] h := by
  obtain ⟨p, l, e, R, s, m, args, below, meth, c, dC, dI, dA, ad, A, N, nL, cells, slots, Q⟩ := x
  intro hL hN H locs la hP hS hl
  obtain ⟨rfl, hr, hk⟩ := F
  exact W.vret X.1 X.2.1 hr (fun t ht hW => ⟨⟨_, h, hN, hp, rfl, by rw [ht]; exact hP⟩, hS.F ht⟩) hS.2.2 hd hk
end EK
