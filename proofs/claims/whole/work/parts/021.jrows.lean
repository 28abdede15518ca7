section JR
variable {l : Launch} {G : jG} {y : MethodName} {cc : ByteArray} {n : Nat} {r : Option FieldType} {rm : Room} {nc ns pc : Nat} {lv : List (Nat × Value)} {st : List Value} {h : jH} {Q : Option Value → jH → Prop}
theorem j_iconst {i : Int} {v : Int32} (hd : decode cc pc = .ok (.iconst i, 1)) (hv : Int32.ofInt i = v) (k : J l G (y, cc, n, r, rm) nc ns (pc + 1) lv (.int v :: st) h Q) : J l G (y, cc, n, r, rm) nc ns pc lv (st) h Q :=
  fun p e s m args below meth c H locs ls hF hR hL hV => lv_iconst hF.1 hF.2.1 hd hv (k p e s m args below meth c H locs ls hF hR hL hV)
theorem j_bipush {i : Int} {v : Int32} (hd : decode cc pc = .ok (.bipush i, 2)) (hv : (Int8.ofInt i).toInt32 = v) (k : J l G (y, cc, n, r, rm) nc ns (pc + 2) lv (.int v :: st) h Q) : J l G (y, cc, n, r, rm) nc ns pc lv (st) h Q :=
  fun p e s m args below meth c H locs ls hF hR hL hV => lv_bipush hF.1 hF.2.1 hd hv (k p e s m args below meth c H locs ls hF hR hL hV)
theorem j_sipush {i : Int} {v : Int32} (hd : decode cc pc = .ok (.sipush i, 3)) (hv : (Int16.ofInt i).toInt32 = v) (k : J l G (y, cc, n, r, rm) nc ns (pc + 3) lv (.int v :: st) h Q) : J l G (y, cc, n, r, rm) nc ns pc lv (st) h Q :=
  fun p e s m args below meth c H locs ls hF hR hL hV => lv_sipush hF.1 hF.2.1 hd hv (k p e s m args below meth c H locs ls hF hR hL hV)
theorem j_lconst {i : Fin 2} {v : Int64} (hd : decode cc pc = .ok (.lconst i, 1)) (hv : Int64.ofNat (i : Nat) = v) (k : J l G (y, cc, n, r, rm) nc ns (pc + 1) lv (.long v :: st) h Q) : J l G (y, cc, n, r, rm) nc ns pc lv (st) h Q :=
  fun p e s m args below meth c H locs ls hF hR hL hV => lv_lconst hF.1 hF.2.1 hd hv (k p e s m args below meth c H locs ls hF hR hL hV)
theorem j_iload_n {i : Fin 4} {x : Int32} (hd : decode cc pc = .ok (.iload_n i, 1)) (hl : jlk (i : Nat) lv = some (.int x)) (k : J l G (y, cc, n, r, rm) nc ns (pc + 1) lv (.int x :: st) h Q) : J l G (y, cc, n, r, rm) nc ns pc lv (st) h Q :=
  fun p e s m args below meth c H locs ls hF hR hL hV => lv_iload_n hF.1 hF.2.1 hd rfl (j_lv hV hl) (k p e s m args below meth c H locs ls hF hR hL hV)
theorem j_iload {i : Nat} {x : Int32} (hd : decode cc pc = .ok (.iload i, 2)) (hl : jlk i lv = some (.int x)) (k : J l G (y, cc, n, r, rm) nc ns (pc + 2) lv (.int x :: st) h Q) : J l G (y, cc, n, r, rm) nc ns pc lv (st) h Q :=
  fun p e s m args below meth c H locs ls hF hR hL hV => lv_iload hF.1 hF.2.1 hd (j_lv hV hl) (k p e s m args below meth c H locs ls hF hR hL hV)
theorem j_lload_n {i : Fin 4} {x : Int64} (hd : decode cc pc = .ok (.lload_n i, 1)) (hl : jlk (i : Nat) lv = some (.long x)) (k : J l G (y, cc, n, r, rm) nc ns (pc + 1) lv (.long x :: st) h Q) : J l G (y, cc, n, r, rm) nc ns pc lv (st) h Q :=
  fun p e s m args below meth c H locs ls hF hR hL hV => lv_lload_n hF.1 hF.2.1 hd rfl (j_lv hV hl) (k p e s m args below meth c H locs ls hF hR hL hV)
theorem j_lload {i : Nat} {x : Int64} (hd : decode cc pc = .ok (.lload i, 2)) (hl : jlk i lv = some (.long x)) (k : J l G (y, cc, n, r, rm) nc ns (pc + 2) lv (.long x :: st) h Q) : J l G (y, cc, n, r, rm) nc ns pc lv (st) h Q :=
  fun p e s m args below meth c H locs ls hF hR hL hV => lv_lload hF.1 hF.2.1 hd (j_lv hV hl) (k p e s m args below meth c H locs ls hF hR hL hV)
theorem j_aload_n {i : Fin 4} {x : Nat} (hd : decode cc pc = .ok (.aload_n i, 1)) (hl : jlk (i : Nat) lv = some (.ref x)) (k : J l G (y, cc, n, r, rm) nc ns (pc + 1) lv (.ref x :: st) h Q) : J l G (y, cc, n, r, rm) nc ns pc lv (st) h Q :=
  fun p e s m args below meth c H locs ls hF hR hL hV => lv_aload_n hF.1 hF.2.1 hd rfl (j_lv hV hl) (k p e s m args below meth c H locs ls hF hR hL hV)
theorem j_aload {i : Nat} {x : Nat} (hd : decode cc pc = .ok (.aload i, 2)) (hl : jlk i lv = some (.ref x)) (k : J l G (y, cc, n, r, rm) nc ns (pc + 2) lv (.ref x :: st) h Q) : J l G (y, cc, n, r, rm) nc ns pc lv (st) h Q :=
  fun p e s m args below meth c H locs ls hF hR hL hV => lv_aload hF.1 hF.2.1 hd (j_lv hV hl) (k p e s m args below meth c H locs ls hF hR hL hV)
theorem j_xload_n {i : Fin 4} {x : UInt32} (hd : decode cc pc = .ok (.aload_n i, 1)) (hl : jlk (i : Nat) lv = some (.float x)) (k : J l G (y, cc, n, r, rm) nc ns (pc + 1) lv (.float x :: st) h Q) : J l G (y, cc, n, r, rm) nc ns pc lv (st) h Q :=
  fun p e s m args below meth c H locs ls hF hR hL hV => lv_aload_n hF.1 hF.2.1 hd rfl (j_lv hV hl) (k p e s m args below meth c H locs ls hF hR hL hV)
theorem j_xload {i : Nat} {x : UInt32} (hd : decode cc pc = .ok (.aload i, 2)) (hl : jlk i lv = some (.float x)) (k : J l G (y, cc, n, r, rm) nc ns (pc + 2) lv (.float x :: st) h Q) : J l G (y, cc, n, r, rm) nc ns pc lv (st) h Q :=
  fun p e s m args below meth c H locs ls hF hR hL hV => lv_aload hF.1 hF.2.1 hd (j_lv hV hl) (k p e s m args below meth c H locs ls hF hR hL hV)
theorem j_nload_n {i : Fin 4} (hd : decode cc pc = .ok (.aload_n i, 1)) (hl : jlk (i : Nat) lv = some .null) (k : J l G (y, cc, n, r, rm) nc ns (pc + 1) lv (.null :: st) h Q) : J l G (y, cc, n, r, rm) nc ns pc lv (st) h Q :=
  fun p e s m args below meth c H locs ls hF hR hL hV => lv_aload_nN hF.1 hF.2.1 hd rfl (j_lv hV hl) (k p e s m args below meth c H locs ls hF hR hL hV)
theorem j_nload {i : Nat} (hd : decode cc pc = .ok (.aload i, 2)) (hl : jlk i lv = some .null) (k : J l G (y, cc, n, r, rm) nc ns (pc + 2) lv (.null :: st) h Q) : J l G (y, cc, n, r, rm) nc ns pc lv (st) h Q :=
  fun p e s m args below meth c H locs ls hF hR hL hV => lv_aloadN hF.1 hF.2.1 hd (j_lv hV hl) (k p e s m args below meth c H locs ls hF hR hL hV)
theorem j_aconst_null (hd : decode cc pc = .ok (.aconst_null, 1)) (k : J l G (y, cc, n, r, rm) nc ns (pc + 1) lv (.null :: st) h Q) : J l G (y, cc, n, r, rm) nc ns pc lv (st) h Q :=
  fun p e s m args below meth c H locs ls hF hR hL hV => lv_null hF.1 hF.2.1 hd (k p e s m args below meth c H locs ls hF hR hL hV)
theorem j_istore_n {i : Fin 4} {x : Int32} (hd : decode cc pc = .ok (.istore_n i, 1)) (hn : (i : Nat) < n) (k : J l G (y, cc, n, r, rm) nc ns (pc + 1) (jst1 (i : Nat) (.int x) lv) (st) h Q) : J l G (y, cc, n, r, rm) nc ns pc lv (.int x :: st) h Q :=
  fun p e s m args below meth c H locs ls hF hR hL hV => lv_istore_n hF.1 hF.2.1 hd rfl hV hn rfl (fun ls1 h1 => k p e s m args below meth c H locs ls1 hF hR hL (by rw [← jst1_c]; exact h1))
theorem j_istore {i : Nat} {x : Int32} (hd : decode cc pc = .ok (.istore i, 2)) (hn : i < n) (k : J l G (y, cc, n, r, rm) nc ns (pc + 2) (jst1 i (.int x) lv) (st) h Q) : J l G (y, cc, n, r, rm) nc ns pc lv (.int x :: st) h Q :=
  fun p e s m args below meth c H locs ls hF hR hL hV => lv_istore hF.1 hF.2.1 hd hV hn rfl (fun ls1 h1 => k p e s m args below meth c H locs ls1 hF hR hL (by rw [← jst1_c]; exact h1))
theorem j_lstore_n {i : Fin 4} {x : Int64} (hd : decode cc pc = .ok (.lstore_n i, 1)) (hn : (i : Nat) + 1 < n) (k : J l G (y, cc, n, r, rm) nc ns (pc + 1) (jst2 (i : Nat) (.long x) lv) (st) h Q) : J l G (y, cc, n, r, rm) nc ns pc lv (.long x :: st) h Q :=
  fun p e s m args below meth c H locs ls hF hR hL hV => lv_lstore_n hF.1 hF.2.1 hd rfl hV hn rfl (fun ls1 h1 => k p e s m args below meth c H locs ls1 hF hR hL (by rw [← jst2_c]; exact h1))
theorem j_lstore {i : Nat} {x : Int64} (hd : decode cc pc = .ok (.lstore i, 2)) (hn : i + 1 < n) (k : J l G (y, cc, n, r, rm) nc ns (pc + 2) (jst2 i (.long x) lv) (st) h Q) : J l G (y, cc, n, r, rm) nc ns pc lv (.long x :: st) h Q :=
  fun p e s m args below meth c H locs ls hF hR hL hV => lv_lstore hF.1 hF.2.1 hd hV hn rfl (fun ls1 h1 => k p e s m args below meth c H locs ls1 hF hR hL (by rw [← jst2_c]; exact h1))
theorem j_astore_n {i : Fin 4} {x : Nat} (hd : decode cc pc = .ok (.astore_n i, 1)) (hn : (i : Nat) < n) (k : J l G (y, cc, n, r, rm) nc ns (pc + 1) (jst1 (i : Nat) (.ref x) lv) (st) h Q) : J l G (y, cc, n, r, rm) nc ns pc lv (.ref x :: st) h Q :=
  fun p e s m args below meth c H locs ls hF hR hL hV => lv_astore_n hF.1 hF.2.1 hd rfl hV hn rfl (fun ls1 h1 => k p e s m args below meth c H locs ls1 hF hR hL (by rw [← jst1_c]; exact h1))
theorem j_astore {i : Nat} {x : Nat} (hd : decode cc pc = .ok (.astore i, 2)) (hn : i < n) (k : J l G (y, cc, n, r, rm) nc ns (pc + 2) (jst1 i (.ref x) lv) (st) h Q) : J l G (y, cc, n, r, rm) nc ns pc lv (.ref x :: st) h Q :=
  fun p e s m args below meth c H locs ls hF hR hL hV => lv_astore hF.1 hF.2.1 hd hV hn rfl (fun ls1 h1 => k p e s m args below meth c H locs ls1 hF hR hL (by rw [← jst1_c]; exact h1))
theorem j_nstore_n {i : Fin 4} (hd : decode cc pc = .ok (.astore_n i, 1)) (hn : (i : Nat) < n) (k : J l G (y, cc, n, r, rm) nc ns (pc + 1) (jst1 (i : Nat) (.null) lv) (st) h Q) : J l G (y, cc, n, r, rm) nc ns pc lv (.null :: st) h Q :=
  fun p e s m args below meth c H locs ls hF hR hL hV => lv_astore_nN hF.1 hF.2.1 hd rfl hV hn rfl (fun ls1 h1 => k p e s m args below meth c H locs ls1 hF hR hL (by rw [← jst1_c]; exact h1))
theorem j_nstore {i : Nat} (hd : decode cc pc = .ok (.astore i, 2)) (hn : i < n) (k : J l G (y, cc, n, r, rm) nc ns (pc + 2) (jst1 i (.null) lv) (st) h Q) : J l G (y, cc, n, r, rm) nc ns pc lv (.null :: st) h Q :=
  fun p e s m args below meth c H locs ls hF hR hL hV => lv_astoreN hF.1 hF.2.1 hd hV hn rfl (fun ls1 h1 => k p e s m args below meth c H locs ls1 hF hR hL (by rw [← jst1_c]; exact h1))
theorem j_iinc {i : Nat} {d : Int} {x v : Int32} (hd : decode cc pc = .ok (.iinc i d, 3)) (hl : jlk i lv = some (.int x)) (hv : x + Int32.ofInt d = v) (hn : i < n) (k : J l G (y, cc, n, r, rm) nc ns (pc + 3) (jst1 i (.int v) lv) st h Q) : J l G (y, cc, n, r, rm) nc ns pc lv st h Q := by
  intro p e s m args below meth c H locs ls hF hR hL hV
  obtain ⟨a, ha⟩ := List.getElem?_of_mem (jlk_mem hl)
  have ha' : (j_c G lv)[a]? = some (i, .int x) := by
    simp only [j_c, List.getElem?_map, ha]
    rfl
  exact lv_iinc hF.1 hF.2.1 hd hV ha' hv hn rfl (fun ls1 h1 => k p e s m args below meth c H locs ls1 hF hR hL (by rw [← jst1_c]; exact h1))
theorem j_iadd {x w : Int32} (hd : decode cc pc = .ok (.iadd, 1)) (k : J l G (y, cc, n, r, rm) nc ns (pc + 1) lv (.int (x + w) :: st) h Q) : J l G (y, cc, n, r, rm) nc ns pc lv (.int w :: .int x :: st) h Q :=
  fun p e s m args below meth c H locs ls hF hR hL hV => lv_iadd hF.1 hF.2.1 hd (k p e s m args below meth c H locs ls hF hR hL hV)
theorem j_isub {x w : Int32} (hd : decode cc pc = .ok (.isub, 1)) (k : J l G (y, cc, n, r, rm) nc ns (pc + 1) lv (.int (x - w) :: st) h Q) : J l G (y, cc, n, r, rm) nc ns pc lv (.int w :: .int x :: st) h Q :=
  fun p e s m args below meth c H locs ls hF hR hL hV => lv_isub hF.1 hF.2.1 hd (k p e s m args below meth c H locs ls hF hR hL hV)
theorem j_imul {x w : Int32} (hd : decode cc pc = .ok (.imul, 1)) (k : J l G (y, cc, n, r, rm) nc ns (pc + 1) lv (.int (x * w) :: st) h Q) : J l G (y, cc, n, r, rm) nc ns pc lv (.int w :: .int x :: st) h Q :=
  fun p e s m args below meth c H locs ls hF hR hL hV => lv_imul hF.1 hF.2.1 hd (k p e s m args below meth c H locs ls hF hR hL hV)
theorem j_iand {x w : Int32} (hd : decode cc pc = .ok (.iand, 1)) (k : J l G (y, cc, n, r, rm) nc ns (pc + 1) lv (.int (x &&& w) :: st) h Q) : J l G (y, cc, n, r, rm) nc ns pc lv (.int w :: .int x :: st) h Q :=
  fun p e s m args below meth c H locs ls hF hR hL hV => lv_iand hF.1 hF.2.1 hd (k p e s m args below meth c H locs ls hF hR hL hV)
theorem j_ladd {x w : Int64} (hd : decode cc pc = .ok (.ladd, 1)) (k : J l G (y, cc, n, r, rm) nc ns (pc + 1) lv (.long (x + w) :: st) h Q) : J l G (y, cc, n, r, rm) nc ns pc lv (.long w :: .long x :: st) h Q :=
  fun p e s m args below meth c H locs ls hF hR hL hV => lv_ladd hF.1 hF.2.1 hd (k p e s m args below meth c H locs ls hF hR hL hV)
theorem j_lsub {x w : Int64} (hd : decode cc pc = .ok (.lsub, 1)) (k : J l G (y, cc, n, r, rm) nc ns (pc + 1) lv (.long (x - w) :: st) h Q) : J l G (y, cc, n, r, rm) nc ns pc lv (.long w :: .long x :: st) h Q :=
  fun p e s m args below meth c H locs ls hF hR hL hV => lv_lsub hF.1 hF.2.1 hd (k p e s m args below meth c H locs ls hF hR hL hV)
theorem j_lmul {x w : Int64} (hd : decode cc pc = .ok (.lmul, 1)) (k : J l G (y, cc, n, r, rm) nc ns (pc + 1) lv (.long (x * w) :: st) h Q) : J l G (y, cc, n, r, rm) nc ns pc lv (.long w :: .long x :: st) h Q :=
  fun p e s m args below meth c H locs ls hF hR hL hV => lv_lmul hF.1 hF.2.1 hd (k p e s m args below meth c H locs ls hF hR hL hV)
theorem j_land {x w : Int64} (hd : decode cc pc = .ok (.land, 1)) (k : J l G (y, cc, n, r, rm) nc ns (pc + 1) lv (.long (x &&& w) :: st) h Q) : J l G (y, cc, n, r, rm) nc ns pc lv (.long w :: .long x :: st) h Q :=
  fun p e s m args below meth c H locs ls hF hR hL hV => lv_land hF.1 hF.2.1 hd (k p e s m args below meth c H locs ls hF hR hL hV)
theorem j_lor {x w : Int64} (hd : decode cc pc = .ok (.lor, 1)) (k : J l G (y, cc, n, r, rm) nc ns (pc + 1) lv (.long (x ||| w) :: st) h Q) : J l G (y, cc, n, r, rm) nc ns pc lv (.long w :: .long x :: st) h Q :=
  fun p e s m args below meth c H locs ls hF hR hL hV => lv_lor hF.1 hF.2.1 hd (k p e s m args below meth c H locs ls hF hR hL hV)
theorem j_idiv {x w : Int32} (hd : decode cc pc = .ok (.idiv, 1)) (hne : ¬ w = 0) (k : J l G (y, cc, n, r, rm) nc ns (pc + 1) lv (.int (x / w) :: st) h Q) : J l G (y, cc, n, r, rm) nc ns pc lv (.int w :: .int x :: st) h Q :=
  fun p e s m args below meth c H locs ls hF hR hL hV => lv_idiv hF.1 hF.2.1 hd hne (k p e s m args below meth c H locs ls hF hR hL hV)
theorem j_irem {x w : Int32} (hd : decode cc pc = .ok (.irem, 1)) (hne : ¬ w = 0) (k : J l G (y, cc, n, r, rm) nc ns (pc + 1) lv (.int (x - x / w * w) :: st) h Q) : J l G (y, cc, n, r, rm) nc ns pc lv (.int w :: .int x :: st) h Q :=
  fun p e s m args below meth c H locs ls hF hR hL hV => lv_irem hF.1 hF.2.1 hd hne (k p e s m args below meth c H locs ls hF hR hL hV)
theorem j_ldiv {x w : Int64} (hd : decode cc pc = .ok (.ldiv, 1)) (hne : ¬ w = 0) (k : J l G (y, cc, n, r, rm) nc ns (pc + 1) lv (.long (x / w) :: st) h Q) : J l G (y, cc, n, r, rm) nc ns pc lv (.long w :: .long x :: st) h Q :=
  fun p e s m args below meth c H locs ls hF hR hL hV => lv_ldiv hF.1 hF.2.1 hd hne (k p e s m args below meth c H locs ls hF hR hL hV)
theorem j_lrem {x w : Int64} (hd : decode cc pc = .ok (.lrem, 1)) (hne : ¬ w = 0) (k : J l G (y, cc, n, r, rm) nc ns (pc + 1) lv (.long (x - x / w * w) :: st) h Q) : J l G (y, cc, n, r, rm) nc ns pc lv (.long w :: .long x :: st) h Q :=
  fun p e s m args below meth c H locs ls hF hR hL hV => lv_lrem hF.1 hF.2.1 hd hne (k p e s m args below meth c H locs ls hF hR hL hV)
theorem j_ineg {x : Int32} (hd : decode cc pc = .ok (.ineg, 1)) (k : J l G (y, cc, n, r, rm) nc ns (pc + 1) lv (.int (-x) :: st) h Q) : J l G (y, cc, n, r, rm) nc ns pc lv (.int x :: st) h Q :=
  fun p e s m args below meth c H locs ls hF hR hL hV => lv_ineg hF.1 hF.2.1 hd (k p e s m args below meth c H locs ls hF hR hL hV)
theorem j_lneg {x : Int64} (hd : decode cc pc = .ok (.lneg, 1)) (k : J l G (y, cc, n, r, rm) nc ns (pc + 1) lv (.long (-x) :: st) h Q) : J l G (y, cc, n, r, rm) nc ns pc lv (.long x :: st) h Q :=
  fun p e s m args below meth c H locs ls hF hR hL hV => lv_lneg hF.1 hF.2.1 hd (k p e s m args below meth c H locs ls hF hR hL hV)
theorem j_i2l {x : Int32} (hd : decode cc pc = .ok (.i2l, 1)) (k : J l G (y, cc, n, r, rm) nc ns (pc + 1) lv (.long x.toInt64 :: st) h Q) : J l G (y, cc, n, r, rm) nc ns pc lv (.int x :: st) h Q :=
  fun p e s m args below meth c H locs ls hF hR hL hV => lv_i2l hF.1 hF.2.1 hd rfl (k p e s m args below meth c H locs ls hF hR hL hV)
theorem j_l2i {x : Int64} (hd : decode cc pc = .ok (.l2i, 1)) (k : J l G (y, cc, n, r, rm) nc ns (pc + 1) lv (.int x.toInt32 :: st) h Q) : J l G (y, cc, n, r, rm) nc ns pc lv (.long x :: st) h Q :=
  fun p e s m args below meth c H locs ls hF hR hL hV => lv_l2i hF.1 hF.2.1 hd rfl (k p e s m args below meth c H locs ls hF hR hL hV)
theorem j_i2c {x : Int32} (hd : decode cc pc = .ok (.i2c, 1)) (k : J l G (y, cc, n, r, rm) nc ns (pc + 1) lv (.int (x.toUInt32 % 65536).toInt32 :: st) h Q) : J l G (y, cc, n, r, rm) nc ns pc lv (.int x :: st) h Q :=
  fun p e s m args below meth c H locs ls hF hR hL hV => lv_i2c hF.1 hF.2.1 hd rfl (k p e s m args below meth c H locs ls hF hR hL hV)
theorem j_lshl {x : Int64} {w : Int32} (hd : decode cc pc = .ok (.lshl, 1)) (k : J l G (y, cc, n, r, rm) nc ns (pc + 1) lv (.long (x <<< (w.toInt64 &&& 63)) :: st) h Q) : J l G (y, cc, n, r, rm) nc ns pc lv (.int w :: .long x :: st) h Q :=
  fun p e s m args below meth c H locs ls hF hR hL hV => lv_lshl hF.1 hF.2.1 hd rfl (k p e s m args below meth c H locs ls hF hR hL hV)
theorem j_lshr {x : Int64} {w : Int32} (hd : decode cc pc = .ok (.lshr, 1)) (k : J l G (y, cc, n, r, rm) nc ns (pc + 1) lv (.long (x >>> (w.toInt64 &&& 63)) :: st) h Q) : J l G (y, cc, n, r, rm) nc ns pc lv (.int w :: .long x :: st) h Q :=
  fun p e s m args below meth c H locs ls hF hR hL hV => lv_lshr hF.1 hF.2.1 hd rfl (k p e s m args below meth c H locs ls hF hR hL hV)
theorem j_ishr {x w : Int32} (hd : decode cc pc = .ok (.ishr, 1)) (k : J l G (y, cc, n, r, rm) nc ns (pc + 1) lv (.int (x >>> (w &&& 31)) :: st) h Q) : J l G (y, cc, n, r, rm) nc ns pc lv (.int w :: .int x :: st) h Q :=
  fun p e s m args below meth c H locs ls hF hR hL hV => lv_ishr hF.1 hF.2.1 hd (k p e s m args below meth c H locs ls hF hR hL hV)
theorem j_lcmp {x w : Int64} (hd : decode cc pc = .ok (.lcmp, 1)) (k : J l G (y, cc, n, r, rm) nc ns (pc + 1) lv (.int (lg_cmp x w) :: st) h Q) : J l G (y, cc, n, r, rm) nc ns pc lv (.long w :: .long x :: st) h Q :=
  fun p e s m args below meth c H locs ls hF hR hL hV => W.lcmp hF.1 hF.2.1 hd (k p e s m args below meth c H locs ls hF hR hL hV)
theorem j_dup {v : Value} (hd : decode cc pc = .ok (.dup, 1)) (h1 : v.category = 1) (k : J l G (y, cc, n, r, rm) nc ns (pc + 1) lv (v :: v :: st) h Q) : J l G (y, cc, n, r, rm) nc ns pc lv (v :: st) h Q :=
  fun p e s m args below meth c H locs ls hF hR hL hV => lv_dup hF.1 hF.2.1 hd ((jv_cat G _).trans h1) (k p e s m args below meth c H locs ls hF hR hL hV)
theorem j_pop {v : Value} (hd : decode cc pc = .ok (.pop, 1)) (h1 : v.category = 1) (k : J l G (y, cc, n, r, rm) nc ns (pc + 1) lv (st) h Q) : J l G (y, cc, n, r, rm) nc ns pc lv (v :: st) h Q :=
  fun p e s m args below meth c H locs ls hF hR hL hV => lv_pop hF.1 hF.2.1 hd ((jv_cat G _).trans h1) (k p e s m args below meth c H locs ls hF hR hL hV)
theorem j_dup_x1 {v w : Value} (hd : decode cc pc = .ok (.dup_x1, 1)) (h1 : v.category = 1) (h2 : w.category = 1) (k : J l G (y, cc, n, r, rm) nc ns (pc + 1) lv (v :: w :: v :: st) h Q) : J l G (y, cc, n, r, rm) nc ns pc lv (v :: w :: st) h Q :=
  fun p e s m args below meth c H locs ls hF hR hL hV => lv_dup_x1 hF.1 hF.2.1 hd ((jv_cat G _).trans h1) ((jv_cat G _).trans h2) (k p e s m args below meth c H locs ls hF hR hL hV)
theorem j_dup_x2 {v w u : Value} (hd : decode cc pc = .ok (.dup_x2, 1)) (h1 : v.category = 1) (h2 : w.category = 1) (h3 : u.category = 1) (k : J l G (y, cc, n, r, rm) nc ns (pc + 1) lv (v :: w :: u :: v :: st) h Q) : J l G (y, cc, n, r, rm) nc ns pc lv (v :: w :: u :: st) h Q :=
  fun p e s m args below meth c H locs ls hF hR hL hV => lv_dup_x2 hF.1 hF.2.1 hd ((jv_cat G _).trans h1) ((jv_cat G _).trans h2) ((jv_cat G _).trans h3) (k p e s m args below meth c H locs ls hF hR hL hV)
theorem j_dup2 {v w : Value} (hd : decode cc pc = .ok (.dup2, 1)) (h1 : v.category = 1) (h2 : w.category = 1) (k : J l G (y, cc, n, r, rm) nc ns (pc + 1) lv (v :: w :: v :: w :: st) h Q) : J l G (y, cc, n, r, rm) nc ns pc lv (v :: w :: st) h Q :=
  fun p e s m args below meth c H locs ls hF hR hL hV => lv_dup2_11 hF.1 hF.2.1 hd ((jv_cat G _).trans h1) ((jv_cat G _).trans h2) (k p e s m args below meth c H locs ls hF hR hL hV)
theorem j_dup2L {v : Value} (hd : decode cc pc = .ok (.dup2, 1)) (h1 : v.category = 2) (k : J l G (y, cc, n, r, rm) nc ns (pc + 1) lv (v :: v :: st) h Q) : J l G (y, cc, n, r, rm) nc ns pc lv (v :: st) h Q :=
  fun p e s m args below meth c H locs ls hF hR hL hV => lv_dup2_2 hF.1 hF.2.1 hd ((jv_cat G _).trans h1) (k p e s m args below meth c H locs ls hF hR hL hV)
theorem j_dup2_x1L {v w : Value} (hd : decode cc pc = .ok (.dup2_x1, 1)) (h1 : v.category = 2) (h2 : w.category = 1) (k : J l G (y, cc, n, r, rm) nc ns (pc + 1) lv (v :: w :: v :: st) h Q) : J l G (y, cc, n, r, rm) nc ns pc lv (v :: w :: st) h Q :=
  fun p e s m args below meth c H locs ls hF hR hL hV => lv_dup2_x1_2 hF.1 hF.2.1 hd ((jv_cat G _).trans h1) ((jv_cat G _).trans h2) (k p e s m args below meth c H locs ls hF hR hL hV)
theorem j_dup2_x2L {v w u : Value} (hd : decode cc pc = .ok (.dup2_x2, 1)) (h1 : v.category = 2) (h2 : w.category = 1) (h3 : u.category = 1) (k : J l G (y, cc, n, r, rm) nc ns (pc + 1) lv (v :: w :: u :: v :: st) h Q) : J l G (y, cc, n, r, rm) nc ns pc lv (v :: w :: u :: st) h Q :=
  fun p e s m args below meth c H locs ls hF hR hL hV => lv_dup2_x2_2 hF.1 hF.2.1 hd ((jv_cat G _).trans h1) ((jv_cat G _).trans h2) ((jv_cat G _).trans h3) (k p e s m args below meth c H locs ls hF hR hL hV)
theorem j_if_eq {x : Int32} {off : Int} {tgt : Nat} (hd : decode cc pc = .ok (.ifCond .eq off, 3)) (ht : (pc : Int) + off = (tgt : Int)) (kt : x = 0 → J l G (y, cc, n, r, rm) nc ns tgt lv (st) h Q) (kf : ¬ (x = 0) → J l G (y, cc, n, r, rm) nc ns (pc + 3) lv (st) h Q) : J l G (y, cc, n, r, rm) nc ns pc lv (.int x :: st) h Q :=
  fun p e s m args below meth c H locs ls hF hR hL hV => lv_if_eq hF.1 hF.2.1 hd ht (fun q => kt q p e s m args below meth c H locs ls hF hR hL hV) (fun q => kf q p e s m args below meth c H locs ls hF hR hL hV)
theorem j_icmp_eq {x w : Int32} {off : Int} {tgt : Nat} (hd : decode cc pc = .ok (.if_icmp .eq off, 3)) (ht : (pc : Int) + off = (tgt : Int)) (kt : x = w → J l G (y, cc, n, r, rm) nc ns tgt lv (st) h Q) (kf : ¬ (x = w) → J l G (y, cc, n, r, rm) nc ns (pc + 3) lv (st) h Q) : J l G (y, cc, n, r, rm) nc ns pc lv (.int w :: .int x :: st) h Q :=
  fun p e s m args below meth c H locs ls hF hR hL hV => lv_icmp_eq hF.1 hF.2.1 hd ht (fun q => kt q p e s m args below meth c H locs ls hF hR hL hV) (fun q => kf q p e s m args below meth c H locs ls hF hR hL hV)
theorem j_if_ne {x : Int32} {off : Int} {tgt : Nat} (hd : decode cc pc = .ok (.ifCond .ne off, 3)) (ht : (pc : Int) + off = (tgt : Int)) (kt : ¬ x = 0 → J l G (y, cc, n, r, rm) nc ns tgt lv (st) h Q) (kf : x = 0 → J l G (y, cc, n, r, rm) nc ns (pc + 3) lv (st) h Q) : J l G (y, cc, n, r, rm) nc ns pc lv (.int x :: st) h Q :=
  fun p e s m args below meth c H locs ls hF hR hL hV => lv_if_ne hF.1 hF.2.1 hd ht (fun q => kt q p e s m args below meth c H locs ls hF hR hL hV) (fun q => kf q p e s m args below meth c H locs ls hF hR hL hV)
theorem j_icmp_ne {x w : Int32} {off : Int} {tgt : Nat} (hd : decode cc pc = .ok (.if_icmp .ne off, 3)) (ht : (pc : Int) + off = (tgt : Int)) (kt : ¬ x = w → J l G (y, cc, n, r, rm) nc ns tgt lv (st) h Q) (kf : x = w → J l G (y, cc, n, r, rm) nc ns (pc + 3) lv (st) h Q) : J l G (y, cc, n, r, rm) nc ns pc lv (.int w :: .int x :: st) h Q :=
  fun p e s m args below meth c H locs ls hF hR hL hV => lv_icmp_ne hF.1 hF.2.1 hd ht (fun q => kt q p e s m args below meth c H locs ls hF hR hL hV) (fun q => kf q p e s m args below meth c H locs ls hF hR hL hV)
theorem j_if_lt {x : Int32} {off : Int} {tgt : Nat} (hd : decode cc pc = .ok (.ifCond .lt off, 3)) (ht : (pc : Int) + off = (tgt : Int)) (kt : x < 0 → J l G (y, cc, n, r, rm) nc ns tgt lv (st) h Q) (kf : ¬ (x < 0) → J l G (y, cc, n, r, rm) nc ns (pc + 3) lv (st) h Q) : J l G (y, cc, n, r, rm) nc ns pc lv (.int x :: st) h Q :=
  fun p e s m args below meth c H locs ls hF hR hL hV => lv_if_lt hF.1 hF.2.1 hd ht (fun q => kt q p e s m args below meth c H locs ls hF hR hL hV) (fun q => kf q p e s m args below meth c H locs ls hF hR hL hV)
theorem j_icmp_lt {x w : Int32} {off : Int} {tgt : Nat} (hd : decode cc pc = .ok (.if_icmp .lt off, 3)) (ht : (pc : Int) + off = (tgt : Int)) (kt : x < w → J l G (y, cc, n, r, rm) nc ns tgt lv (st) h Q) (kf : ¬ (x < w) → J l G (y, cc, n, r, rm) nc ns (pc + 3) lv (st) h Q) : J l G (y, cc, n, r, rm) nc ns pc lv (.int w :: .int x :: st) h Q :=
  fun p e s m args below meth c H locs ls hF hR hL hV => lv_icmp_lt hF.1 hF.2.1 hd ht (fun q => kt q p e s m args below meth c H locs ls hF hR hL hV) (fun q => kf q p e s m args below meth c H locs ls hF hR hL hV)
theorem j_if_ge {x : Int32} {off : Int} {tgt : Nat} (hd : decode cc pc = .ok (.ifCond .ge off, 3)) (ht : (pc : Int) + off = (tgt : Int)) (kt : 0 ≤ x → J l G (y, cc, n, r, rm) nc ns tgt lv (st) h Q) (kf : ¬ (0 ≤ x) → J l G (y, cc, n, r, rm) nc ns (pc + 3) lv (st) h Q) : J l G (y, cc, n, r, rm) nc ns pc lv (.int x :: st) h Q :=
  fun p e s m args below meth c H locs ls hF hR hL hV => lv_if_ge hF.1 hF.2.1 hd ht (fun q => kt q p e s m args below meth c H locs ls hF hR hL hV) (fun q => kf q p e s m args below meth c H locs ls hF hR hL hV)
theorem j_icmp_ge {x w : Int32} {off : Int} {tgt : Nat} (hd : decode cc pc = .ok (.if_icmp .ge off, 3)) (ht : (pc : Int) + off = (tgt : Int)) (kt : w ≤ x → J l G (y, cc, n, r, rm) nc ns tgt lv (st) h Q) (kf : ¬ (w ≤ x) → J l G (y, cc, n, r, rm) nc ns (pc + 3) lv (st) h Q) : J l G (y, cc, n, r, rm) nc ns pc lv (.int w :: .int x :: st) h Q :=
  fun p e s m args below meth c H locs ls hF hR hL hV => lv_icmp_ge hF.1 hF.2.1 hd ht (fun q => kt q p e s m args below meth c H locs ls hF hR hL hV) (fun q => kf q p e s m args below meth c H locs ls hF hR hL hV)
theorem j_if_gt {x : Int32} {off : Int} {tgt : Nat} (hd : decode cc pc = .ok (.ifCond .gt off, 3)) (ht : (pc : Int) + off = (tgt : Int)) (kt : 0 < x → J l G (y, cc, n, r, rm) nc ns tgt lv (st) h Q) (kf : ¬ (0 < x) → J l G (y, cc, n, r, rm) nc ns (pc + 3) lv (st) h Q) : J l G (y, cc, n, r, rm) nc ns pc lv (.int x :: st) h Q :=
  fun p e s m args below meth c H locs ls hF hR hL hV => lv_if_gt hF.1 hF.2.1 hd ht (fun q => kt q p e s m args below meth c H locs ls hF hR hL hV) (fun q => kf q p e s m args below meth c H locs ls hF hR hL hV)
theorem j_icmp_gt {x w : Int32} {off : Int} {tgt : Nat} (hd : decode cc pc = .ok (.if_icmp .gt off, 3)) (ht : (pc : Int) + off = (tgt : Int)) (kt : w < x → J l G (y, cc, n, r, rm) nc ns tgt lv (st) h Q) (kf : ¬ (w < x) → J l G (y, cc, n, r, rm) nc ns (pc + 3) lv (st) h Q) : J l G (y, cc, n, r, rm) nc ns pc lv (.int w :: .int x :: st) h Q :=
  fun p e s m args below meth c H locs ls hF hR hL hV => lv_icmp_gt hF.1 hF.2.1 hd ht (fun q => kt q p e s m args below meth c H locs ls hF hR hL hV) (fun q => kf q p e s m args below meth c H locs ls hF hR hL hV)
theorem j_if_le {x : Int32} {off : Int} {tgt : Nat} (hd : decode cc pc = .ok (.ifCond .le off, 3)) (ht : (pc : Int) + off = (tgt : Int)) (kt : x ≤ 0 → J l G (y, cc, n, r, rm) nc ns tgt lv (st) h Q) (kf : ¬ (x ≤ 0) → J l G (y, cc, n, r, rm) nc ns (pc + 3) lv (st) h Q) : J l G (y, cc, n, r, rm) nc ns pc lv (.int x :: st) h Q :=
  fun p e s m args below meth c H locs ls hF hR hL hV => lv_if_le hF.1 hF.2.1 hd ht (fun q => kt q p e s m args below meth c H locs ls hF hR hL hV) (fun q => kf q p e s m args below meth c H locs ls hF hR hL hV)
theorem j_icmp_le {x w : Int32} {off : Int} {tgt : Nat} (hd : decode cc pc = .ok (.if_icmp .le off, 3)) (ht : (pc : Int) + off = (tgt : Int)) (kt : x ≤ w → J l G (y, cc, n, r, rm) nc ns tgt lv (st) h Q) (kf : ¬ (x ≤ w) → J l G (y, cc, n, r, rm) nc ns (pc + 3) lv (st) h Q) : J l G (y, cc, n, r, rm) nc ns pc lv (.int w :: .int x :: st) h Q :=
  fun p e s m args below meth c H locs ls hF hR hL hV => lv_icmp_le hF.1 hF.2.1 hd ht (fun q => kt q p e s m args below meth c H locs ls hF hR hL hV) (fun q => kf q p e s m args below meth c H locs ls hF hR hL hV)
theorem j_goto {off : Int} {tgt : Nat} (hd : decode cc pc = .ok (.goto off, 3)) (ht : (pc : Int) + off = (tgt : Int)) (k : J l G (y, cc, n, r, rm) nc ns tgt lv (st) h Q) : J l G (y, cc, n, r, rm) nc ns pc lv (st) h Q :=
  fun p e s m args below meth c H locs ls hF hR hL hV => lv_goto hF.1 hF.2.1 hd ht (k p e s m args below meth c H locs ls hF hR hL hV)
theorem j_ifnull {x : Nat} {off : Int} (hd : decode cc pc = .ok (.ifnull off, 3)) (k : J l G (y, cc, n, r, rm) nc ns (pc + 3) lv (st) h Q) : J l G (y, cc, n, r, rm) nc ns pc lv (.ref x :: st) h Q :=
  fun p e s m args below meth c H locs ls hF hR hL hV => lv_ifnull hF.1 hF.2.1 hd (k p e s m args below meth c H locs ls hF hR hL hV)
theorem j_ifnullN {off : Int} {tgt : Nat} (hd : decode cc pc = .ok (.ifnull off, 3)) (ht : (pc : Int) + off = (tgt : Int)) (k : J l G (y, cc, n, r, rm) nc ns tgt lv (st) h Q) : J l G (y, cc, n, r, rm) nc ns pc lv (.null :: st) h Q :=
  fun p e s m args below meth c H locs ls hF hR hL hV => lv_ifnullN hF.1 hF.2.1 hd ht (k p e s m args below meth c H locs ls hF hR hL hV)
theorem j_ifnonnullN {off : Int} (hd : decode cc pc = .ok (.ifnonnull off, 3)) (k : J l G (y, cc, n, r, rm) nc ns (pc + 3) lv (st) h Q) : J l G (y, cc, n, r, rm) nc ns pc lv (.null :: st) h Q :=
  fun p e s m args below meth c H locs ls hF hR hL hV => lv_ifnonnullN hF.1 hF.2.1 hd (k p e s m args below meth c H locs ls hF hR hL hV)
theorem j_ifnonnull {x : Nat} {off : Int} {tgt : Nat} (hd : decode cc pc = .ok (.ifnonnull off, 3)) (ht : (pc : Int) + off = (tgt : Int)) (k : J l G (y, cc, n, r, rm) nc ns tgt lv (st) h Q) : J l G (y, cc, n, r, rm) nc ns pc lv (.ref x :: st) h Q :=
  fun p e s m args below meth c H locs ls hF hR hL hV => lv_ifnonnull hF.1 hF.2.1 hd ht (k p e s m args below meth c H locs ls hF hR hL hV)
theorem j_tableOut {dflt lo hi : Int} {offs : Array Int} {len : Nat} {x : Int32} {tgt : Nat} (hd : decode cc pc = .ok (.tableswitch dflt lo hi offs, len)) (hx : x.toInt < lo ∨ hi < x.toInt) (ht : (pc : Int) + dflt = (tgt : Int)) (k : J l G (y, cc, n, r, rm) nc ns tgt lv (st) h Q) : J l G (y, cc, n, r, rm) nc ns pc lv (.int x :: st) h Q :=
  fun p e s m args below meth c H locs ls hF hR hL hV => lv_tableOut hF.1 hF.2.1 hd hx ht (k p e s m args below meth c H locs ls hF hR hL hV)
theorem j_tableIn {dflt lo hi : Int} {offs : Array Int} {len : Nat} {x : Int32} {off : Int} {tgt : Nat} (hd : decode cc pc = .ok (.tableswitch dflt lo hi offs, len)) (h1 : ¬ x.toInt < lo) (h2 : ¬ hi < x.toInt) (ho : offs[(x.toInt - lo).toNat]? = some off) (ht : (pc : Int) + off = (tgt : Int)) (k : J l G (y, cc, n, r, rm) nc ns tgt lv (st) h Q) : J l G (y, cc, n, r, rm) nc ns pc lv (.int x :: st) h Q :=
  fun p e s m args below meth c H locs ls hF hR hL hV => lv_tableIn hF.1 hF.2.1 hd h1 h2 ho ht (k p e s m args below meth c H locs ls hF hR hL hV)
theorem j_ldc {idx : Nat} {v : Int32} (hd : decode cc pc = .ok (.ldc idx, 2)) (hw : Cond.constant y.cls idx v ∈ jWS) (k : J l G (y, cc, n, r, rm) nc ns (pc + 2) lv (.int v :: st) h Q) : J l G (y, cc, n, r, rm) nc ns pc lv (st) h Q :=
  fun p e s m args below meth c H locs ls hF hR hL hV => lv_ldc hF.1 hF.2.1 hF.2.2.2.2.2.2.1 (hF.2.2.2.2.2.2.2.1 _ hw) hd (k p e s m args below meth c H locs ls hF hR hL hV)
theorem j_ldc2 {idx : Nat} {v : Int64} (hd : decode cc pc = .ok (.ldc2_w idx, 3)) (hw : Cond.constantLong y.cls idx v ∈ jWS) (k : J l G (y, cc, n, r, rm) nc ns (pc + 3) lv (.long v :: st) h Q) : J l G (y, cc, n, r, rm) nc ns pc lv (st) h Q :=
  fun p e s m args below meth c H locs ls hF hR hL hV => lv_ldc2 hF.1 hF.2.1 hF.2.2.2.2.2.2.1 (hF.2.2.2.2.2.2.2.1 _ hw) hd (k p e s m args below meth c H locs ls hF hR hL hV)
theorem j_sub {lv' : List (Nat × Value)} (hs : lv'.map (fun q => jlk q.1 lv) = lv'.map (fun q => some q.2)) (k : J l G (y, cc, n, r, rm) nc ns pc lv' st h Q) : J l G (y, cc, n, r, rm) nc ns pc lv st h Q := by
  intro p e s m args below meth c H locs ls hF hR hL hV
  refine k p e s m args below meth c H locs ls hF hR hL ⟨hV.1, hV.2.1, fun q hq => ?_⟩
  obtain ⟨x, hx, rfl⟩ := List.mem_map.mp hq
  obtain ⟨i, hi⟩ := List.getElem?_of_mem hx
  have h1 : (lv'.map (fun q => jlk q.1 lv))[i]? = (lv'.map (fun q => some q.2))[i]? := by rw [hs]
  rw [List.getElem?_map, List.getElem?_map, hi] at h1
  exact j_lv hV (Option.some.inj h1)
theorem j_widen {k1 n1 : Nat} (h1 : nc ≤ k1) (h2 : ns ≤ n1) (k : J l G (y, cc, n, r, rm) k1 n1 pc lv st h Q) : J l G (y, cc, n, r, rm) nc ns pc lv st h Q :=
  fun p e s m args below meth c H locs ls hF hR hL hV => W.widen h1 h2 (k p e s m args below meth c H locs ls hF hR hL hV)
theorem j_mono {Q1 : Option Value → jH → Prop} (hQ : ∀ v h', Q1 v h' → Q v h') (k : J l G (y, cc, n, r, rm) nc ns pc lv st h Q1) : J l G (y, cc, n, r, rm) nc ns pc lv st h Q := by
  intro p e s m args below meth c H locs ls hF hR hL hV T hT X
  obtain ⟨t, a1, o, b1, b2, ⟨v, h', c1, c2, c3⟩, b4⟩ := k p e s m args below meth c H locs ls hF hR hL hV T hT X
  exact ⟨t, a1, o, b1, b2, ⟨v, h', c1, hQ v h' c2, c3⟩, b4⟩
theorem j_iret {v : Int32} {ty : FieldType} (hd : decode cc pc = .ok (.ireturn, 1)) (hr : r = some ty) (hn : narrow ty (.int v) = .int v) (h1 : nc ≤ rm.cells) (h2 : ns ≤ rm.slots) (hq : Q (some (.int v)) h) : J l G (y, cc, n, r, rm) nc ns pc lv [.int v] h Q := by
  intro p e s m args below meth c H locs ls hF hR hL hV
  refine W.widen h1 h2 ?_
  exact W.zret hF.1 hF.2.1 (hF.2.2.2.1.trans hr) hn (fun t ht _ => ⟨some (.int v), h, rfl, hq, by rw [ht]; exact hR⟩) hL hd hF.2.2.2.2.1
theorem j_lret {v : Int64} (hd : decode cc pc = .ok (.lreturn, 1)) (hr : r = some .long) (h1 : nc ≤ rm.cells) (h2 : ns ≤ rm.slots) (hq : Q (some (.long v)) h) : J l G (y, cc, n, r, rm) nc ns pc lv [.long v] h Q := by
  intro p e s m args below meth c H locs ls hF hR hL hV
  refine W.widen h1 h2 ?_
  exact W.lret hF.1 hF.2.1 (hF.2.2.2.1.trans hr) (fun t ht _ => ⟨some (.long v), h, rfl, hq, by rw [ht]; exact hR⟩) hL hd hF.2.2.2.2.1
theorem j_vret (hd : decode cc pc = .ok (.return_, 1)) (hr : r = none) (h1 : nc ≤ rm.cells) (h2 : ns ≤ rm.slots) (hq : Q none h) : J l G (y, cc, n, r, rm) nc ns pc lv [] h Q := by
  intro p e s m args below meth c H locs ls hF hR hL hV
  refine W.widen h1 h2 ?_
  exact W.vret hF.1 hF.2.1 (hF.2.2.2.1.trans hr) (fun t ht _ => ⟨none, h, rfl, hq, by rw [ht]; exact hR⟩) hL hd hF.2.2.2.2.1
theorem j_aret {v : Value} {C : String} (hd : decode cc pc = .ok (.areturn, 1)) (hr : r = some (.object C)) (hv : v = .null ∨ ∃ a, v = .ref a) (h1 : nc ≤ rm.cells) (h2 : ns ≤ rm.slots) (hq : Q (some v) h) : J l G (y, cc, n, r, rm) nc ns pc lv [v] h Q := by
  intro p e s m args below meth c H locs ls hF hR hL hV
  refine W.widen h1 h2 ?_
  exact W.aret hF.1 hF.2.1 (hF.2.2.2.1.trans hr) (Or.inl ⟨_, rfl⟩) (by rcases hv with rfl | ⟨a, rfl⟩; exact Or.inl rfl; exact Or.inr ⟨_, rfl⟩) (fun t ht _ => ⟨some v, h, rfl, hq, by rw [ht]; exact hR⟩) hL hd hF.2.2.2.2.1
end JR
