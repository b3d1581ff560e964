/-! RULES OF xV, an instruction each -/
section XR
variable {G : xG} {Y : xY} {Tb : xT} {o : xO} {pc pc' tgt : Nat} {xl : List (Option Value)} {st : List Value} {T : xT} {R : xR} {L : xL} {I : xI} {off : Int}
theorem xV_iconst {n : Int} {v : Int32} (hd : decode Y.2.1 pc = .ok (.iconst n, 1) ∧ pc + 1 = pc') (hv : Int32.ofInt n = v) (k : xV G Y Tb o pc' xl (.int v :: st) T R L I) : xV G Y Tb o pc xl (st) T R L I := by
  obtain ⟨hd, rfl⟩ := hd
  exact fun p l e Rm s m args below meth c H locs Q ls hF hRm hl hn hR hS hE => lv_iconst hF.1 hF.2.1 hd hv (k p l e Rm s m args below meth c H locs Q ls hF hRm hl hn hR hS hE)
theorem xV_bipush {n : Int} {v : Int32} (hd : decode Y.2.1 pc = .ok (.bipush n, 2) ∧ pc + 2 = pc') (hv : (Int8.ofInt n).toInt32 = v) (k : xV G Y Tb o pc' xl (.int v :: st) T R L I) : xV G Y Tb o pc xl (st) T R L I := by
  obtain ⟨hd, rfl⟩ := hd
  exact fun p l e Rm s m args below meth c H locs Q ls hF hRm hl hn hR hS hE => lv_bipush hF.1 hF.2.1 hd hv (k p l e Rm s m args below meth c H locs Q ls hF hRm hl hn hR hS hE)
theorem xV_sipush {n : Int} {v : Int32} (hd : decode Y.2.1 pc = .ok (.sipush n, 3) ∧ pc + 3 = pc') (hv : (Int16.ofInt n).toInt32 = v) (k : xV G Y Tb o pc' xl (.int v :: st) T R L I) : xV G Y Tb o pc xl (st) T R L I := by
  obtain ⟨hd, rfl⟩ := hd
  exact fun p l e Rm s m args below meth c H locs Q ls hF hRm hl hn hR hS hE => lv_sipush hF.1 hF.2.1 hd hv (k p l e Rm s m args below meth c H locs Q ls hF hRm hl hn hR hS hE)
theorem xV_lconst {n : Fin 2} {v : Int64} (hd : decode Y.2.1 pc = .ok (.lconst n, 1) ∧ pc + 1 = pc') (hv : Int64.ofNat (n : Nat) = v) (k : xV G Y Tb o pc' xl (.long v :: st) T R L I) : xV G Y Tb o pc xl (st) T R L I := by
  obtain ⟨hd, rfl⟩ := hd
  exact fun p l e Rm s m args below meth c H locs Q ls hF hRm hl hn hR hS hE => lv_lconst hF.1 hF.2.1 hd hv (k p l e Rm s m args below meth c H locs Q ls hF hRm hl hn hR hS hE)
theorem xV_iload_n {k0 : Fin 4} {x : Int32} (hd : decode Y.2.1 pc = .ok (.iload_n k0, 1) ∧ pc + 1 = pc') (hx : xl[(k0 : Nat)]? = some (some (.int x))) (k : xV G Y Tb o pc' xl (.int x :: st) T R L I) : xV G Y Tb o pc xl (st) T R L I := by
  obtain ⟨hd, rfl⟩ := hd
  exact fun p l e Rm s m args below meth c H locs Q ls hF hRm hl hn hR hS hE => lv_iload_n hF.1 hF.2.1 hd rfl (xl_at hl hx) (k p l e Rm s m args below meth c H locs Q ls hF hRm hl hn hR hS hE)
theorem xV_iload {i : Nat} {x : Int32} (hd : decode Y.2.1 pc = .ok (.iload i, 2) ∧ pc + 2 = pc') (hx : xl[i]? = some (some (.int x))) (k : xV G Y Tb o pc' xl (.int x :: st) T R L I) : xV G Y Tb o pc xl (st) T R L I := by
  obtain ⟨hd, rfl⟩ := hd
  exact fun p l e Rm s m args below meth c H locs Q ls hF hRm hl hn hR hS hE => lv_iload hF.1 hF.2.1 hd (xl_at hl hx) (k p l e Rm s m args below meth c H locs Q ls hF hRm hl hn hR hS hE)
theorem xV_lload_n {k0 : Fin 4} {x : Int64} (hd : decode Y.2.1 pc = .ok (.lload_n k0, 1) ∧ pc + 1 = pc') (hx : xl[(k0 : Nat)]? = some (some (.long x))) (k : xV G Y Tb o pc' xl (.long x :: st) T R L I) : xV G Y Tb o pc xl (st) T R L I := by
  obtain ⟨hd, rfl⟩ := hd
  exact fun p l e Rm s m args below meth c H locs Q ls hF hRm hl hn hR hS hE => lv_lload_n hF.1 hF.2.1 hd rfl (xl_at hl hx) (k p l e Rm s m args below meth c H locs Q ls hF hRm hl hn hR hS hE)
theorem xV_lload {i : Nat} {x : Int64} (hd : decode Y.2.1 pc = .ok (.lload i, 2) ∧ pc + 2 = pc') (hx : xl[i]? = some (some (.long x))) (k : xV G Y Tb o pc' xl (.long x :: st) T R L I) : xV G Y Tb o pc xl (st) T R L I := by
  obtain ⟨hd, rfl⟩ := hd
  exact fun p l e Rm s m args below meth c H locs Q ls hF hRm hl hn hR hS hE => lv_lload hF.1 hF.2.1 hd (xl_at hl hx) (k p l e Rm s m args below meth c H locs Q ls hF hRm hl hn hR hS hE)
theorem xV_aload_n {k0 : Fin 4} {x : Nat} (hd : decode Y.2.1 pc = .ok (.aload_n k0, 1) ∧ pc + 1 = pc') (hx : xl[(k0 : Nat)]? = some (some (.ref x))) (k : xV G Y Tb o pc' xl (.ref x :: st) T R L I) : xV G Y Tb o pc xl (st) T R L I := by
  obtain ⟨hd, rfl⟩ := hd
  exact fun p l e Rm s m args below meth c H locs Q ls hF hRm hl hn hR hS hE => lv_aload_n hF.1 hF.2.1 hd rfl (xl_at hl hx) (k p l e Rm s m args below meth c H locs Q ls hF hRm hl hn hR hS hE)
theorem xV_iadd {x y : Int32} (hd : decode Y.2.1 pc = .ok (.iadd, 1) ∧ pc + 1 = pc')  (k : xV G Y Tb o pc' xl (.int (x + y) :: st) T R L I) : xV G Y Tb o pc xl (.int y :: .int x :: st) T R L I := by
  obtain ⟨hd, rfl⟩ := hd
  exact fun p l e Rm s m args below meth c H locs Q ls hF hRm hl hn hR hS hE => lv_iadd hF.1 hF.2.1 hd (k p l e Rm s m args below meth c H locs Q ls hF hRm hl hn hR hS hE)
theorem xV_isub {x y : Int32} (hd : decode Y.2.1 pc = .ok (.isub, 1) ∧ pc + 1 = pc')  (k : xV G Y Tb o pc' xl (.int (x - y) :: st) T R L I) : xV G Y Tb o pc xl (.int y :: .int x :: st) T R L I := by
  obtain ⟨hd, rfl⟩ := hd
  exact fun p l e Rm s m args below meth c H locs Q ls hF hRm hl hn hR hS hE => lv_isub hF.1 hF.2.1 hd (k p l e Rm s m args below meth c H locs Q ls hF hRm hl hn hR hS hE)
theorem xV_imul {x y : Int32} (hd : decode Y.2.1 pc = .ok (.imul, 1) ∧ pc + 1 = pc')  (k : xV G Y Tb o pc' xl (.int (x * y) :: st) T R L I) : xV G Y Tb o pc xl (.int y :: .int x :: st) T R L I := by
  obtain ⟨hd, rfl⟩ := hd
  exact fun p l e Rm s m args below meth c H locs Q ls hF hRm hl hn hR hS hE => lv_imul hF.1 hF.2.1 hd (k p l e Rm s m args below meth c H locs Q ls hF hRm hl hn hR hS hE)
theorem xV_iand {x y : Int32} (hd : decode Y.2.1 pc = .ok (.iand, 1) ∧ pc + 1 = pc')  (k : xV G Y Tb o pc' xl (.int (x &&& y) :: st) T R L I) : xV G Y Tb o pc xl (.int y :: .int x :: st) T R L I := by
  obtain ⟨hd, rfl⟩ := hd
  exact fun p l e Rm s m args below meth c H locs Q ls hF hRm hl hn hR hS hE => lv_iand hF.1 hF.2.1 hd (k p l e Rm s m args below meth c H locs Q ls hF hRm hl hn hR hS hE)
theorem xV_ior {x y : Int32} (hd : decode Y.2.1 pc = .ok (.ior, 1) ∧ pc + 1 = pc')  (k : xV G Y Tb o pc' xl (.int (x ||| y) :: st) T R L I) : xV G Y Tb o pc xl (.int y :: .int x :: st) T R L I := by
  obtain ⟨hd, rfl⟩ := hd
  exact fun p l e Rm s m args below meth c H locs Q ls hF hRm hl hn hR hS hE => lv_ior hF.1 hF.2.1 hd (k p l e Rm s m args below meth c H locs Q ls hF hRm hl hn hR hS hE)
theorem xV_ixor {x y : Int32} (hd : decode Y.2.1 pc = .ok (.ixor, 1) ∧ pc + 1 = pc')  (k : xV G Y Tb o pc' xl (.int (x ^^^ y) :: st) T R L I) : xV G Y Tb o pc xl (.int y :: .int x :: st) T R L I := by
  obtain ⟨hd, rfl⟩ := hd
  exact fun p l e Rm s m args below meth c H locs Q ls hF hRm hl hn hR hS hE => lv_ixor hF.1 hF.2.1 hd (k p l e Rm s m args below meth c H locs Q ls hF hRm hl hn hR hS hE)
theorem xV_ishl {x y : Int32} (hd : decode Y.2.1 pc = .ok (.ishl, 1) ∧ pc + 1 = pc')  (k : xV G Y Tb o pc' xl (.int (x <<< (y &&& 31)) :: st) T R L I) : xV G Y Tb o pc xl (.int y :: .int x :: st) T R L I := by
  obtain ⟨hd, rfl⟩ := hd
  exact fun p l e Rm s m args below meth c H locs Q ls hF hRm hl hn hR hS hE => lv_ishl hF.1 hF.2.1 hd (k p l e Rm s m args below meth c H locs Q ls hF hRm hl hn hR hS hE)
theorem xV_ishr {x y : Int32} (hd : decode Y.2.1 pc = .ok (.ishr, 1) ∧ pc + 1 = pc')  (k : xV G Y Tb o pc' xl (.int (x >>> (y &&& 31)) :: st) T R L I) : xV G Y Tb o pc xl (.int y :: .int x :: st) T R L I := by
  obtain ⟨hd, rfl⟩ := hd
  exact fun p l e Rm s m args below meth c H locs Q ls hF hRm hl hn hR hS hE => lv_ishr hF.1 hF.2.1 hd (k p l e Rm s m args below meth c H locs Q ls hF hRm hl hn hR hS hE)
theorem xV_idiv {x y : Int32} (hd : decode Y.2.1 pc = .ok (.idiv, 1) ∧ pc + 1 = pc') (h0 : ¬ y = 0) (k : xV G Y Tb o pc' xl (.int (x / y) :: st) T R L I) : xV G Y Tb o pc xl (.int y :: .int x :: st) T R L I := by
  obtain ⟨hd, rfl⟩ := hd
  exact fun p l e Rm s m args below meth c H locs Q ls hF hRm hl hn hR hS hE => lv_idiv hF.1 hF.2.1 hd h0 (k p l e Rm s m args below meth c H locs Q ls hF hRm hl hn hR hS hE)
theorem xV_irem {x y : Int32} (hd : decode Y.2.1 pc = .ok (.irem, 1) ∧ pc + 1 = pc') (h0 : ¬ y = 0) (k : xV G Y Tb o pc' xl (.int (x - x / y * y) :: st) T R L I) : xV G Y Tb o pc xl (.int y :: .int x :: st) T R L I := by
  obtain ⟨hd, rfl⟩ := hd
  exact fun p l e Rm s m args below meth c H locs Q ls hF hRm hl hn hR hS hE => lv_irem hF.1 hF.2.1 hd h0 (k p l e Rm s m args below meth c H locs Q ls hF hRm hl hn hR hS hE)
theorem xV_iushr {x y : Int32} (hd : decode Y.2.1 pc = .ok (.iushr, 1) ∧ pc + 1 = pc')  (k : xV G Y Tb o pc' xl (.int ((x.toUInt32 >>> (y.toUInt32 &&& Int32.toUInt32 31)).toInt32) :: st) T R L I) : xV G Y Tb o pc xl (.int y :: .int x :: st) T R L I := by
  obtain ⟨hd, rfl⟩ := hd
  exact fun p l e Rm s m args below meth c H locs Q ls hF hRm hl hn hR hS hE => lv_iushr hF.1 hF.2.1 hd rfl (k p l e Rm s m args below meth c H locs Q ls hF hRm hl hn hR hS hE)
theorem xV_ladd {x y : Int64} (hd : decode Y.2.1 pc = .ok (.ladd, 1) ∧ pc + 1 = pc')  (k : xV G Y Tb o pc' xl (.long (x + y) :: st) T R L I) : xV G Y Tb o pc xl (.long y :: .long x :: st) T R L I := by
  obtain ⟨hd, rfl⟩ := hd
  exact fun p l e Rm s m args below meth c H locs Q ls hF hRm hl hn hR hS hE => lv_ladd hF.1 hF.2.1 hd (k p l e Rm s m args below meth c H locs Q ls hF hRm hl hn hR hS hE)
theorem xV_lmul {x y : Int64} (hd : decode Y.2.1 pc = .ok (.lmul, 1) ∧ pc + 1 = pc')  (k : xV G Y Tb o pc' xl (.long (x * y) :: st) T R L I) : xV G Y Tb o pc xl (.long y :: .long x :: st) T R L I := by
  obtain ⟨hd, rfl⟩ := hd
  exact fun p l e Rm s m args below meth c H locs Q ls hF hRm hl hn hR hS hE => lv_lmul hF.1 hF.2.1 hd (k p l e Rm s m args below meth c H locs Q ls hF hRm hl hn hR hS hE)
theorem xV_land {x y : Int64} (hd : decode Y.2.1 pc = .ok (.land, 1) ∧ pc + 1 = pc')  (k : xV G Y Tb o pc' xl (.long (x &&& y) :: st) T R L I) : xV G Y Tb o pc xl (.long y :: .long x :: st) T R L I := by
  obtain ⟨hd, rfl⟩ := hd
  exact fun p l e Rm s m args below meth c H locs Q ls hF hRm hl hn hR hS hE => lv_land hF.1 hF.2.1 hd (k p l e Rm s m args below meth c H locs Q ls hF hRm hl hn hR hS hE)
theorem xV_lor {x y : Int64} (hd : decode Y.2.1 pc = .ok (.lor, 1) ∧ pc + 1 = pc')  (k : xV G Y Tb o pc' xl (.long (x ||| y) :: st) T R L I) : xV G Y Tb o pc xl (.long y :: .long x :: st) T R L I := by
  obtain ⟨hd, rfl⟩ := hd
  exact fun p l e Rm s m args below meth c H locs Q ls hF hRm hl hn hR hS hE => lv_lor hF.1 hF.2.1 hd (k p l e Rm s m args below meth c H locs Q ls hF hRm hl hn hR hS hE)
theorem xV_lrem {x y : Int64} (hd : decode Y.2.1 pc = .ok (.lrem, 1) ∧ pc + 1 = pc') (h0 : ¬ y = 0) (k : xV G Y Tb o pc' xl (.long (x - x / y * y) :: st) T R L I) : xV G Y Tb o pc xl (.long y :: .long x :: st) T R L I := by
  obtain ⟨hd, rfl⟩ := hd
  exact fun p l e Rm s m args below meth c H locs Q ls hF hRm hl hn hR hS hE => lv_lrem hF.1 hF.2.1 hd h0 (k p l e Rm s m args below meth c H locs Q ls hF hRm hl hn hR hS hE)
theorem xV_lushr {x : Int64} {y : Int32} (hd : decode Y.2.1 pc = .ok (.lushr, 1) ∧ pc + 1 = pc')  (k : xV G Y Tb o pc' xl (.long ((x.toUInt64 >>> (y.toInt64.toUInt64 &&& Int64.toUInt64 63)).toInt64) :: st) T R L I) : xV G Y Tb o pc xl (.int y :: .long x :: st) T R L I := by
  obtain ⟨hd, rfl⟩ := hd
  exact fun p l e Rm s m args below meth c H locs Q ls hF hRm hl hn hR hS hE => lv_lushr hF.1 hF.2.1 hd rfl (k p l e Rm s m args below meth c H locs Q ls hF hRm hl hn hR hS hE)
theorem xV_lshl {x : Int64} {y : Int32} (hd : decode Y.2.1 pc = .ok (.lshl, 1) ∧ pc + 1 = pc')  (k : xV G Y Tb o pc' xl (.long (x <<< (y.toInt64 &&& 63)) :: st) T R L I) : xV G Y Tb o pc xl (.int y :: .long x :: st) T R L I := by
  obtain ⟨hd, rfl⟩ := hd
  exact fun p l e Rm s m args below meth c H locs Q ls hF hRm hl hn hR hS hE => lv_lshl hF.1 hF.2.1 hd rfl (k p l e Rm s m args below meth c H locs Q ls hF hRm hl hn hR hS hE)
theorem xV_lshr {x : Int64} {y : Int32} (hd : decode Y.2.1 pc = .ok (.lshr, 1) ∧ pc + 1 = pc')  (k : xV G Y Tb o pc' xl (.long (x >>> (y.toInt64 &&& 63)) :: st) T R L I) : xV G Y Tb o pc xl (.int y :: .long x :: st) T R L I := by
  obtain ⟨hd, rfl⟩ := hd
  exact fun p l e Rm s m args below meth c H locs Q ls hF hRm hl hn hR hS hE => lv_lshr hF.1 hF.2.1 hd rfl (k p l e Rm s m args below meth c H locs Q ls hF hRm hl hn hR hS hE)
theorem xV_lcmp {x y : Int64} (hd : decode Y.2.1 pc = .ok (.lcmp, 1) ∧ pc + 1 = pc')  (k : xV G Y Tb o pc' xl (.int (lg_cmp x y) :: st) T R L I) : xV G Y Tb o pc xl (.long y :: .long x :: st) T R L I := by
  obtain ⟨hd, rfl⟩ := hd
  exact fun p l e Rm s m args below meth c H locs Q ls hF hRm hl hn hR hS hE => W.lcmp hF.1 hF.2.1 hd (k p l e Rm s m args below meth c H locs Q ls hF hRm hl hn hR hS hE)
theorem xV_i2l {x : Int32} (hd : decode Y.2.1 pc = .ok (.i2l, 1) ∧ pc + 1 = pc')  (k : xV G Y Tb o pc' xl (.long x.toInt64 :: st) T R L I) : xV G Y Tb o pc xl (.int x :: st) T R L I := by
  obtain ⟨hd, rfl⟩ := hd
  exact fun p l e Rm s m args below meth c H locs Q ls hF hRm hl hn hR hS hE => lv_i2l hF.1 hF.2.1 hd rfl (k p l e Rm s m args below meth c H locs Q ls hF hRm hl hn hR hS hE)
theorem xV_l2i {x : Int64} (hd : decode Y.2.1 pc = .ok (.l2i, 1) ∧ pc + 1 = pc')  (k : xV G Y Tb o pc' xl (.int x.toInt32 :: st) T R L I) : xV G Y Tb o pc xl (.long x :: st) T R L I := by
  obtain ⟨hd, rfl⟩ := hd
  exact fun p l e Rm s m args below meth c H locs Q ls hF hRm hl hn hR hS hE => lv_l2i hF.1 hF.2.1 hd rfl (k p l e Rm s m args below meth c H locs Q ls hF hRm hl hn hR hS hE)
theorem xV_dup {va : Value} (hd : decode Y.2.1 pc = .ok (.dup, 1) ∧ pc + 1 = pc') (hc : va.category = 1) (k : xV G Y Tb o pc' xl (va :: va :: st) T R L I) : xV G Y Tb o pc xl (va :: st) T R L I := by
  obtain ⟨hd, rfl⟩ := hd
  exact fun p l e Rm s m args below meth c H locs Q ls hF hRm hl hn hR hS hE => lv_dup hF.1 hF.2.1 hd hc (k p l e Rm s m args below meth c H locs Q ls hF hRm hl hn hR hS hE)
theorem xV_pop {va : Value} (hd : decode Y.2.1 pc = .ok (.pop, 1) ∧ pc + 1 = pc') (hc : va.category = 1) (k : xV G Y Tb o pc' xl (st) T R L I) : xV G Y Tb o pc xl (va :: st) T R L I := by
  obtain ⟨hd, rfl⟩ := hd
  exact fun p l e Rm s m args below meth c H locs Q ls hF hRm hl hn hR hS hE => lv_pop hF.1 hF.2.1 hd hc (k p l e Rm s m args below meth c H locs Q ls hF hRm hl hn hR hS hE)
theorem xV_dup2 {va vb : Value} (hd : decode Y.2.1 pc = .ok (.dup2, 1) ∧ pc + 1 = pc') (hc : va.category = 1) (hc2 : vb.category = 1) (k : xV G Y Tb o pc' xl (va :: vb :: va :: vb :: st) T R L I) : xV G Y Tb o pc xl (va :: vb :: st) T R L I := by
  obtain ⟨hd, rfl⟩ := hd
  exact fun p l e Rm s m args below meth c H locs Q ls hF hRm hl hn hR hS hE => lv_dup2_11 hF.1 hF.2.1 hd hc hc2 (k p l e Rm s m args below meth c H locs Q ls hF hRm hl hn hR hS hE)
theorem xV_istore_n {k0 : Fin 4} {x : Int32} (hd : decode Y.2.1 pc = .ok (.istore_n k0, 1) ∧ pc + 1 = pc') (hi : (k0 : Nat) < xl.length) (ho : xlo xl (k0 : Nat) = true) (k : xV G Y Tb o pc' ((xl.set (k0 : Nat) (some (.int x)))) st T R L I) : xV G Y Tb o pc xl (.int x :: st) T R L I := by
  obtain ⟨hd, rfl⟩ := hd
  exact fun p l e Rm s m args below meth c H locs Q ls hF hRm hl hn hR hS hE => lv_istore_n hF.1 hF.2.1 hd rfl hl (hn ▸ hi) rfl (fun ls hl => k p l e Rm s m args below meth c H locs Q ls hF hRm (xl_set1 hi ho hl) (by simpa using hn) hR hS hE)
theorem xV_istore {i : Nat} {x : Int32} (hd : decode Y.2.1 pc = .ok (.istore i, 2) ∧ pc + 2 = pc') (hi : i < xl.length) (ho : xlo xl i = true) (k : xV G Y Tb o pc' ((xl.set i (some (.int x)))) st T R L I) : xV G Y Tb o pc xl (.int x :: st) T R L I := by
  obtain ⟨hd, rfl⟩ := hd
  exact fun p l e Rm s m args below meth c H locs Q ls hF hRm hl hn hR hS hE => lv_istore hF.1 hF.2.1 hd hl (hn ▸ hi) rfl (fun ls hl => k p l e Rm s m args below meth c H locs Q ls hF hRm (xl_set1 hi ho hl) (by simpa using hn) hR hS hE)
theorem xV_astore_n {k0 : Fin 4} {x : Nat} (hd : decode Y.2.1 pc = .ok (.astore_n k0, 1) ∧ pc + 1 = pc') (hi : (k0 : Nat) < xl.length) (ho : xlo xl (k0 : Nat) = true) (k : xV G Y Tb o pc' ((xl.set (k0 : Nat) (some (.ref x)))) st T R L I) : xV G Y Tb o pc xl (.ref x :: st) T R L I := by
  obtain ⟨hd, rfl⟩ := hd
  exact fun p l e Rm s m args below meth c H locs Q ls hF hRm hl hn hR hS hE => lv_astore_n hF.1 hF.2.1 hd rfl hl (hn ▸ hi) rfl (fun ls hl => k p l e Rm s m args below meth c H locs Q ls hF hRm (xl_set1 hi ho hl) (by simpa using hn) hR hS hE)
theorem xV_lstore_n {k0 : Fin 4} {x : Int64} (hd : decode Y.2.1 pc = .ok (.lstore_n k0, 1) ∧ pc + 1 = pc') (hi : (k0 : Nat) + 1 < xl.length) (ho : xlo xl (k0 : Nat) = true) (k : xV G Y Tb o pc' ((xl.set (k0 : Nat) (some (.long x))).set ((k0 : Nat) + 1) none) st T R L I) : xV G Y Tb o pc xl (.long x :: st) T R L I := by
  obtain ⟨hd, rfl⟩ := hd
  exact fun p l e Rm s m args below meth c H locs Q ls hF hRm hl hn hR hS hE => lv_lstore_n hF.1 hF.2.1 hd rfl hl (hn ▸ hi) rfl (fun ls hl => k p l e Rm s m args below meth c H locs Q ls hF hRm (xl_set2 hi ho hl) (by simpa using hn) hR hS hE)
theorem xe_idx {xl : List (Option Value)} {i : Nat} {v : Value} (h : xl[i]? = some (some v)) : ∃ k : Nat, (xe 0 xl)[k]? = some (i, v) := List.getElem?_of_mem ((xe_mem xl 0 (i, v)).mpr ⟨i, by simp, h⟩)
theorem xV_iinc {i : Nat} {n : Int} {x v : Int32} (hd : decode Y.2.1 pc = .ok (.iinc i n, 3) ∧ pc + 3 = pc') (hx : xl[i]? = some (some (.int x))) (hv : x + Int32.ofInt n = v) (ho : xlo xl i = true) (k : xV G Y Tb o pc' (xl.set i (some (.int v))) st T R L I) : xV G Y Tb o pc xl st T R L I := by
  obtain ⟨hd, rfl⟩ := hd
  obtain ⟨q, hq⟩ := xe_idx hx
  have hi : i < xl.length := (List.getElem?_eq_some_iff.mp hx).1
  exact fun p l e Rm s m args below meth c H locs Q ls hF hRm hl hn hR hS hE => lv_iinc hF.1 hF.2.1 hd hl hq hv (hn ▸ hi) rfl (fun ls hl => k p l e Rm s m args below meth c H locs Q ls hF hRm (xl_set1 hi ho hl) (by simpa using hn) hR hS hE)
theorem xV_if_eq {x : Int32} (hd : decode Y.2.1 pc = .ok (.ifCond .eq off, 3) ∧ pc + 3 = pc' ∧ (pc : Int) + off = (tgt : Int)) (kt : x = 0 → xV G Y Tb o tgt xl st T R L I) (kf : ¬ x = 0 → xV G Y Tb o pc' xl st T R L I) : xV G Y Tb o pc xl (.int x :: st) T R L I := by
  obtain ⟨hd, rfl, ht⟩ := hd
  exact fun p l e Rm s m args below meth c H locs Q ls hF hRm hl hn hR hS hE => lv_if_eq hF.1 hF.2.1 hd ht (fun h => kt h p l e Rm s m args below meth c H locs Q ls hF hRm hl hn hR hS hE) (fun h => kf h p l e Rm s m args below meth c H locs Q ls hF hRm hl hn hR hS hE)
theorem xV_icmp_eq {x y : Int32} (hd : decode Y.2.1 pc = .ok (.if_icmp .eq off, 3) ∧ pc + 3 = pc' ∧ (pc : Int) + off = (tgt : Int)) (kt : x = y → xV G Y Tb o tgt xl st T R L I) (kf : ¬ x = y → xV G Y Tb o pc' xl st T R L I) : xV G Y Tb o pc xl (.int y :: .int x :: st) T R L I := by
  obtain ⟨hd, rfl, ht⟩ := hd
  exact fun p l e Rm s m args below meth c H locs Q ls hF hRm hl hn hR hS hE => lv_icmp_eq hF.1 hF.2.1 hd ht (fun h => kt h p l e Rm s m args below meth c H locs Q ls hF hRm hl hn hR hS hE) (fun h => kf h p l e Rm s m args below meth c H locs Q ls hF hRm hl hn hR hS hE)
theorem xV_if_ne {x : Int32} (hd : decode Y.2.1 pc = .ok (.ifCond .ne off, 3) ∧ pc + 3 = pc' ∧ (pc : Int) + off = (tgt : Int)) (kt : ¬ x = 0 → xV G Y Tb o tgt xl st T R L I) (kf : x = 0 → xV G Y Tb o pc' xl st T R L I) : xV G Y Tb o pc xl (.int x :: st) T R L I := by
  obtain ⟨hd, rfl, ht⟩ := hd
  exact fun p l e Rm s m args below meth c H locs Q ls hF hRm hl hn hR hS hE => lv_if_ne hF.1 hF.2.1 hd ht (fun h => kt h p l e Rm s m args below meth c H locs Q ls hF hRm hl hn hR hS hE) (fun h => kf h p l e Rm s m args below meth c H locs Q ls hF hRm hl hn hR hS hE)
theorem xV_icmp_ne {x y : Int32} (hd : decode Y.2.1 pc = .ok (.if_icmp .ne off, 3) ∧ pc + 3 = pc' ∧ (pc : Int) + off = (tgt : Int)) (kt : ¬ x = y → xV G Y Tb o tgt xl st T R L I) (kf : x = y → xV G Y Tb o pc' xl st T R L I) : xV G Y Tb o pc xl (.int y :: .int x :: st) T R L I := by
  obtain ⟨hd, rfl, ht⟩ := hd
  exact fun p l e Rm s m args below meth c H locs Q ls hF hRm hl hn hR hS hE => lv_icmp_ne hF.1 hF.2.1 hd ht (fun h => kt h p l e Rm s m args below meth c H locs Q ls hF hRm hl hn hR hS hE) (fun h => kf h p l e Rm s m args below meth c H locs Q ls hF hRm hl hn hR hS hE)
theorem xV_if_lt {x : Int32} (hd : decode Y.2.1 pc = .ok (.ifCond .lt off, 3) ∧ pc + 3 = pc' ∧ (pc : Int) + off = (tgt : Int)) (kt : x < 0 → xV G Y Tb o tgt xl st T R L I) (kf : ¬ x < 0 → xV G Y Tb o pc' xl st T R L I) : xV G Y Tb o pc xl (.int x :: st) T R L I := by
  obtain ⟨hd, rfl, ht⟩ := hd
  exact fun p l e Rm s m args below meth c H locs Q ls hF hRm hl hn hR hS hE => lv_if_lt hF.1 hF.2.1 hd ht (fun h => kt h p l e Rm s m args below meth c H locs Q ls hF hRm hl hn hR hS hE) (fun h => kf h p l e Rm s m args below meth c H locs Q ls hF hRm hl hn hR hS hE)
theorem xV_icmp_lt {x y : Int32} (hd : decode Y.2.1 pc = .ok (.if_icmp .lt off, 3) ∧ pc + 3 = pc' ∧ (pc : Int) + off = (tgt : Int)) (kt : x < y → xV G Y Tb o tgt xl st T R L I) (kf : ¬ x < y → xV G Y Tb o pc' xl st T R L I) : xV G Y Tb o pc xl (.int y :: .int x :: st) T R L I := by
  obtain ⟨hd, rfl, ht⟩ := hd
  exact fun p l e Rm s m args below meth c H locs Q ls hF hRm hl hn hR hS hE => lv_icmp_lt hF.1 hF.2.1 hd ht (fun h => kt h p l e Rm s m args below meth c H locs Q ls hF hRm hl hn hR hS hE) (fun h => kf h p l e Rm s m args below meth c H locs Q ls hF hRm hl hn hR hS hE)
theorem xV_if_ge {x : Int32} (hd : decode Y.2.1 pc = .ok (.ifCond .ge off, 3) ∧ pc + 3 = pc' ∧ (pc : Int) + off = (tgt : Int)) (kt : 0 ≤ x → xV G Y Tb o tgt xl st T R L I) (kf : ¬ 0 ≤ x → xV G Y Tb o pc' xl st T R L I) : xV G Y Tb o pc xl (.int x :: st) T R L I := by
  obtain ⟨hd, rfl, ht⟩ := hd
  exact fun p l e Rm s m args below meth c H locs Q ls hF hRm hl hn hR hS hE => lv_if_ge hF.1 hF.2.1 hd ht (fun h => kt h p l e Rm s m args below meth c H locs Q ls hF hRm hl hn hR hS hE) (fun h => kf h p l e Rm s m args below meth c H locs Q ls hF hRm hl hn hR hS hE)
theorem xV_icmp_ge {x y : Int32} (hd : decode Y.2.1 pc = .ok (.if_icmp .ge off, 3) ∧ pc + 3 = pc' ∧ (pc : Int) + off = (tgt : Int)) (kt : y ≤ x → xV G Y Tb o tgt xl st T R L I) (kf : ¬ y ≤ x → xV G Y Tb o pc' xl st T R L I) : xV G Y Tb o pc xl (.int y :: .int x :: st) T R L I := by
  obtain ⟨hd, rfl, ht⟩ := hd
  exact fun p l e Rm s m args below meth c H locs Q ls hF hRm hl hn hR hS hE => lv_icmp_ge hF.1 hF.2.1 hd ht (fun h => kt h p l e Rm s m args below meth c H locs Q ls hF hRm hl hn hR hS hE) (fun h => kf h p l e Rm s m args below meth c H locs Q ls hF hRm hl hn hR hS hE)
theorem xV_if_gt {x : Int32} (hd : decode Y.2.1 pc = .ok (.ifCond .gt off, 3) ∧ pc + 3 = pc' ∧ (pc : Int) + off = (tgt : Int)) (kt : 0 < x → xV G Y Tb o tgt xl st T R L I) (kf : ¬ 0 < x → xV G Y Tb o pc' xl st T R L I) : xV G Y Tb o pc xl (.int x :: st) T R L I := by
  obtain ⟨hd, rfl, ht⟩ := hd
  exact fun p l e Rm s m args below meth c H locs Q ls hF hRm hl hn hR hS hE => lv_if_gt hF.1 hF.2.1 hd ht (fun h => kt h p l e Rm s m args below meth c H locs Q ls hF hRm hl hn hR hS hE) (fun h => kf h p l e Rm s m args below meth c H locs Q ls hF hRm hl hn hR hS hE)
theorem xV_icmp_gt {x y : Int32} (hd : decode Y.2.1 pc = .ok (.if_icmp .gt off, 3) ∧ pc + 3 = pc' ∧ (pc : Int) + off = (tgt : Int)) (kt : y < x → xV G Y Tb o tgt xl st T R L I) (kf : ¬ y < x → xV G Y Tb o pc' xl st T R L I) : xV G Y Tb o pc xl (.int y :: .int x :: st) T R L I := by
  obtain ⟨hd, rfl, ht⟩ := hd
  exact fun p l e Rm s m args below meth c H locs Q ls hF hRm hl hn hR hS hE => lv_icmp_gt hF.1 hF.2.1 hd ht (fun h => kt h p l e Rm s m args below meth c H locs Q ls hF hRm hl hn hR hS hE) (fun h => kf h p l e Rm s m args below meth c H locs Q ls hF hRm hl hn hR hS hE)
theorem xV_if_le {x : Int32} (hd : decode Y.2.1 pc = .ok (.ifCond .le off, 3) ∧ pc + 3 = pc' ∧ (pc : Int) + off = (tgt : Int)) (kt : x ≤ 0 → xV G Y Tb o tgt xl st T R L I) (kf : ¬ x ≤ 0 → xV G Y Tb o pc' xl st T R L I) : xV G Y Tb o pc xl (.int x :: st) T R L I := by
  obtain ⟨hd, rfl, ht⟩ := hd
  exact fun p l e Rm s m args below meth c H locs Q ls hF hRm hl hn hR hS hE => lv_if_le hF.1 hF.2.1 hd ht (fun h => kt h p l e Rm s m args below meth c H locs Q ls hF hRm hl hn hR hS hE) (fun h => kf h p l e Rm s m args below meth c H locs Q ls hF hRm hl hn hR hS hE)
theorem xV_icmp_le {x y : Int32} (hd : decode Y.2.1 pc = .ok (.if_icmp .le off, 3) ∧ pc + 3 = pc' ∧ (pc : Int) + off = (tgt : Int)) (kt : x ≤ y → xV G Y Tb o tgt xl st T R L I) (kf : ¬ x ≤ y → xV G Y Tb o pc' xl st T R L I) : xV G Y Tb o pc xl (.int y :: .int x :: st) T R L I := by
  obtain ⟨hd, rfl, ht⟩ := hd
  exact fun p l e Rm s m args below meth c H locs Q ls hF hRm hl hn hR hS hE => lv_icmp_le hF.1 hF.2.1 hd ht (fun h => kt h p l e Rm s m args below meth c H locs Q ls hF hRm hl hn hR hS hE) (fun h => kf h p l e Rm s m args below meth c H locs Q ls hF hRm hl hn hR hS hE)
theorem xV_goto (hd : decode Y.2.1 pc = .ok (.goto off, 3) ∧ pc + 3 = pc' ∧ (pc : Int) + off = (tgt : Int)) (k : xV G Y Tb o tgt xl st T R L I) : xV G Y Tb o pc xl st T R L I := by
  obtain ⟨hd, rfl, ht⟩ := hd
  exact fun p l e Rm s m args below meth c H locs Q ls hF hRm hl hn hR hS hE => lv_goto hF.1 hF.2.1 hd ht (k p l e Rm s m args below meth c H locs Q ls hF hRm hl hn hR hS hE)
theorem xV_ifnonnull {a : Nat} (hd : decode Y.2.1 pc = .ok (.ifnonnull off, 3) ∧ pc + 3 = pc' ∧ (pc : Int) + off = (tgt : Int)) (k : xV G Y Tb o tgt xl st T R L I) : xV G Y Tb o pc xl (.ref a :: st) T R L I := by
  obtain ⟨hd, rfl, ht⟩ := hd
  exact fun p l e Rm s m args below meth c H locs Q ls hF hRm hl hn hR hS hE => lv_ifnonnull hF.1 hF.2.1 hd ht (k p l e Rm s m args below meth c H locs Q ls hF hRm hl hn hR hS hE)
theorem xV_ifnull {a : Nat} (hd : decode Y.2.1 pc = .ok (.ifnull off, 3) ∧ pc + 3 = pc' ∧ (pc : Int) + off = (tgt : Int)) (k : xV G Y Tb o pc' xl st T R L I) : xV G Y Tb o pc xl (.ref a :: st) T R L I := by
  obtain ⟨hd, rfl, ht⟩ := hd
  exact fun p l e Rm s m args below meth c H locs Q ls hF hRm hl hn hR hS hE => lv_ifnull hF.1 hF.2.1 hd (k p l e Rm s m args below meth c H locs Q ls hF hRm hl hn hR hS hE)
theorem xV_tswIn {dflt lo hi : Int} {offs : Array Int} {len : Nat} {x : Int32} (hd : decode Y.2.1 pc = .ok (.tableswitch dflt lo hi offs, len)) (h1 : ¬ x.toInt < lo) (h2 : ¬ hi < x.toInt) (ho : offs[(x.toInt - lo).toNat]? = some off) (ht : (pc : Int) + off = (tgt : Int)) (k : xV G Y Tb o tgt xl st T R L I) : xV G Y Tb o pc xl (.int x :: st) T R L I :=
  fun p l e Rm s m args below meth c H locs Q ls hF hRm hl hn hR hS hE => lv_tableIn hF.1 hF.2.1 hd h1 h2 ho ht (k p l e Rm s m args below meth c H locs Q ls hF hRm hl hn hR hS hE)
theorem xV_tswOut {dflt lo hi : Int} {offs : Array Int} {len : Nat} {x : Int32} (hd : decode Y.2.1 pc = .ok (.tableswitch dflt lo hi offs, len)) (h : x.toInt < lo ∨ hi < x.toInt) (ht : (pc : Int) + dflt = (tgt : Int)) (k : xV G Y Tb o tgt xl st T R L I) : xV G Y Tb o pc xl (.int x :: st) T R L I :=
  fun p l e Rm s m args below meth c H locs Q ls hF hRm hl hn hR hS hE => lv_tableOut hF.1 hF.2.1 hd h ht (k p l e Rm s m args below meth c H locs Q ls hF hRm hl hn hR hS hE)
theorem xV_ldc2 {idx : Nat} {v : Int64} (hd : decode Y.2.1 pc = .ok (.ldc2_w idx, 3) ∧ pc + 3 = pc') (hc : Cond.constantLong Y.1.cls idx v ∈ xW) (k : xV G Y Tb o pc' xl (.long v :: st) T R L I) : xV G Y Tb o pc xl st T R L I := by
  obtain ⟨hd, rfl⟩ := hd
  exact fun p l e Rm s m args below meth c H locs Q ls hF hRm hl hn hR hS hE => lv_ldc2 hF.1 hF.2.1 hF.2.2.2.1 (hF.2.2.2.2.1 _ hc) hd (k p l e Rm s m args below meth c H locs Q ls hF hRm hl hn hR hS hE)
theorem xV_ldcw {idx : Nat} {v : Int32} (hd : decode Y.2.1 pc = .ok (.ldc_w idx, 3) ∧ pc + 3 = pc') (hc : Cond.constant Y.1.cls idx v ∈ xW) (k : xV G Y Tb o pc' xl (.int v :: st) T R L I) : xV G Y Tb o pc xl st T R L I := by
  obtain ⟨hd, rfl⟩ := hd
  exact fun p l e Rm s m args below meth c H locs Q ls hF hRm hl hn hR hS hE => lv_ldcw hF.1 hF.2.1 hF.2.2.2.1 (hF.2.2.2.2.1 _ hc) hd (k p l e Rm s m args below meth c H locs Q ls hF hRm hl hn hR hS hE)
/-- fewer known locals -/
def xsub : List (Option Value) → List (Option Value) → Prop
  | [], [] => True
  | none :: a, _ :: b => xsub a b
  | some v :: a, w :: b => w = some v ∧ xsub a b
  | _, _ => False
theorem xsub_ok : ∀ (a b : List (Option Value)), xsub a b → a.length = b.length ∧ ∀ (i : Nat) (v : Value), a[i]? = some (some v) → b[i]? = some (some v) := by
  intro a
  induction a with
  | nil =>
    intro b h
    cases b with
    | nil => exact ⟨rfl, fun i v h => h⟩
    | cons _ _ => exact h.elim
  | cons x t ih =>
    intro b h
    cases b with
    | nil => cases x <;> exact h.elim
    | cons y u =>
      cases x with
      | none =>
        obtain ⟨h1, h2⟩ := ih u h
        refine ⟨by simp [h1], fun i v hi => ?_⟩
        cases i with
        | zero => simp at hi
        | succ i => simpa using h2 i v (by simpa using hi)
      | some w =>
        obtain ⟨e, h⟩ := h
        obtain ⟨h1, h2⟩ := ih u h
        refine ⟨by simp [h1], fun i v hi => ?_⟩
        cases i with
        | zero => simp at hi; subst hi; simp [e]
        | succ i => simpa using h2 i v (by simpa using hi)
theorem xV_sub {xl' : List (Option Value)} (h : xsub xl' xl) (k : xV G Y Tb o pc xl' st T R L I) : xV G Y Tb o pc xl st T R L I := by
  obtain ⟨h1, h2⟩ := xsub_ok _ _ h
  exact fun p l e Rm s m args below meth c H locs Q ls hF hRm hl hn hR hS hE => k p l e Rm s m args below meth c H locs Q ls hF hRm (xl_le hl (fun q hq => by obtain ⟨j, e1, e2⟩ := (xe_mem _ 0 q).mp hq; exact (xe_mem _ 0 q).mpr ⟨j, e1, h2 _ _ e2⟩)) (h1.trans hn) hR hS hE
-- ===== memory =====
def xFL (own : String) (idx ci k kd : Nat) : Prop := Cond.fieldLink own idx (xct ci k).1 (xct ci k).2.1 (xct ci k).2.2.1 ∈ xW ∧ ci < 4 ∧ k < xnf ci ∧ xfk ci k = kd
def xFP (own : String) (idx ci k kd : Nat) (fin : Bool) (ty : FieldType) : Prop := xFL own idx ci k kd ∧ (xct ci k).2.2.2 = fin ∧ xcy ci k = ty
theorem xin {ci : Nat} (h : ci < 4) : ∀ w ∈ u_ws (xcn ci) (xct ci) (xnf ci), w ∈ xW := by
  match ci, h with
  | 0, _ => exact xin0
  | 1, _ => exact xin1
  | 2, _ => exact xin2
  | 3, _ => exact xin3
theorem xfs_at {ci k : Nat} {r : Nat → Option Nat} {l : Nat → Int64} {i : Nat → Int32} (h : k < xnf ci) : ((List.range (xnf ci)).map (fun k => xfv ci k r l i))[k]? = some (xfv ci k r l i) := by simp [h]
theorem xhas {G : xG} {T : xT} {R : xR} {L : xL} {I : xI} {a ci : Nat} (hs : (xSh G T a).1 = ci) (h4 : ci < 4) : ∃ k : Nat, (va_pl (xads G T) (xE G T R L I))[k]? = some (a, .inr (ci, (List.range (xnf ci)).map (fun k => xfv ci k (R a) (L a) (I a)))) := by
  obtain ⟨q, hq⟩ := xpl_get (f := xE G T R L I) (xsh_in (G := G) (T := T) (a := a) (by rw [hs]; omega))
  exact ⟨q, by rw [hq]; unfold xE; rw [xmk_obj hs h4]⟩
theorem xhasA {G : xG} {T : xT} {R : xR} {L : xL} {I : xI} {a n : Nat} (hs : xSh G T a = (4, n)) : ∃ k : Nat, (va_pl (xads G T) (xE G T R L I))[k]? = some (a, .inl (G.2.1.1, n, .inl (I a))) := by
  obtain ⟨q, hq⟩ := xpl_get (f := xE G T R L I) (xsh_in (G := G) (T := T) (a := a) (by simp [hs]))
  exact ⟨q, by rw [hq]; unfold xE; rw [hs]; rfl⟩
theorem xhasZ {G : xG} {T : xT} {R : xR} {L : xL} {I : xI} {a n : Nat} (hs : xSh G T a = (5, n)) : ∃ k : Nat, (va_pl (xads G T) (xE G T R L I))[k]? = some (a, .inl (G.2.1.2.1, n, .inl (I a))) := by
  obtain ⟨q, hq⟩ := xpl_get (f := xE G T R L I) (xsh_in (G := G) (T := T) (a := a) (by simp [hs]))
  exact ⟨q, by rw [hq]; unfold xE; rw [hs]; rfl⟩
theorem xhasQ {G : xG} {T : xT} {R : xR} {L : xL} {I : xI} {a n : Nat} (hs : xSh G T a = (6, n)) : ∃ k : Nat, (va_pl (xads G T) (xE G T R L I))[k]? = some (a, .inl (G.2.1.2.2, n, .inr (.inr (.inr (.inr (R a)))))) := by
  obtain ⟨q, hq⟩ := xpl_get (f := xE G T R L I) (xsh_in (G := G) (T := T) (a := a) (by simp [hs]))
  exact ⟨q, by rw [hq]; unfold xE; rw [hs]; rfl⟩
def xst (I : xI) (a k : Nat) (x : Int32) : xI := va_up I a (upd (I a) k x)
def xsl (L : xL) (a k : Nat) (x : Int64) : xL := va_up L a (va_up (L a) k x)
def xsr (R : xR) (a k : Nat) (x : Nat) : xR := va_up R a (va_up (R a) k (some x))
theorem xV_getI {a ci k0 idx : Nat}  (hd : decode Y.2.1 pc = .ok (.getfield idx, 3) ∧ pc + 3 = pc') (hf : xFL Y.1.cls idx ci k0 0) (hs : (xSh G T a).1 = ci)  (k : xV G Y Tb o pc' xl (.int (I a k0) :: st) T R L I) : xV G Y Tb o pc xl (.ref a :: st) T R L I := by
  obtain ⟨hd, rfl⟩ := hd
  obtain ⟨hw, h4, hk, hkd⟩ := hf
  intro p l e Rm s m args below meth c H locs Q ls hF hRm hl hn hR hS hE
  obtain ⟨q0, hq⟩ := xhas (R := R) (L := L) (I := I) hs h4
  exact va_get hF.1 hF.2.1 hF.2.2.2.2.1 (xin h4) hF.2.2.2.1 hF.2.2.2.2.2.2.2.2.1 hR.2 q0 hq (xcl h4) k0 hk (hF.2.2.2.2.1 _ hw) (fun _ h => h) (by rw [xfs_at hk]; simp only [xfv, hkd]) hd (k p l e Rm s m args below meth c H locs Q ls hF hRm hl hn hR hS hE)
theorem xV_getL {a ci k0 idx : Nat}  (hd : decode Y.2.1 pc = .ok (.getfield idx, 3) ∧ pc + 3 = pc') (hf : xFL Y.1.cls idx ci k0 1) (hs : (xSh G T a).1 = ci)  (k : xV G Y Tb o pc' xl (.long (L a k0) :: st) T R L I) : xV G Y Tb o pc xl (.ref a :: st) T R L I := by
  obtain ⟨hd, rfl⟩ := hd
  obtain ⟨hw, h4, hk, hkd⟩ := hf
  intro p l e Rm s m args below meth c H locs Q ls hF hRm hl hn hR hS hE
  obtain ⟨q0, hq⟩ := xhas (R := R) (L := L) (I := I) hs h4
  exact va_get hF.1 hF.2.1 hF.2.2.2.2.1 (xin h4) hF.2.2.2.1 hF.2.2.2.2.2.2.2.2.1 hR.2 q0 hq (xcl h4) k0 hk (hF.2.2.2.2.1 _ hw) (fun _ h => h) (by rw [xfs_at hk]; simp only [xfv, hkd]) hd (k p l e Rm s m args below meth c H locs Q ls hF hRm hl hn hR hS hE)
theorem xV_getR {a ci k0 idx : Nat} {b : Nat} (hd : decode Y.2.1 pc = .ok (.getfield idx, 3) ∧ pc + 3 = pc') (hf : xFL Y.1.cls idx ci k0 2) (hs : (xSh G T a).1 = ci) (hb : R a k0 = some b) (k : xV G Y Tb o pc' xl (.ref b :: st) T R L I) : xV G Y Tb o pc xl (.ref a :: st) T R L I := by
  obtain ⟨hd, rfl⟩ := hd
  obtain ⟨hw, h4, hk, hkd⟩ := hf
  intro p l e Rm s m args below meth c H locs Q ls hF hRm hl hn hR hS hE
  obtain ⟨q0, hq⟩ := xhas (R := R) (L := L) (I := I) hs h4
  exact va_get hF.1 hF.2.1 hF.2.2.2.2.1 (xin h4) hF.2.2.2.1 hF.2.2.2.2.2.2.2.2.1 hR.2 q0 hq (xcl h4) k0 hk (hF.2.2.2.2.1 _ hw) (fun _ h => h) (by rw [xfs_at hk]; simp only [xfv, hkd, hb, va_rf]) hd (k p l e Rm s m args below meth c H locs Q ls hF hRm hl hn hR hS hE)
theorem xrange_set {N k0 : Nat} {f g : Nat → Value} (h : ∀ k, k ≠ k0 → f k = g k) : ((List.range N).map f).set k0 (g k0) = (List.range N).map g := by
  apply List.ext_getElem?
  intro i
  by_cases hi : k0 = i
  · subst hi
    by_cases hl : k0 < N
    · rw [List.getElem?_set_self (by simpa using hl)]
      simp [hl]
    · rw [List.getElem?_eq_none (by simp; omega), List.getElem?_eq_none (by simp; omega)]
  · rw [List.getElem?_set_ne hi]
    by_cases hl : i < N
    · simp [hl, h i (Ne.symm hi)]
    · rw [List.getElem?_eq_none (by simp; omega), List.getElem?_eq_none (by simp; omega)]
theorem xE_stI {G : xG} {T : xT} {R : xR} {L : xL} {I : xI} {a ci k0 : Nat} {x : Int32} (hs : (xSh G T a).1 = ci) (h4 : ci < 4) (hkd : xfk ci k0 = 0) (b : Nat) :
    va_up (xE G T R L I) a (.inr (ci, ((List.range (xnf ci)).map (fun k => xfv ci k (R a) (L a) (I a))).set k0 (.int x))) b = xE G T R L (xst I a k0 x) b := by
  by_cases hb : b = a
  · subst hb
    rw [show (Value.int x) = (fun k => xfv ci k (R b) (L b) (upd (I b) k0 x)) k0 by simp [xfv, hkd, upd],
      xrange_set (g := fun k => xfv ci k (R b) (L b) (upd (I b) k0 x)) (fun k hk => by simp only [xfv, upd]; split <;> simp [hk])]
    simp only [va_up, if_true, xE, xst]
    rw [xmk_obj hs h4]
  · simp [va_up, hb, xE, xst]
theorem xE_stL {G : xG} {T : xT} {R : xR} {L : xL} {I : xI} {a ci k0 : Nat} {x : Int64} (hs : (xSh G T a).1 = ci) (h4 : ci < 4) (hkd : xfk ci k0 = 1) (b : Nat) :
    va_up (xE G T R L I) a (.inr (ci, ((List.range (xnf ci)).map (fun k => xfv ci k (R a) (L a) (I a))).set k0 (.long x))) b = xE G T R (xsl L a k0 x) I b := by
  by_cases hb : b = a
  · subst hb
    rw [show (Value.long x) = (fun k => xfv ci k (R b) (va_up (L b) k0 x) (I b)) k0 by simp [xfv, hkd, va_up],
      xrange_set (g := fun k => xfv ci k (R b) (va_up (L b) k0 x) (I b)) (fun k hk => by simp only [xfv, va_up]; split <;> simp [hk])]
    simp only [va_up, if_true, xE, xsl]
    rw [xmk_obj hs h4]
  · simp [va_up, hb, xE, xsl]
theorem xE_stR {G : xG} {T : xT} {R : xR} {L : xL} {I : xI} {a ci k0 : Nat} {x : Nat} (hs : (xSh G T a).1 = ci) (h4 : ci < 4) (hkd : xfk ci k0 = 2) (b : Nat) :
    va_up (xE G T R L I) a (.inr (ci, ((List.range (xnf ci)).map (fun k => xfv ci k (R a) (L a) (I a))).set k0 (.ref x))) b = xE G T (xsr R a k0 x) L I b := by
  by_cases hb : b = a
  · subst hb
    rw [show (Value.ref x) = (fun k => xfv ci k (va_up (R b) k0 (some x)) (L b) (I b)) k0 by simp [xfv, hkd, va_up, va_rf],
      xrange_set (g := fun k => xfv ci k (va_up (R b) k0 (some x)) (L b) (I b)) (fun k hk => by simp only [xfv, va_up]; split <;> simp [hk])]
    simp only [va_up, if_true, xE, xsr]
    rw [xmk_obj hs h4]
  · simp [va_up, hb, xE, xsr]
theorem xE_stA {G : xG} {T : xT} {R : xR} {L : xL} {I : xI} {a n k0 : Nat} {x : Int32} (hs : xSh G T a = (4, n)) (b : Nat) :
    va_up (xE G T R L I) a (.inl (G.2.1.1, n, .inl (upd (I a) k0 x))) b = xE G T R L (xst I a k0 x) b := by
  by_cases hb : b = a
  · subst hb
    simp only [va_up, if_true, xE, xst, hs, xmk]
  · simp [va_up, hb, xE, xst]
theorem xE_stZ {G : xG} {T : xT} {R : xR} {L : xL} {I : xI} {a n k0 : Nat} {x : Int32} (hs : xSh G T a = (5, n)) (b : Nat) :
    va_up (xE G T R L I) a (.inl (G.2.1.2.1, n, .inl (upd (I a) k0 x))) b = xE G T R L (xst I a k0 x) b := by
  by_cases hb : b = a
  · subst hb
    simp only [va_up, if_true, xE, xst, hs, xmk]
  · simp [va_up, hb, xE, xst]
theorem xE_stQ {G : xG} {T : xT} {R : xR} {L : xL} {I : xI} {a n k0 x : Nat} (hs : xSh G T a = (6, n)) (b : Nat) :
    va_up (xE G T R L I) a (.inl (G.2.1.2.2, n, .inr (.inr (.inr (.inr (va_up (R a) k0 (some x))))))) b = xE G T (xsr R a k0 x) L I b := by
  by_cases hb : b = a
  · subst hb
    simp only [va_up, if_true, xE, xsr, hs, xmk]
  · simp [va_up, hb, xE, xsr]
/-- behind a store: the world is that of the new memory -/
theorem xRp_set {G : xG} {T : xT} {R R' : xR} {L L' : xL} {I I' : xI} {a q0 : Nat} {e : va_E} {H H1 : Heap} (hR : xRp G T R L I H) (hz : H.size ≤ H1.size) (hq : (va_pl (xads G T) (xE G T R L I))[q0]? = some (a, xE G T R L I a)) (ha : a ∈ xads G T)
    (h : va_P G.1 vwCl ((va_pl (xads G T) (xE G T R L I)).set q0 (a, e)) H1) (he : ∀ b, va_up (xE G T R L I) a e b = xE G T R' L' I' b) : xRp G T R' L' I' H1 := by
  rw [xpl_set (xD_ok G T _) ha hq, va_pl_congr he] at h
  exact ⟨Nat.le_trans hR.1 hz, h⟩
theorem xS_le {A : Nat → Prop} {H H1 : Heap} {locs : List Loc} (h : va_S A H H1 locs) : H.size ≤ H1.size := h.1
/-- two steps of what stays -/
theorem xS_tr {A : Nat → Prop} {H0 H H1 : Heap} {l1 l2 : List Loc} (h : va_S A H0 H l1) (h2 : va_S A H H1 l2) : va_S A H0 H1 l2 :=
  ⟨Nat.le_trans h.1 h2.1, fun q a b => (h2.2.1 q (Nat.lt_of_lt_of_le a h.1) b).trans (h.2.1 q a b), h2.2.2⟩
theorem xV_putI {a ci k0 idx : Nat} {x : Int32} (hd : decode Y.2.1 pc = .ok (.putfield idx, 3) ∧ pc + 3 = pc') (hf : xFP Y.1.cls idx ci k0 0 false .int) (hs : (xSh G T a).1 = ci)  (k : xV G Y Tb o pc' xl st T R L (xst I a k0 x)) : xV G Y Tb o pc xl (.int x :: .ref a :: st) T R L I := by
  obtain ⟨hd, rfl⟩ := hd
  obtain ⟨⟨hw, h4, hk, hkd⟩, hfin, hty⟩ := hf
  intro p l e Rm s m args below meth c H locs Q ls hF hRm hl hn hR hS hE
  obtain ⟨q0, hq⟩ := xhas (R := R) (L := L) (I := I) hs h4
  have ha : a ∈ xads G T := xsh_in (by rw [hs]; omega)
  have hq' : (va_pl (xads G T) (xE G T R L I))[q0]? = some (a, xE G T R L I a) := by rw [hq]; unfold xE; rw [xmk_obj hs h4]
  refine va_put (A := xA G) (H0 := H) hF.1 hF.2.1 hF.2.2.2.2.1 (xin h4) (xcy ci) (xcy_ok h4) (xcy_nm h4) hF.2.2.2.1 hF.2.2.2.2.2.2.2.2.1 hR.2 (xD_ok G T _) ⟨Nat.le_refl _, fun _ _ _ => rfl, hS.2.2⟩ q0 hq (xcl h4) k0 hk (hF.2.2.2.2.1 _ hw) (fun _ h => h) hfin (by rw [xcy_ok h4 k0 hk, hty]) rfl rfl (by simpa using hk) hd (fun H1 locs1 hP1 hD1 hS1 => ?_)
  exact k p l e Rm s m args below meth c H1 locs1 Q ls hF hRm hl hn (xRp_set hR hS1.1 hq' ha hP1 (xE_stI hs h4 hkd)) (xS_tr hS hS1) hE
theorem xV_putL {a ci k0 idx : Nat} {x : Int64} (hd : decode Y.2.1 pc = .ok (.putfield idx, 3) ∧ pc + 3 = pc') (hf : xFP Y.1.cls idx ci k0 1 false .long) (hs : (xSh G T a).1 = ci)  (k : xV G Y Tb o pc' xl st T R (xsl L a k0 x) I) : xV G Y Tb o pc xl (.long x :: .ref a :: st) T R L I := by
  obtain ⟨hd, rfl⟩ := hd
  obtain ⟨⟨hw, h4, hk, hkd⟩, hfin, hty⟩ := hf
  intro p l e Rm s m args below meth c H locs Q ls hF hRm hl hn hR hS hE
  obtain ⟨q0, hq⟩ := xhas (R := R) (L := L) (I := I) hs h4
  have ha : a ∈ xads G T := xsh_in (by rw [hs]; omega)
  have hq' : (va_pl (xads G T) (xE G T R L I))[q0]? = some (a, xE G T R L I a) := by rw [hq]; unfold xE; rw [xmk_obj hs h4]
  refine va_put (A := xA G) (H0 := H) hF.1 hF.2.1 hF.2.2.2.2.1 (xin h4) (xcy ci) (xcy_ok h4) (xcy_nm h4) hF.2.2.2.1 hF.2.2.2.2.2.2.2.2.1 hR.2 (xD_ok G T _) ⟨Nat.le_refl _, fun _ _ _ => rfl, hS.2.2⟩ q0 hq (xcl h4) k0 hk (hF.2.2.2.2.1 _ hw) (fun _ h => h) hfin (by rw [xcy_ok h4 k0 hk, hty]) rfl rfl (by simpa using hk) hd (fun H1 locs1 hP1 hD1 hS1 => ?_)
  exact k p l e Rm s m args below meth c H1 locs1 Q ls hF hRm hl hn (xRp_set hR hS1.1 hq' ha hP1 (xE_stL hs h4 hkd)) (xS_tr hS hS1) hE
theorem xV_putRF {a ci k0 idx : Nat} {x : Nat} {ty : FieldType} (hd : decode Y.2.1 pc = .ok (.putfield idx, 3) ∧ pc + 3 = pc') (hf : xFP Y.1.cls idx ci k0 2 true ty) (hs : (xSh G T a).1 = ci) (hr : narrow ty (.ref x) = .ref x) (hft : fits ty (.ref x) = true) (hini : Y.1.name = "<init>") (hdecl : ((xct ci) k0).1 = Y.1.cls) (k : xV G Y Tb o pc' xl st T (xsr R a k0 x) L I) : xV G Y Tb o pc xl (.ref x :: .ref a :: st) T R L I := by
  obtain ⟨hd, rfl⟩ := hd
  obtain ⟨⟨hw, h4, hk, hkd⟩, hfin, hty⟩ := hf
  intro p l e Rm s m args below meth c H locs Q ls hF hRm hl hn hR hS hE
  obtain ⟨q0, hq⟩ := xhas (R := R) (L := L) (I := I) hs h4
  have ha : a ∈ xads G T := xsh_in (by rw [hs]; omega)
  have hq' : (va_pl (xads G T) (xE G T R L I))[q0]? = some (a, xE G T R L I a) := by rw [hq]; unfold xE; rw [xmk_obj hs h4]
  refine va_putF (A := xA G) (H0 := H) hF.1 hF.2.1 hF.2.2.2.2.1 (xin h4) (xcy ci) (xcy_ok h4) (xcy_nm h4) hF.2.2.2.1 hF.2.2.2.2.2.2.2.2.1 hR.2 (xD_ok G T _) ⟨Nat.le_refl _, fun _ _ _ => rfl, hS.2.2⟩ q0 hq (xcl h4) k0 hk (hF.2.2.2.2.1 _ hw) (fun _ h => h) hfin (hF.2.2.2.2.2.1 hini) hdecl (by rw [xcy_ok h4 k0 hk, hty]) hr hft (by simpa using hk) hd (fun H1 locs1 hP1 hD1 hS1 => ?_)
  exact k p l e Rm s m args below meth c H1 locs1 Q ls hF hRm hl hn (xRp_set hR hS1.1 hq' ha hP1 (xE_stR hs h4 hkd)) (xS_tr hS hS1) hE
-- rows
def xRow (G : xG) (T : xT) (I : xI) (a n : Nat) (f : Nat → Int32) : Prop :=
  (xSh G T a = (4, n) ∧ f = I a) ∨ (a = G.2.2.2.1 ∧ n = 12 ∧ f = xnear) ∨ (a = G.2.2.2.2.1 ∧ n = G.2.2.2.2.2.1 ∧ f = G.2.2.2.2.2.2)
theorem xRow.of {a n : Nat} (h : xSh G T a = (4, n)) : xRow G T I a n (I a) := Or.inl ⟨h, rfl⟩
theorem xRow.near : xRow G T I G.2.2.2.1 12 xnear := Or.inr (Or.inl ⟨rfl, rfl, rfl⟩)
theorem xRow.scr : xRow G T I G.2.2.2.2.1 G.2.2.2.2.2.1 G.2.2.2.2.2.2 := Or.inr (Or.inr ⟨rfl, rfl, rfl⟩)
theorem xV_iald {a n : Nat} {f : Nat → Int32} {i : Int32} (hd : decode Y.2.1 pc = .ok (.iaload, 1) ∧ pc + 1 = pc') (hr : xRow G T I a n f) (hin : vp_in i n) (k : xV G Y Tb o pc' xl (.int (f i.toNatClampNeg) :: st) T R L I) : xV G Y Tb o pc xl (.int i :: .ref a :: st) T R L I := by
  obtain ⟨hd, rfl⟩ := hd
  intro p l e Rm s m args below meth c H locs Q ls hF hRm hl hn hR hS hE
  rcases hr with ⟨hs, rfl⟩ | ⟨rfl, rfl, rfl⟩ | ⟨rfl, rfl, rfl⟩
  · obtain ⟨q0, hq⟩ := xhasA (R := R) (L := L) (I := I) hs
    exact va_iald hF.1 hF.2.1 hF.2.2.2.2.2.2.2.2.1 hR.2 q0 0 hq rfl hin hd (k p l e Rm s m args below meth c H locs Q ls hF hRm hl hn hR hS hE)
  · exact va_ti hF.1 hF.2.1 hF.2.2.2.2.2.2.2.2.2.2.1 hS hin rfl hd (k p l e Rm s m args below meth c H locs Q ls hF hRm hl hn hR hS hE)
  · exact va_ti hF.1 hF.2.1 hF.2.2.2.2.2.2.2.2.2.2.2.1 hS hin rfl hd (k p l e Rm s m args below meth c H locs Q ls hF hRm hl hn hR hS hE)
theorem xV_alen {a n : Nat} {f : Nat → Int32} {v : Int32} (hd : decode Y.2.1 pc = .ok (.arraylength, 1) ∧ pc + 1 = pc') (hr : xRow G T I a n f) (hv : Int32.ofNat n = v) (k : xV G Y Tb o pc' xl (.int v :: st) T R L I) : xV G Y Tb o pc xl (.ref a :: st) T R L I := by
  obtain ⟨hd, rfl⟩ := hd
  intro p l e Rm s m args below meth c H locs Q ls hF hRm hl hn hR hS hE
  rcases hr with ⟨hs, rfl⟩ | ⟨rfl, rfl, rfl⟩ | ⟨rfl, rfl, rfl⟩
  · obtain ⟨q0, hq⟩ := xhasA (R := R) (L := L) (I := I) hs
    exact va_alen hF.1 hF.2.1 hF.2.2.2.2.2.2.2.2.1 hR.2 q0 0 hq rfl hv hd (k p l e Rm s m args below meth c H locs Q ls hF hRm hl hn hR hS hE)
  · exact va_tlen hF.1 hF.2.1 hF.2.2.2.2.2.2.2.2.2.2.1 hS hv hd (k p l e Rm s m args below meth c H locs Q ls hF hRm hl hn hR hS hE)
  · exact va_tlen hF.1 hF.2.1 hF.2.2.2.2.2.2.2.2.2.2.2.1 hS hv hd (k p l e Rm s m args below meth c H locs Q ls hF hRm hl hn hR hS hE)
theorem xV_alenQ {a n : Nat} {v : Int32} (hd : decode Y.2.1 pc = .ok (.arraylength, 1) ∧ pc + 1 = pc') (hs : xSh G T a = (6, n)) (hv : Int32.ofNat n = v) (k : xV G Y Tb o pc' xl (.int v :: st) T R L I) : xV G Y Tb o pc xl (.ref a :: st) T R L I := by
  obtain ⟨hd, rfl⟩ := hd
  intro p l e Rm s m args below meth c H locs Q ls hF hRm hl hn hR hS hE
  obtain ⟨q0, hq⟩ := xhasQ (R := R) (L := L) (I := I) hs
  exact va_alen hF.1 hF.2.1 hF.2.2.2.2.2.2.2.2.1 hR.2 q0 2 hq rfl hv hd (k p l e Rm s m args below meth c H locs Q ls hF hRm hl hn hR hS hE)
theorem xV_iast {a n : Nat} {i x : Int32} (hd : decode Y.2.1 pc = .ok (.iastore, 1) ∧ pc + 1 = pc') (hs : xSh G T a = (4, n)) (hin : vp_in i n) (k : xV G Y Tb o pc' xl st T R L (xst I a i.toNatClampNeg x)) : xV G Y Tb o pc xl (.int x :: .int i :: .ref a :: st) T R L I := by
  obtain ⟨hd, rfl⟩ := hd
  intro p l e Rm s m args below meth c H locs Q ls hF hRm hl hn hR hS hE
  obtain ⟨q0, hq⟩ := xhasA (R := R) (L := L) (I := I) hs
  have ha : a ∈ xads G T := xsh_in (by simp [hs])
  have hq' : (va_pl (xads G T) (xE G T R L I))[q0]? = some (a, xE G T R L I a) := by rw [hq]; unfold xE; rw [hs]; rfl
  refine va_iast (A := xA G) (H0 := H) hF.1 hF.2.1 hF.2.2.2.2.2.2.2.2.1 hR.2 (xD_ok G T _) ⟨Nat.le_refl _, fun _ _ _ => rfl, hS.2.2⟩ q0 0 hq rfl hin hd (fun H1 locs1 hP1 hD1 hS1 => ?_)
  exact k p l e Rm s m args below meth c H1 locs1 Q ls hF hRm hl hn (xRp_set hR hS1.1 hq' ha hP1 (xE_stA hs)) (xS_tr hS hS1) hE
theorem xV_bald {a n : Nat} {i : Int32} (hd : decode Y.2.1 pc = .ok (.baload, 1) ∧ pc + 1 = pc') (hs : xSh G T a = (5, n)) (hin : vp_in i n) (k : xV G Y Tb o pc' xl (.int (I a i.toNatClampNeg) :: st) T R L I) : xV G Y Tb o pc xl (.int i :: .ref a :: st) T R L I := by
  obtain ⟨hd, rfl⟩ := hd
  intro p l e Rm s m args below meth c H locs Q ls hF hRm hl hn hR hS hE
  obtain ⟨q0, hq⟩ := xhasZ (R := R) (L := L) (I := I) hs
  exact va_zald hF.1 hF.2.1 hF.2.2.2.2.2.2.2.2.1 hR.2 q0 1 hq rfl hin hd (k p l e Rm s m args below meth c H locs Q ls hF hRm hl hn hR hS hE)
theorem xV_bast {a n : Nat} {i x : Int32} (hd : decode Y.2.1 pc = .ok (.bastore, 1) ∧ pc + 1 = pc') (hs : xSh G T a = (5, n)) (hin : vp_in i n) (hx : vp_nar .boolean x = x) (k : xV G Y Tb o pc' xl st T R L (xst I a i.toNatClampNeg x)) : xV G Y Tb o pc xl (.int x :: .int i :: .ref a :: st) T R L I := by
  obtain ⟨hd, rfl⟩ := hd
  intro p l e Rm s m args below meth c H locs Q ls hF hRm hl hn hR hS hE
  obtain ⟨q0, hq⟩ := xhasZ (R := R) (L := L) (I := I) hs
  have ha : a ∈ xads G T := xsh_in (by simp [hs])
  have hq' : (va_pl (xads G T) (xE G T R L I))[q0]? = some (a, xE G T R L I a) := by rw [hq]; unfold xE; rw [hs]; rfl
  refine va_zast (A := xA G) (H0 := H) hF.1 hF.2.1 hF.2.2.2.2.2.2.2.2.1 hR.2 (xD_ok G T _) ⟨Nat.le_refl _, fun _ _ _ => rfl, hS.2.2⟩ q0 1 hq rfl hin hd (fun H1 locs1 hP1 hD1 hS1 => ?_)
  rw [hx] at hP1
  exact k p l e Rm s m args below meth c H1 locs1 Q ls hF hRm hl hn (xRp_set hR hS1.1 hq' ha hP1 (xE_stZ hs)) (xS_tr hS hS1) hE
theorem xV_aald {a n b : Nat} {i : Int32} (hd : decode Y.2.1 pc = .ok (.aaload, 1) ∧ pc + 1 = pc') (hs : xSh G T a = (6, n)) (hin : vp_in i n) (hb : R a i.toNatClampNeg = some b) (k : xV G Y Tb o pc' xl (.ref b :: st) T R L I) : xV G Y Tb o pc xl (.int i :: .ref a :: st) T R L I := by
  obtain ⟨hd, rfl⟩ := hd
  intro p l e Rm s m args below meth c H locs Q ls hF hRm hl hn hR hS hE
  obtain ⟨q0, hq⟩ := xhasQ (R := R) (L := L) (I := I) hs
  refine va_aldq hF.1 hF.2.1 hF.2.2.2.2.2.2.2.2.1 hR.2 q0 2 hq rfl hin hd ?_
  rw [hb]
  exact k p l e Rm s m args below meth c H locs Q ls hF hRm hl hn hR hS hE
theorem xV_aast {a n b : Nat} {i : Int32} (hd : decode Y.2.1 pc = .ok (.aastore, 1) ∧ pc + 1 = pc') (hs : xSh G T a = (6, n)) (hin : vp_in i n) (hb : (xSh G T b).1 = 0) (k : xV G Y Tb o pc' xl st T (xsr R a i.toNatClampNeg b) L I) : xV G Y Tb o pc xl (.ref b :: .int i :: .ref a :: st) T R L I := by
  obtain ⟨hd, rfl⟩ := hd
  intro p l e Rm s m args below meth c H locs Q ls hF hRm hl hn hR hS hE
  obtain ⟨q0, hq⟩ := xhasQ (R := R) (L := L) (I := I) hs
  obtain ⟨q1, hq1⟩ := xhas (R := R) (L := L) (I := I) hb (by decide)
  have ha : a ∈ xads G T := xsh_in (by simp [hs])
  have hq' : (va_pl (xads G T) (xE G T R L I))[q0]? = some (a, xE G T R L I a) := by rw [hq]; unfold xE; rw [hs]; rfl
  refine va_astq (A := xA G) (H0 := H) (r := (RX0, TX0, 12)) hF.1 hF.2.1 hF.2.2.2.2.2.2.2.2.1 hR.2 (xD_ok G T _) ⟨Nat.le_refl _, fun _ _ _ => rfl, hS.2.2⟩ q0 2 q1 0 hq rfl hq1 rfl hin hd (fun H1 locs1 hP1 hD1 hS1 => ?_)
  exact k p l e Rm s m args below meth c H1 locs1 Q ls hF hRm hl hn (xRp_set hR hS1.1 hq' ha hP1 (xE_stQ hs)) (xS_tr hS hS1) hE
theorem xV_near {idx : Nat} (hd : decode Y.2.1 pc = .ok (.getstatic idx, 3) ∧ pc + 3 = pc') (hw : Cond.fieldLink Y.1.cls idx RX2 "NEAR" "[I" ∈ xW) (k : xV G Y Tb o pc' xl (.ref G.2.2.2.1 :: st) T R L I) : xV G Y Tb o pc xl st T R L I := by
  obtain ⟨hd, rfl⟩ := hd
  exact fun p l e Rm s m args below meth c H locs Q ls hF hRm hl hn hR hS hE => va_gets hF.1 hF.2.1 hF.2.2.2.2.2.2.2.2.2.1 hS hF.2.2.2.1 (hF.2.2.2.2.1 _ hw) (fun _ h => h) hd (k p l e Rm s m args below meth c H locs Q ls hF hRm hl hn hR hS hE)
theorem xV_nearN {idx : Nat} {host : String} (hd : decode Y.2.1 pc = .ok (.getstatic idx, 3) ∧ pc + 3 = pc') (hw : Cond.fieldLinkNest Y.1.cls idx RX2 "NEAR" "[I" host ∈ xnest) (k : xV G Y Tb o pc' xl (.ref G.2.2.2.1 :: st) T R L I) : xV G Y Tb o pc xl st T R L I := by
  obtain ⟨hd, rfl⟩ := hd
  exact fun p l e Rm s m args below meth c H locs Q ls hF hRm hl hn hR hS hE => va_getsN hF.1 hF.2.1 hF.2.2.2.2.2.2.2.2.2.1 hS hF.2.2.2.1 (va_Nw.use rfl (hF.2.2.2.2.2.2.2.2.2.2.2.2.1 _ hw)) (fun _ h => h) hd (k p l e Rm s m args below meth c H locs Q ls hF hRm hl hn hR hS hE)
/-- arraycopy between two int rows -/
theorem xV_acopy {a0 a n0 n1 idx : Nat} {sp dp n : Int32} (hd : decode Y.2.1 pc = .ok (.invokestatic idx, 3) ∧ pc + 3 = pc') (hw : Cond.methodLink Y.1.cls idx arraycopyName ∈ xW ∧ Cond.static arraycopyName ∈ xW ∧ Cond.initialized "java/lang/System" ∈ xW) (hnat : Cond.native arraycopyName ∈ xW) (hs0 : xSh G T a0 = (4, n0)) (hs1 : xSh G T a = (4, n1))
    (h1 : ¬ sp < 0) (h2 : ¬ dp < 0) (h3 : ¬ n < 0) (h4 : sp.toNatClampNeg + n.toNatClampNeg ≤ n0) (h5 : dp.toNatClampNeg + n.toNatClampNeg ≤ n1) (hfr : 1 ≤ Y.2.2.2.2.1) (hlo : (st.map fun v => v.category).sum + (nativeFrameWords "java/lang/System" "arraycopy" 5 + 11) ≤ Y.2.2.2.2.2)
    (k : xV G Y Tb o pc' xl st T R L (va_up I a (va_cpy (I a0) (I a) sp.toNatClampNeg dp.toNatClampNeg n.toNatClampNeg))) : xV G Y Tb o pc xl (.int n :: .int dp :: .ref a :: .int sp :: .ref a0 :: st) T R L I := by
  obtain ⟨hd, rfl⟩ := hd
  intro p l e Rm s m args below meth c H locs Q ls hF hRm hl hn hR hS hE
  obtain ⟨q0, hq0⟩ := xhasA (R := R) (L := L) (I := I) hs0
  obtain ⟨q1, hq1⟩ := xhasA (R := R) (L := L) (I := I) hs1
  have ha : a ∈ xads G T := xsh_in (by simp [hs1])
  have hq' : (va_pl (xads G T) (xE G T R L I))[q1]? = some (a, xE G T R L I a) := by rw [hq1]; unfold xE; rw [hs1]; rfl
  refine va_copyi (A := xA G) (H0 := H) (ty := .int) hF.1 hF.2.1 (hF.2.2.1.trans hl.1.symm) hF.2.2.2.1 (hF.2.2.2.2.1 _ hw.1) (hF.2.2.2.2.1 _ hnat) (hF.2.2.2.2.1 _ hw.2.1) (hF.2.2.2.2.1 _ hw.2.2) hF.2.2.2.2.2.2.2.2.1 hR.2 (xD_ok G T _) ⟨Nat.le_refl _, fun _ _ _ => rfl, hS.2.2⟩ q0 q1 0 0 hq0 hq1 rfl rfl rfl h1 h2 h3 h4 h5 (fun _ _ => rfl) (by rw [hRm.1]; exact hfr) (by rw [hRm.2.1]; exact hlo) hd (fun H1 locs1 hP1 hD1 hS1 => ?_)
  refine k p l e Rm s m args below meth c H1 locs1 Q ls hF hRm hl hn (xRp_set hR hS1.1 hq' ha hP1 (fun b => ?_)) (xS_tr hS hS1) hE
  by_cases hb : b = a
  · subst hb
    simp only [va_up, if_true, xE, hs1, xmk]
  · simp [va_up, hb, xE]
end XR
