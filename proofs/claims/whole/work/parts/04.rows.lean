section FR
variable {Γ : fx_G} {μ : fx_MD} {d n0 n1 n : Nat} {post : Option Value → fx_M → Prop} {m : fx_M} {pc : Nat} {lv : List (Option Value)} {st : List Value}
theorem e_iconst {z : Int} {v : Int32} (hd : decode μ.2.1 pc = .ok (.iconst z, 1)) (hv : Int32.ofInt z = v) (kk : fx_E Γ μ d n0 n1 post n m (pc + 1) lv (.int v :: st)) : fx_E Γ μ d n0 n1 post n m (pc) lv (st) := by
  intro p l e R s mid args below meth c H locs Q ls hX hH hz hS hl hn hK
  exact lv_iconst hX.1 hX.2.1 hd hv (kk p l e R s mid args below meth c H locs Q ls hX hH hz hS hl hn hK)
theorem e_bipush {z : Int} {v : Int32} (hd : decode μ.2.1 pc = .ok (.bipush z, 2)) (hv : (Int8.ofInt z).toInt32 = v) (kk : fx_E Γ μ d n0 n1 post n m (pc + 2) lv (.int v :: st)) : fx_E Γ μ d n0 n1 post n m (pc) lv (st) := by
  intro p l e R s mid args below meth c H locs Q ls hX hH hz hS hl hn hK
  exact lv_bipush hX.1 hX.2.1 hd hv (kk p l e R s mid args below meth c H locs Q ls hX hH hz hS hl hn hK)
theorem e_sipush {z : Int} {v : Int32} (hd : decode μ.2.1 pc = .ok (.sipush z, 3)) (hv : (Int16.ofInt z).toInt32 = v) (kk : fx_E Γ μ d n0 n1 post n m (pc + 3) lv (.int v :: st)) : fx_E Γ μ d n0 n1 post n m (pc) lv (st) := by
  intro p l e R s mid args below meth c H locs Q ls hX hH hz hS hl hn hK
  exact lv_sipush hX.1 hX.2.1 hd hv (kk p l e R s mid args below meth c H locs Q ls hX hH hz hS hl hn hK)
theorem e_lconst {z : Fin 2} {v : Int64} (hd : decode μ.2.1 pc = .ok (.lconst z, 1)) (hv : Int64.ofNat (z : Nat) = v) (kk : fx_E Γ μ d n0 n1 post n m (pc + 1) lv (.long v :: st)) : fx_E Γ μ d n0 n1 post n m (pc) lv (st) := by
  intro p l e R s mid args below meth c H locs Q ls hX hH hz hS hl hn hK
  exact lv_lconst hX.1 hX.2.1 hd hv (kk p l e R s mid args below meth c H locs Q ls hX hH hz hS hl hn hK)
theorem e_null  (hd : decode μ.2.1 pc = .ok (.aconst_null, 1))  (kk : fx_E Γ μ d n0 n1 post n m (pc + 1) lv (.null :: st)) : fx_E Γ μ d n0 n1 post n m (pc) lv (st) := by
  intro p l e R s mid args below meth c H locs Q ls hX hH hz hS hl hn hK
  exact lv_null hX.1 hX.2.1 hd  (kk p l e R s mid args below meth c H locs Q ls hX hH hz hS hl hn hK)
theorem e_iload_n {j : Fin 4} {x : Int32} (hd : decode μ.2.1 pc = .ok (.iload_n j, 1)) (hv : lv[(j : Nat)]? = some (some (.int x))) (kk : fx_E Γ μ d n0 n1 post n m (pc + 1) lv (.int x :: st)) : fx_E Γ μ d n0 n1 post n m (pc) lv (st) := by
  intro p l e R s mid args below meth c H locs Q ls hX hH hz hS hl hn hK
  exact lv_iload_n hX.1 hX.2.1 hd rfl (hl.at hv) (kk p l e R s mid args below meth c H locs Q ls hX hH hz hS hl hn hK)
theorem e_iload {j : Nat} {x : Int32} (hd : decode μ.2.1 pc = .ok (.iload j, 2)) (hv : lv[j]? = some (some (.int x))) (kk : fx_E Γ μ d n0 n1 post n m (pc + 2) lv (.int x :: st)) : fx_E Γ μ d n0 n1 post n m (pc) lv (st) := by
  intro p l e R s mid args below meth c H locs Q ls hX hH hz hS hl hn hK
  exact lv_iload hX.1 hX.2.1 hd (hl.at hv) (kk p l e R s mid args below meth c H locs Q ls hX hH hz hS hl hn hK)
theorem e_lload_n {j : Fin 4} {x : Int64} (hd : decode μ.2.1 pc = .ok (.lload_n j, 1)) (hv : lv[(j : Nat)]? = some (some (.long x))) (kk : fx_E Γ μ d n0 n1 post n m (pc + 1) lv (.long x :: st)) : fx_E Γ μ d n0 n1 post n m (pc) lv (st) := by
  intro p l e R s mid args below meth c H locs Q ls hX hH hz hS hl hn hK
  exact lv_lload_n hX.1 hX.2.1 hd rfl (hl.at hv) (kk p l e R s mid args below meth c H locs Q ls hX hH hz hS hl hn hK)
theorem e_lload {j : Nat} {x : Int64} (hd : decode μ.2.1 pc = .ok (.lload j, 2)) (hv : lv[j]? = some (some (.long x))) (kk : fx_E Γ μ d n0 n1 post n m (pc + 2) lv (.long x :: st)) : fx_E Γ μ d n0 n1 post n m (pc) lv (st) := by
  intro p l e R s mid args below meth c H locs Q ls hX hH hz hS hl hn hK
  exact lv_lload hX.1 hX.2.1 hd (hl.at hv) (kk p l e R s mid args below meth c H locs Q ls hX hH hz hS hl hn hK)
theorem e_aload_n {j : Fin 4} {x : Nat} (hd : decode μ.2.1 pc = .ok (.aload_n j, 1)) (hv : lv[(j : Nat)]? = some (some (.ref x))) (kk : fx_E Γ μ d n0 n1 post n m (pc + 1) lv (.ref x :: st)) : fx_E Γ μ d n0 n1 post n m (pc) lv (st) := by
  intro p l e R s mid args below meth c H locs Q ls hX hH hz hS hl hn hK
  exact lv_aload_n hX.1 hX.2.1 hd rfl (hl.at hv) (kk p l e R s mid args below meth c H locs Q ls hX hH hz hS hl hn hK)
theorem e_aload {j : Nat} {x : Nat} (hd : decode μ.2.1 pc = .ok (.aload j, 2)) (hv : lv[j]? = some (some (.ref x))) (kk : fx_E Γ μ d n0 n1 post n m (pc + 2) lv (.ref x :: st)) : fx_E Γ μ d n0 n1 post n m (pc) lv (st) := by
  intro p l e R s mid args below meth c H locs Q ls hX hH hz hS hl hn hK
  exact lv_aload hX.1 hX.2.1 hd (hl.at hv) (kk p l e R s mid args below meth c H locs Q ls hX hH hz hS hl hn hK)
theorem e_istore_n {j : Fin 4} {x : Int32} (hd : decode μ.2.1 pc = .ok (.istore_n j, 1)) (hj : (j : Nat) < μ.2.2.1) (ho : fx_ok lv (j : Nat) = true) (kk : fx_E Γ μ d n0 n1 post n m (pc + 1) (lv.set (j : Nat) (some (.int x))) (st)) : fx_E Γ μ d n0 n1 post n m (pc) lv (.int x :: st) := by
  intro p l e R s mid args below meth c H locs Q ls hX hH hz hS hl hn hK
  exact lv_istore_n hX.1 hX.2.1 hd rfl hl hj rfl (fun ls hl => kk p l e R s mid args below meth c H locs Q ls hX hH hz hS (fx_st1 ho hl) hn hK)
theorem e_istore {j : Nat} {x : Int32} (hd : decode μ.2.1 pc = .ok (.istore j, 2)) (hj : j < μ.2.2.1) (ho : fx_ok lv j = true) (kk : fx_E Γ μ d n0 n1 post n m (pc + 2) (lv.set j (some (.int x))) (st)) : fx_E Γ μ d n0 n1 post n m (pc) lv (.int x :: st) := by
  intro p l e R s mid args below meth c H locs Q ls hX hH hz hS hl hn hK
  exact lv_istore hX.1 hX.2.1 hd hl hj rfl (fun ls hl => kk p l e R s mid args below meth c H locs Q ls hX hH hz hS (fx_st1 ho hl) hn hK)
theorem e_astore_n {j : Fin 4} {x : Nat} (hd : decode μ.2.1 pc = .ok (.astore_n j, 1)) (hj : (j : Nat) < μ.2.2.1) (ho : fx_ok lv (j : Nat) = true) (kk : fx_E Γ μ d n0 n1 post n m (pc + 1) (lv.set (j : Nat) (some (.ref x))) (st)) : fx_E Γ μ d n0 n1 post n m (pc) lv (.ref x :: st) := by
  intro p l e R s mid args below meth c H locs Q ls hX hH hz hS hl hn hK
  exact lv_astore_n hX.1 hX.2.1 hd rfl hl hj rfl (fun ls hl => kk p l e R s mid args below meth c H locs Q ls hX hH hz hS (fx_st1 ho hl) hn hK)
theorem e_astore {j : Nat} {x : Nat} (hd : decode μ.2.1 pc = .ok (.astore j, 2)) (hj : j < μ.2.2.1) (ho : fx_ok lv j = true) (kk : fx_E Γ μ d n0 n1 post n m (pc + 2) (lv.set j (some (.ref x))) (st)) : fx_E Γ μ d n0 n1 post n m (pc) lv (.ref x :: st) := by
  intro p l e R s mid args below meth c H locs Q ls hX hH hz hS hl hn hK
  exact lv_astore hX.1 hX.2.1 hd hl hj rfl (fun ls hl => kk p l e R s mid args below meth c H locs Q ls hX hH hz hS (fx_st1 ho hl) hn hK)
theorem e_lstore {j : Nat} {x : Int64} (hd : decode μ.2.1 pc = .ok (.lstore j, 2)) (hj : j + 1 < μ.2.2.1) (ho : fx_ok lv j = true) (kk : fx_E Γ μ d n0 n1 post n m (pc + 2) ((lv.set j (some (.long x))).set (j + 1) none) (st)) : fx_E Γ μ d n0 n1 post n m (pc) lv (.long x :: st) := by
  intro p l e R s mid args below meth c H locs Q ls hX hH hz hS hl hn hK
  exact lv_lstore hX.1 hX.2.1 hd hl hj rfl (fun ls hl => kk p l e R s mid args below meth c H locs Q ls hX hH hz hS (fx_st2 ho hl) hn hK)
theorem e_iinc {j : Nat} {z : Int} {x v : Int32} (hd : decode μ.2.1 pc = .ok (.iinc j z, 3)) (hx : lv[j]? = some (some (.int x))) (hv : x + Int32.ofInt z = v) (hj : j < μ.2.2.1) (ho : fx_ok lv j = true) (kk : fx_E Γ μ d n0 n1 post n m (pc + 3) (lv.set j (some (.int v))) (st)) : fx_E Γ μ d n0 n1 post n m (pc) lv (st) := by
  intro p l e R s mid args below meth c H locs Q ls hX hH hz hS hl hn hK
  obtain ⟨i, hi⟩ := List.getElem?_of_mem ((fx_al_mem lv 0 j (.int x)).mpr ⟨j, by omega, hx⟩)
  exact lv_iinc hX.1 hX.2.1 hd hl hi hv hj rfl (fun ls hl => kk p l e R s mid args below meth c H locs Q ls hX hH hz hS (fx_st1 ho hl) hn hK)
theorem e_iadd {x y : Int32} (hd : decode μ.2.1 pc = .ok (.iadd, 1))  (kk : fx_E Γ μ d n0 n1 post n m (pc + 1) lv (.int (x + y) :: st)) : fx_E Γ μ d n0 n1 post n m (pc) lv (.int y :: .int x :: st) := by
  intro p l e R s mid args below meth c H locs Q ls hX hH hz hS hl hn hK
  exact lv_iadd hX.1 hX.2.1 hd  (kk p l e R s mid args below meth c H locs Q ls hX hH hz hS hl hn hK)
theorem e_isub {x y : Int32} (hd : decode μ.2.1 pc = .ok (.isub, 1))  (kk : fx_E Γ μ d n0 n1 post n m (pc + 1) lv (.int (x - y) :: st)) : fx_E Γ μ d n0 n1 post n m (pc) lv (.int y :: .int x :: st) := by
  intro p l e R s mid args below meth c H locs Q ls hX hH hz hS hl hn hK
  exact lv_isub hX.1 hX.2.1 hd  (kk p l e R s mid args below meth c H locs Q ls hX hH hz hS hl hn hK)
theorem e_imul {x y : Int32} (hd : decode μ.2.1 pc = .ok (.imul, 1))  (kk : fx_E Γ μ d n0 n1 post n m (pc + 1) lv (.int (x * y) :: st)) : fx_E Γ μ d n0 n1 post n m (pc) lv (.int y :: .int x :: st) := by
  intro p l e R s mid args below meth c H locs Q ls hX hH hz hS hl hn hK
  exact lv_imul hX.1 hX.2.1 hd  (kk p l e R s mid args below meth c H locs Q ls hX hH hz hS hl hn hK)
theorem e_iand {x y : Int32} (hd : decode μ.2.1 pc = .ok (.iand, 1))  (kk : fx_E Γ μ d n0 n1 post n m (pc + 1) lv (.int (x &&& y) :: st)) : fx_E Γ μ d n0 n1 post n m (pc) lv (.int y :: .int x :: st) := by
  intro p l e R s mid args below meth c H locs Q ls hX hH hz hS hl hn hK
  exact lv_iand hX.1 hX.2.1 hd  (kk p l e R s mid args below meth c H locs Q ls hX hH hz hS hl hn hK)
theorem e_ior {x y : Int32} (hd : decode μ.2.1 pc = .ok (.ior, 1))  (kk : fx_E Γ μ d n0 n1 post n m (pc + 1) lv (.int (x ||| y) :: st)) : fx_E Γ μ d n0 n1 post n m (pc) lv (.int y :: .int x :: st) := by
  intro p l e R s mid args below meth c H locs Q ls hX hH hz hS hl hn hK
  exact lv_ior hX.1 hX.2.1 hd  (kk p l e R s mid args below meth c H locs Q ls hX hH hz hS hl hn hK)
theorem e_ixor {x y : Int32} (hd : decode μ.2.1 pc = .ok (.ixor, 1))  (kk : fx_E Γ μ d n0 n1 post n m (pc + 1) lv (.int (x ^^^ y) :: st)) : fx_E Γ μ d n0 n1 post n m (pc) lv (.int y :: .int x :: st) := by
  intro p l e R s mid args below meth c H locs Q ls hX hH hz hS hl hn hK
  exact lv_ixor hX.1 hX.2.1 hd  (kk p l e R s mid args below meth c H locs Q ls hX hH hz hS hl hn hK)
theorem e_ishl {x y : Int32} (hd : decode μ.2.1 pc = .ok (.ishl, 1))  (kk : fx_E Γ μ d n0 n1 post n m (pc + 1) lv (.int (x <<< (y &&& 31)) :: st)) : fx_E Γ μ d n0 n1 post n m (pc) lv (.int y :: .int x :: st) := by
  intro p l e R s mid args below meth c H locs Q ls hX hH hz hS hl hn hK
  exact lv_ishl hX.1 hX.2.1 hd  (kk p l e R s mid args below meth c H locs Q ls hX hH hz hS hl hn hK)
theorem e_ishr {x y : Int32} (hd : decode μ.2.1 pc = .ok (.ishr, 1))  (kk : fx_E Γ μ d n0 n1 post n m (pc + 1) lv (.int (x >>> (y &&& 31)) :: st)) : fx_E Γ μ d n0 n1 post n m (pc) lv (.int y :: .int x :: st) := by
  intro p l e R s mid args below meth c H locs Q ls hX hH hz hS hl hn hK
  exact lv_ishr hX.1 hX.2.1 hd  (kk p l e R s mid args below meth c H locs Q ls hX hH hz hS hl hn hK)
theorem e_idiv {x y : Int32} (hd : decode μ.2.1 pc = .ok (.idiv, 1)) (hy : ¬ y = 0) (kk : fx_E Γ μ d n0 n1 post n m (pc + 1) lv (.int (x / y) :: st)) : fx_E Γ μ d n0 n1 post n m (pc) lv (.int y :: .int x :: st) := by
  intro p l e R s mid args below meth c H locs Q ls hX hH hz hS hl hn hK
  exact lv_idiv hX.1 hX.2.1 hd hy (kk p l e R s mid args below meth c H locs Q ls hX hH hz hS hl hn hK)
theorem e_irem {x y : Int32} (hd : decode μ.2.1 pc = .ok (.irem, 1)) (hy : ¬ y = 0) (kk : fx_E Γ μ d n0 n1 post n m (pc + 1) lv (.int (x - x / y * y) :: st)) : fx_E Γ μ d n0 n1 post n m (pc) lv (.int y :: .int x :: st) := by
  intro p l e R s mid args below meth c H locs Q ls hX hH hz hS hl hn hK
  exact lv_irem hX.1 hX.2.1 hd hy (kk p l e R s mid args below meth c H locs Q ls hX hH hz hS hl hn hK)
theorem e_iushr {x y : Int32} (hd : decode μ.2.1 pc = .ok (.iushr, 1))  (kk : fx_E Γ μ d n0 n1 post n m (pc + 1) lv (.int ((x.toUInt32 >>> (y.toUInt32 &&& Int32.toUInt32 31)).toInt32) :: st)) : fx_E Γ μ d n0 n1 post n m (pc) lv (.int y :: .int x :: st) := by
  intro p l e R s mid args below meth c H locs Q ls hX hH hz hS hl hn hK
  exact lv_iushr hX.1 hX.2.1 hd rfl (kk p l e R s mid args below meth c H locs Q ls hX hH hz hS hl hn hK)
theorem e_ineg {x : Int32} (hd : decode μ.2.1 pc = .ok (.ineg, 1))  (kk : fx_E Γ μ d n0 n1 post n m (pc + 1) lv (.int (-x) :: st)) : fx_E Γ μ d n0 n1 post n m (pc) lv (.int x :: st) := by
  intro p l e R s mid args below meth c H locs Q ls hX hH hz hS hl hn hK
  exact lv_ineg hX.1 hX.2.1 hd  (kk p l e R s mid args below meth c H locs Q ls hX hH hz hS hl hn hK)
theorem e_i2b {x : Int32} (hd : decode μ.2.1 pc = .ok (.i2b, 1))  (kk : fx_E Γ μ d n0 n1 post n m (pc + 1) lv (.int x.toInt8.toInt32 :: st)) : fx_E Γ μ d n0 n1 post n m (pc) lv (.int x :: st) := by
  intro p l e R s mid args below meth c H locs Q ls hX hH hz hS hl hn hK
  exact lv_i2b hX.1 hX.2.1 hd rfl (kk p l e R s mid args below meth c H locs Q ls hX hH hz hS hl hn hK)
theorem e_i2s {x : Int32} (hd : decode μ.2.1 pc = .ok (.i2s, 1))  (kk : fx_E Γ μ d n0 n1 post n m (pc + 1) lv (.int x.toInt16.toInt32 :: st)) : fx_E Γ μ d n0 n1 post n m (pc) lv (.int x :: st) := by
  intro p l e R s mid args below meth c H locs Q ls hX hH hz hS hl hn hK
  exact lv_i2s hX.1 hX.2.1 hd rfl (kk p l e R s mid args below meth c H locs Q ls hX hH hz hS hl hn hK)
theorem e_l2i {x : Int64} (hd : decode μ.2.1 pc = .ok (.l2i, 1))  (kk : fx_E Γ μ d n0 n1 post n m (pc + 1) lv (.int x.toInt32 :: st)) : fx_E Γ μ d n0 n1 post n m (pc) lv (.long x :: st) := by
  intro p l e R s mid args below meth c H locs Q ls hX hH hz hS hl hn hK
  exact lv_l2i hX.1 hX.2.1 hd rfl (kk p l e R s mid args below meth c H locs Q ls hX hH hz hS hl hn hK)
theorem e_i2l {x : Int32} (hd : decode μ.2.1 pc = .ok (.i2l, 1))  (kk : fx_E Γ μ d n0 n1 post n m (pc + 1) lv (.long x.toInt64 :: st)) : fx_E Γ μ d n0 n1 post n m (pc) lv (.int x :: st) := by
  intro p l e R s mid args below meth c H locs Q ls hX hH hz hS hl hn hK
  exact lv_i2l hX.1 hX.2.1 hd rfl (kk p l e R s mid args below meth c H locs Q ls hX hH hz hS hl hn hK)
theorem e_lshl {x : Int64} {y : Int32} (hd : decode μ.2.1 pc = .ok (.lshl, 1))  (kk : fx_E Γ μ d n0 n1 post n m (pc + 1) lv (.long (x <<< (y.toInt64 &&& 63)) :: st)) : fx_E Γ μ d n0 n1 post n m (pc) lv (.int y :: .long x :: st) := by
  intro p l e R s mid args below meth c H locs Q ls hX hH hz hS hl hn hK
  exact lv_lshl hX.1 hX.2.1 hd rfl (kk p l e R s mid args below meth c H locs Q ls hX hH hz hS hl hn hK)
theorem e_lor {x y : Int64} (hd : decode μ.2.1 pc = .ok (.lor, 1))  (kk : fx_E Γ μ d n0 n1 post n m (pc + 1) lv (.long (x ||| y) :: st)) : fx_E Γ μ d n0 n1 post n m (pc) lv (.long y :: .long x :: st) := by
  intro p l e R s mid args below meth c H locs Q ls hX hH hz hS hl hn hK
  exact lv_lor hX.1 hX.2.1 hd  (kk p l e R s mid args below meth c H locs Q ls hX hH hz hS hl hn hK)
theorem e_land {x y : Int64} (hd : decode μ.2.1 pc = .ok (.land, 1))  (kk : fx_E Γ μ d n0 n1 post n m (pc + 1) lv (.long (x &&& y) :: st)) : fx_E Γ μ d n0 n1 post n m (pc) lv (.long y :: .long x :: st) := by
  intro p l e R s mid args below meth c H locs Q ls hX hH hz hS hl hn hK
  exact lv_land hX.1 hX.2.1 hd  (kk p l e R s mid args below meth c H locs Q ls hX hH hz hS hl hn hK)
theorem e_dup {v : Value} (hd : decode μ.2.1 pc = .ok (.dup, 1)) (hv : v.category = 1) (kk : fx_E Γ μ d n0 n1 post n m (pc + 1) lv (v :: v :: st)) : fx_E Γ μ d n0 n1 post n m (pc) lv (v :: st) := by
  intro p l e R s mid args below meth c H locs Q ls hX hH hz hS hl hn hK
  exact lv_dup hX.1 hX.2.1 hd hv (kk p l e R s mid args below meth c H locs Q ls hX hH hz hS hl hn hK)
theorem e_dup_x1 {v v2 : Value} (hd : decode μ.2.1 pc = .ok (.dup_x1, 1)) (hv : v.category = 1) (hv2 : v2.category = 1) (kk : fx_E Γ μ d n0 n1 post n m (pc + 1) lv (v :: v2 :: v :: st)) : fx_E Γ μ d n0 n1 post n m (pc) lv (v :: v2 :: st) := by
  intro p l e R s mid args below meth c H locs Q ls hX hH hz hS hl hn hK
  exact lv_dup_x1 hX.1 hX.2.1 hd hv hv2 (kk p l e R s mid args below meth c H locs Q ls hX hH hz hS hl hn hK)
theorem e_dup2 {v v2 : Value} (hd : decode μ.2.1 pc = .ok (.dup2, 1)) (hv : v.category = 1) (hv2 : v2.category = 1) (kk : fx_E Γ μ d n0 n1 post n m (pc + 1) lv (v :: v2 :: v :: v2 :: st)) : fx_E Γ μ d n0 n1 post n m (pc) lv (v :: v2 :: st) := by
  intro p l e R s mid args below meth c H locs Q ls hX hH hz hS hl hn hK
  exact lv_dup2_11 hX.1 hX.2.1 hd hv hv2 (kk p l e R s mid args below meth c H locs Q ls hX hH hz hS hl hn hK)
theorem e_pop {v : Value} (hd : decode μ.2.1 pc = .ok (.pop, 1)) (hv : v.category = 1) (kk : fx_E Γ μ d n0 n1 post n m (pc + 1) lv (st)) : fx_E Γ μ d n0 n1 post n m (pc) lv (v :: st) := by
  intro p l e R s mid args below meth c H locs Q ls hX hH hz hS hl hn hK
  exact lv_pop hX.1 hX.2.1 hd hv (kk p l e R s mid args below meth c H locs Q ls hX hH hz hS hl hn hK)
theorem e_goto {off : Int} (tgt : Nat) (hd : decode μ.2.1 pc = .ok (.goto off, 3)) (ht : (pc : Int) + off = (tgt : Int)) (kk : fx_E Γ μ d n0 n1 post n m (tgt) lv (st)) : fx_E Γ μ d n0 n1 post n m (pc) lv (st) := by
  intro p l e R s mid args below meth c H locs Q ls hX hH hz hS hl hn hK
  exact lv_goto hX.1 hX.2.1 hd ht (kk p l e R s mid args below meth c H locs Q ls hX hH hz hS hl hn hK)
theorem e_if_eq {x : Int32} {off : Int} (tgt : Nat) (hd : decode μ.2.1 pc = .ok (.ifCond .eq off, 3)) (ht : (pc : Int) + off = (tgt : Int)) (kt : x = 0 → fx_E Γ μ d n0 n1 post n m (tgt) lv (st)) (kf : ¬ x = 0 → fx_E Γ μ d n0 n1 post n m (pc + 3) lv (st)) : fx_E Γ μ d n0 n1 post n m (pc) lv (.int x :: st) := by
  intro p l e R s mid args below meth c H locs Q ls hX hH hz hS hl hn hK
  exact lv_if_eq hX.1 hX.2.1 hd ht (fun h => kt h p l e R s mid args below meth c H locs Q ls hX hH hz hS hl hn hK) (fun h => kf h p l e R s mid args below meth c H locs Q ls hX hH hz hS hl hn hK)
theorem e_icmp_eq {x y : Int32} {off : Int} (tgt : Nat) (hd : decode μ.2.1 pc = .ok (.if_icmp .eq off, 3)) (ht : (pc : Int) + off = (tgt : Int)) (kt : x = y → fx_E Γ μ d n0 n1 post n m (tgt) lv (st)) (kf : ¬ x = y → fx_E Γ μ d n0 n1 post n m (pc + 3) lv (st)) : fx_E Γ μ d n0 n1 post n m (pc) lv (.int y :: .int x :: st) := by
  intro p l e R s mid args below meth c H locs Q ls hX hH hz hS hl hn hK
  exact lv_icmp_eq hX.1 hX.2.1 hd ht (fun h => kt h p l e R s mid args below meth c H locs Q ls hX hH hz hS hl hn hK) (fun h => kf h p l e R s mid args below meth c H locs Q ls hX hH hz hS hl hn hK)
theorem e_if_ne {x : Int32} {off : Int} (tgt : Nat) (hd : decode μ.2.1 pc = .ok (.ifCond .ne off, 3)) (ht : (pc : Int) + off = (tgt : Int)) (kt : ¬ x = 0 → fx_E Γ μ d n0 n1 post n m (tgt) lv (st)) (kf : x = 0 → fx_E Γ μ d n0 n1 post n m (pc + 3) lv (st)) : fx_E Γ μ d n0 n1 post n m (pc) lv (.int x :: st) := by
  intro p l e R s mid args below meth c H locs Q ls hX hH hz hS hl hn hK
  exact lv_if_ne hX.1 hX.2.1 hd ht (fun h => kt h p l e R s mid args below meth c H locs Q ls hX hH hz hS hl hn hK) (fun h => kf h p l e R s mid args below meth c H locs Q ls hX hH hz hS hl hn hK)
theorem e_icmp_ne {x y : Int32} {off : Int} (tgt : Nat) (hd : decode μ.2.1 pc = .ok (.if_icmp .ne off, 3)) (ht : (pc : Int) + off = (tgt : Int)) (kt : ¬ x = y → fx_E Γ μ d n0 n1 post n m (tgt) lv (st)) (kf : x = y → fx_E Γ μ d n0 n1 post n m (pc + 3) lv (st)) : fx_E Γ μ d n0 n1 post n m (pc) lv (.int y :: .int x :: st) := by
  intro p l e R s mid args below meth c H locs Q ls hX hH hz hS hl hn hK
  exact lv_icmp_ne hX.1 hX.2.1 hd ht (fun h => kt h p l e R s mid args below meth c H locs Q ls hX hH hz hS hl hn hK) (fun h => kf h p l e R s mid args below meth c H locs Q ls hX hH hz hS hl hn hK)
theorem e_if_lt {x : Int32} {off : Int} (tgt : Nat) (hd : decode μ.2.1 pc = .ok (.ifCond .lt off, 3)) (ht : (pc : Int) + off = (tgt : Int)) (kt : x < 0 → fx_E Γ μ d n0 n1 post n m (tgt) lv (st)) (kf : ¬ x < 0 → fx_E Γ μ d n0 n1 post n m (pc + 3) lv (st)) : fx_E Γ μ d n0 n1 post n m (pc) lv (.int x :: st) := by
  intro p l e R s mid args below meth c H locs Q ls hX hH hz hS hl hn hK
  exact lv_if_lt hX.1 hX.2.1 hd ht (fun h => kt h p l e R s mid args below meth c H locs Q ls hX hH hz hS hl hn hK) (fun h => kf h p l e R s mid args below meth c H locs Q ls hX hH hz hS hl hn hK)
theorem e_icmp_lt {x y : Int32} {off : Int} (tgt : Nat) (hd : decode μ.2.1 pc = .ok (.if_icmp .lt off, 3)) (ht : (pc : Int) + off = (tgt : Int)) (kt : x < y → fx_E Γ μ d n0 n1 post n m (tgt) lv (st)) (kf : ¬ x < y → fx_E Γ μ d n0 n1 post n m (pc + 3) lv (st)) : fx_E Γ μ d n0 n1 post n m (pc) lv (.int y :: .int x :: st) := by
  intro p l e R s mid args below meth c H locs Q ls hX hH hz hS hl hn hK
  exact lv_icmp_lt hX.1 hX.2.1 hd ht (fun h => kt h p l e R s mid args below meth c H locs Q ls hX hH hz hS hl hn hK) (fun h => kf h p l e R s mid args below meth c H locs Q ls hX hH hz hS hl hn hK)
theorem e_if_ge {x : Int32} {off : Int} (tgt : Nat) (hd : decode μ.2.1 pc = .ok (.ifCond .ge off, 3)) (ht : (pc : Int) + off = (tgt : Int)) (kt : 0 ≤ x → fx_E Γ μ d n0 n1 post n m (tgt) lv (st)) (kf : ¬ 0 ≤ x → fx_E Γ μ d n0 n1 post n m (pc + 3) lv (st)) : fx_E Γ μ d n0 n1 post n m (pc) lv (.int x :: st) := by
  intro p l e R s mid args below meth c H locs Q ls hX hH hz hS hl hn hK
  exact lv_if_ge hX.1 hX.2.1 hd ht (fun h => kt h p l e R s mid args below meth c H locs Q ls hX hH hz hS hl hn hK) (fun h => kf h p l e R s mid args below meth c H locs Q ls hX hH hz hS hl hn hK)
theorem e_icmp_ge {x y : Int32} {off : Int} (tgt : Nat) (hd : decode μ.2.1 pc = .ok (.if_icmp .ge off, 3)) (ht : (pc : Int) + off = (tgt : Int)) (kt : y ≤ x → fx_E Γ μ d n0 n1 post n m (tgt) lv (st)) (kf : ¬ y ≤ x → fx_E Γ μ d n0 n1 post n m (pc + 3) lv (st)) : fx_E Γ μ d n0 n1 post n m (pc) lv (.int y :: .int x :: st) := by
  intro p l e R s mid args below meth c H locs Q ls hX hH hz hS hl hn hK
  exact lv_icmp_ge hX.1 hX.2.1 hd ht (fun h => kt h p l e R s mid args below meth c H locs Q ls hX hH hz hS hl hn hK) (fun h => kf h p l e R s mid args below meth c H locs Q ls hX hH hz hS hl hn hK)
theorem e_if_gt {x : Int32} {off : Int} (tgt : Nat) (hd : decode μ.2.1 pc = .ok (.ifCond .gt off, 3)) (ht : (pc : Int) + off = (tgt : Int)) (kt : 0 < x → fx_E Γ μ d n0 n1 post n m (tgt) lv (st)) (kf : ¬ 0 < x → fx_E Γ μ d n0 n1 post n m (pc + 3) lv (st)) : fx_E Γ μ d n0 n1 post n m (pc) lv (.int x :: st) := by
  intro p l e R s mid args below meth c H locs Q ls hX hH hz hS hl hn hK
  exact lv_if_gt hX.1 hX.2.1 hd ht (fun h => kt h p l e R s mid args below meth c H locs Q ls hX hH hz hS hl hn hK) (fun h => kf h p l e R s mid args below meth c H locs Q ls hX hH hz hS hl hn hK)
theorem e_icmp_gt {x y : Int32} {off : Int} (tgt : Nat) (hd : decode μ.2.1 pc = .ok (.if_icmp .gt off, 3)) (ht : (pc : Int) + off = (tgt : Int)) (kt : y < x → fx_E Γ μ d n0 n1 post n m (tgt) lv (st)) (kf : ¬ y < x → fx_E Γ μ d n0 n1 post n m (pc + 3) lv (st)) : fx_E Γ μ d n0 n1 post n m (pc) lv (.int y :: .int x :: st) := by
  intro p l e R s mid args below meth c H locs Q ls hX hH hz hS hl hn hK
  exact lv_icmp_gt hX.1 hX.2.1 hd ht (fun h => kt h p l e R s mid args below meth c H locs Q ls hX hH hz hS hl hn hK) (fun h => kf h p l e R s mid args below meth c H locs Q ls hX hH hz hS hl hn hK)
theorem e_if_le {x : Int32} {off : Int} (tgt : Nat) (hd : decode μ.2.1 pc = .ok (.ifCond .le off, 3)) (ht : (pc : Int) + off = (tgt : Int)) (kt : x ≤ 0 → fx_E Γ μ d n0 n1 post n m (tgt) lv (st)) (kf : ¬ x ≤ 0 → fx_E Γ μ d n0 n1 post n m (pc + 3) lv (st)) : fx_E Γ μ d n0 n1 post n m (pc) lv (.int x :: st) := by
  intro p l e R s mid args below meth c H locs Q ls hX hH hz hS hl hn hK
  exact lv_if_le hX.1 hX.2.1 hd ht (fun h => kt h p l e R s mid args below meth c H locs Q ls hX hH hz hS hl hn hK) (fun h => kf h p l e R s mid args below meth c H locs Q ls hX hH hz hS hl hn hK)
theorem e_icmp_le {x y : Int32} {off : Int} (tgt : Nat) (hd : decode μ.2.1 pc = .ok (.if_icmp .le off, 3)) (ht : (pc : Int) + off = (tgt : Int)) (kt : x ≤ y → fx_E Γ μ d n0 n1 post n m (tgt) lv (st)) (kf : ¬ x ≤ y → fx_E Γ μ d n0 n1 post n m (pc + 3) lv (st)) : fx_E Γ μ d n0 n1 post n m (pc) lv (.int y :: .int x :: st) := by
  intro p l e R s mid args below meth c H locs Q ls hX hH hz hS hl hn hK
  exact lv_icmp_le hX.1 hX.2.1 hd ht (fun h => kt h p l e R s mid args below meth c H locs Q ls hX hH hz hS hl hn hK) (fun h => kf h p l e R s mid args below meth c H locs Q ls hX hH hz hS hl hn hK)
theorem e_tableIn {dflt lo hi : Int} {offs : Array Int} {len : Nat} {x : Int32} {off : Int} (tgt : Nat) (hd : decode μ.2.1 pc = .ok (.tableswitch dflt lo hi offs, len)) (h1 : ¬ x.toInt < lo) (h2 : ¬ hi < x.toInt) (ho : offs[(x.toInt - lo).toNat]? = some off) (ht : (pc : Int) + off = (tgt : Int)) (kk : fx_E Γ μ d n0 n1 post n m (tgt) lv (st)) : fx_E Γ μ d n0 n1 post n m (pc) lv (.int x :: st) := by
  intro p l e R s mid args below meth c H locs Q ls hX hH hz hS hl hn hK
  exact lv_tableIn hX.1 hX.2.1 hd h1 h2 ho ht (kk p l e R s mid args below meth c H locs Q ls hX hH hz hS hl hn hK)
theorem e_tableOut {dflt lo hi : Int} {offs : Array Int} {len : Nat} {x : Int32} (tgt : Nat) (hd : decode μ.2.1 pc = .ok (.tableswitch dflt lo hi offs, len)) (h : x.toInt < lo ∨ hi < x.toInt) (ht : (pc : Int) + dflt = (tgt : Int)) (kk : fx_E Γ μ d n0 n1 post n m (tgt) lv (st)) : fx_E Γ μ d n0 n1 post n m (pc) lv (.int x :: st) := by
  intro p l e R s mid args below meth c H locs Q ls hX hH hz hS hl hn hK
  exact lv_tableOut hX.1 hX.2.1 hd h ht (kk p l e R s mid args below meth c H locs Q ls hX hH hz hS hl hn hK)
theorem e_lookup {dflt : Int} {ps : Array (Int × Int)} {len : Nat} {x : Int32} {off : Int} (tgt : Nat) (hd : decode μ.2.1 pc = .ok (.lookupswitch dflt ps, len)) (hp : (ps.toList.zip (ps.toList.drop 1)).all (fun (a, next) => a.1 < next.1) = true) (ho : Op.lookupswitch.offset ps.toList dflt x.toInt = off) (ht : (pc : Int) + off = (tgt : Int)) (kk : fx_E Γ μ d n0 n1 post n m (tgt) lv (st)) : fx_E Γ μ d n0 n1 post n m (pc) lv (.int x :: st) := by
  intro p l e R s mid args below meth c H locs Q ls hX hH hz hS hl hn hK
  exact lv_lookup hX.1 hX.2.1 hd hp ho ht (kk p l e R s mid args below meth c H locs Q ls hX hH hz hS hl hn hK)
theorem e_ldc {idx : Nat} {v : Int32} (hd : decode μ.2.1 pc = .ok (.ldc idx, 2)) (hc : Cond.constant μ.1.cls idx v ∈ fx_gw) (kk : fx_E Γ μ d n0 n1 post n m (pc + 2) lv (.int v :: st)) : fx_E Γ μ d n0 n1 post n m (pc) lv (st) := by
  intro p l e R s mid args below meth c H locs Q ls hX hH hz hS hl hn hK
  exact lv_ldc hX.1 hX.2.1 hX.2.2.2.1 (hX.2.2.2.2.1 _ hc) hd (kk p l e R s mid args below meth c H locs Q ls hX hH hz hS hl hn hK)
theorem e_ldc2 {idx : Nat} {v : Int64} (hd : decode μ.2.1 pc = .ok (.ldc2_w idx, 3)) (hc : Cond.constantLong μ.1.cls idx v ∈ fx_gw) (kk : fx_E Γ μ d n0 n1 post n m (pc + 3) lv (.long v :: st)) : fx_E Γ μ d n0 n1 post n m (pc) lv (st) := by
  intro p l e R s mid args below meth c H locs Q ls hX hH hz hS hl hn hK
  exact lv_ldc2 hX.1 hX.2.1 hX.2.2.2.1 (hX.2.2.2.2.1 _ hc) hd (kk p l e R s mid args below meth c H locs Q ls hX hH hz hS hl hn hK)
theorem e_lcw {idx : Nat} {v : Int32} (hd : decode μ.2.1 pc = .ok (.ldc_w idx, 3)) (hc : Cond.constant μ.1.cls idx v ∈ fx_gw) (kk : fx_E Γ μ d n0 n1 post n m (pc + 3) lv (.int v :: st)) : fx_E Γ μ d n0 n1 post n m (pc) lv (st) := by
  intro p l e R s mid args below meth c H locs Q ls hX hH hz hS hl hn hK
  exact lv_ldcw hX.1 hX.2.1 hX.2.2.2.1 (hX.2.2.2.2.1 _ hc) hd (kk p l e R s mid args below meth c H locs Q ls hX hH hz hS hl hn hK)
theorem e_iret {v : Int32} {ty : FieldType} (hd : decode μ.2.1 pc = .ok (.ireturn, 1)) (hn1 : n = n1) (ht : μ.2.2.2 = some ty) (hv : narrow ty (.int v) = .int v) (hp : post (some (.int v)) m) : fx_E Γ μ d n0 n1 post n m (pc) lv (.int v :: []) := by
  subst hn1
  intro p l e R s mid args below meth c H locs Q ls hX hH hz hS hl hn hK
  exact hK _ _ _ _ _ _ _ hp hH hz hS hd (Or.inl ⟨rfl, v, ty, rfl, ht, hv⟩)
theorem e_lret {v : Int64} (hd : decode μ.2.1 pc = .ok (.lreturn, 1)) (hn1 : n = n1) (ht : μ.2.2.2 = some .long) (hp : post (some (.long v)) m) : fx_E Γ μ d n0 n1 post n m (pc) lv (.long v :: []) := by
  subst hn1
  intro p l e R s mid args below meth c H locs Q ls hX hH hz hS hl hn hK
  exact hK _ _ _ _ _ _ _ hp hH hz hS hd (Or.inr (Or.inl ⟨rfl, v, rfl, ht⟩))
theorem e_vret (hd : decode μ.2.1 pc = .ok (.return_, 1)) (hn1 : n = n1) (ht : μ.2.2.2 = none) (hp : post none m) : fx_E Γ μ d n0 n1 post n m (pc) lv ([]) := by
  subst hn1
  intro p l e R s mid args below meth c H locs Q ls hX hH hz hS hl hn hK
  exact hK _ _ _ _ _ _ _ hp hH hz hS hd (Or.inr (Or.inr ⟨rfl, rfl, ht⟩))
theorem e_weak {lv2 : List (Option Value)} (hw : fx_wk lv lv2) (kk : fx_E Γ μ d n0 n1 post n m (pc) lv2 (st)) : fx_E Γ μ d n0 n1 post n m (pc) lv (st) := by
  intro p l e R s mid args below meth c H locs Q ls hX hH hz hS hl hn hK
  exact kk p l e R s mid args below meth c H locs Q ls hX hH hz hS (hl.wk hw) hn hK
theorem fx_E.mono {post2 : Option Value → fx_M → Prop} (hp : ∀ r m', post2 r m' → post r m') (kk : fx_E Γ μ d n0 n1 post2 n m pc lv st) : fx_E Γ μ d n0 n1 post n m pc lv st := by
  intro p l e R s mid args below meth c H locs Q ls hX hH hz hS hl hn hK
  exact kk p l e R s mid args below meth c H locs Q ls hX hH hz hS hl hn (fun r m' H' locs' pc' ls' ins h => hK r m' H' locs' pc' ls' ins (hp r m' h))
/-! classes and fields -/
def fx_Cl (C : String) (T : u_T) (N ci : Nat) (ty0 : Nat → FieldType) : Prop := vwCl[ci]? = some (C, T, N) ∧ (∀ w ∈ u_ws C T N, w ∈ fx_gw) ∧ (∀ k, k < N → parseFieldDescriptor (T k).2.2.1 = some (ty0 k)) ∧ (∀ a, a < N → ∀ b, b < N → a ≠ b → (T a).2.1 ≠ (T b).2.1) ∧ (∀ k, k < N → (T k).1 = C)
def fx_F (own : String) (idx ci k : Nat) (ty : FieldType) (fin : Bool) : Prop := ∃ (C : String) (T : u_T) (N : Nat) (ty0 : Nat → FieldType), fx_Cl C T N ci ty0 ∧ k < N ∧ Cond.fieldLink own idx (T k).1 (T k).2.1 (T k).2.2.1 ∈ fx_gw ∧ ty0 k = ty ∧ (T k).2.2.2 = fin
theorem fx_obj {o ci N : Nat} {H : Heap} (hH : fx_Hd Γ n m H) (ho : fx_pi o < n) (hs : fx_shapes[o]? = some (10 + ci, N)) : va_P Γ.2.1 vwCl [(Γ.1 + fx_pi o, .inr (ci, (List.range N).map (fx_fv Γ m ci o)))] H := by
  have h := hH o _ ho hs
  have e : fx_C Γ m o (10 + ci, N) = .inr (ci, (List.range N).map (fx_fv Γ m ci o)) := by
    have h0 : ¬ 10 + ci = 0 := by omega
    have h1 : ¬ 10 + ci = 1 := by omega
    have h2 : ¬ 10 + ci < 10 := by omega
    simp only [fx_C, h0, h1, h2, if_false]
    rw [show 10 + ci - 10 = ci by omega]
  rw [e] at h
  intro k q hk
  cases k with
  | zero => simp at hk; subst hk; exact h
  | succ k => simp at hk
theorem fx_get0 {own : String} {idx ci k o N : Nat} {ty : FieldType} {fin : Bool} {v : Value} (hd : decode μ.2.1 pc = .ok (.getfield idx, 3)) (hf : fx_F μ.1.cls idx ci k ty fin) (hs : fx_shapes[o]? = some (10 + ci, N)) (ho : fx_pi o < n) (hk : k < N) (hv : fx_fv Γ m ci o k = v) (kk : fx_E Γ μ d n0 n1 post n m (pc + 3) lv (v :: st)) : fx_E Γ μ d n0 n1 post n m (pc) lv (fx_rf Γ o :: st) := by
  intro p l e R s mid args below meth c H locs Q ls hX hH hz hS hl hn hK
  obtain ⟨C, T, N2, ty0, hcl, hkN, hlink, -⟩ := hf
  exact va_get (T := T) (N := N2) hX.1 hX.2.1 hX.2.2.2.2.1 hcl.2.1 hX.2.2.2.1 hX.2.2.2.2.2.1.1 (fx_obj hH ho hs) 0 rfl hcl.1 k hkN (hX.2.2.2.2.1 _ hlink) (fun _ h => h) (v := v) (by rw [List.getElem?_map, List.getElem?_range hk, ← hv]; rfl) hd (kk p l e R s mid args below meth c H locs Q ls hX hH hz hS hl hn hK)
/-- a field of an int type is read -/
theorem e_get {idx ci k o N : Nat} {ty : FieldType} {fin : Bool} (hd : decode μ.2.1 pc = .ok (.getfield idx, 3)) (hf : fx_F μ.1.cls idx ci k ty fin) (hs : fx_shapes[o]? = some (10 + ci, N)) (ho : fx_pi o < n) (hk : k < N) (hr : fx_ref ci k = false) (kk : fx_E Γ μ d n0 n1 post n m (pc + 3) lv (.int (m.1 o k) :: st)) : fx_E Γ μ d n0 n1 post n m (pc) lv (fx_rf Γ o :: st) :=
  fx_get0 (own := "") hd hf hs ho hk (by simp [fx_fv, hr]) kk
/-- a field that is a reference is read -/
theorem e_getr {idx ci k o o2 N : Nat} {ty : FieldType} {fin : Bool} (hd : decode μ.2.1 pc = .ok (.getfield idx, 3)) (hf : fx_F μ.1.cls idx ci k ty fin) (hs : fx_shapes[o]? = some (10 + ci, N)) (ho : fx_pi o < n) (hk : k < N) (hr : fx_ref ci k = true) (hv : m.2.2 o k = some o2) (kk : fx_E Γ μ d n0 n1 post n m (pc + 3) lv (fx_rf Γ o2 :: st)) : fx_E Γ μ d n0 n1 post n m (pc) lv (fx_rf Γ o :: st) :=
  fx_get0 (own := "") hd hf hs ho hk (by simp [fx_fv, hr, hv, va_rf]) kk
def fx_sI (m : fx_M) (o k : Nat) (v : Int32) : fx_M := (fun a b => if a = o then (if b = k then v else m.1 a b) else m.1 a b, m.2.1, m.2.2)
def fx_sJ (m : fx_M) (o k : Nat) (v : Int64) : fx_M := (m.1, fun a b => if a = o then (if b = k then v else m.2.1 a b) else m.2.1 a b, m.2.2)
def fx_sR (m : fx_M) (o k : Nat) (v : Option Nat) : fx_M := (m.1, m.2.1, fun a b => if a = o then (if b = k then v else m.2.2 a b) else m.2.2 a b)
theorem fx_C_sI {o o2 k : Nat} {v : Int32} {q : Nat × Nat} (h : o2 ≠ o) : fx_C Γ (fx_sI m o k v) o2 q = fx_C Γ m o2 q := by
  have e : (fx_sI m o k v).1 o2 = m.1 o2 := by funext b; simp [fx_sI, h]
  have e2 : fx_fv Γ (fx_sI m o k v) (q.1 - 10) o2 = fx_fv Γ m (q.1 - 10) o2 := by funext b; simp [fx_fv, fx_sI, h]
  unfold fx_C
  rw [e, e2]
  rfl
theorem fx_C_sJ {o o2 k : Nat} {v : Int64} {q : Nat × Nat} (h : o2 ≠ o) : fx_C Γ (fx_sJ m o k v) o2 q = fx_C Γ m o2 q := by
  have e : (fx_sJ m o k v).2.1 o2 = m.2.1 o2 := by funext b; simp [fx_sJ, h]
  unfold fx_C
  rw [e]
  rfl
theorem fx_C_sR {o o2 k : Nat} {v : Option Nat} {q : Nat × Nat} (h : o2 ≠ o) : fx_C Γ (fx_sR m o k v) o2 q = fx_C Γ m o2 q := by
  have e : (fx_sR m o k v).2.2 o2 = m.2.2 o2 := by funext b; simp [fx_sR, h]
  have e2 : fx_fv Γ (fx_sR m o k v) (q.1 - 10) o2 = fx_fv Γ m (q.1 - 10) o2 := by funext b; simp [fx_fv, fx_sR, h]
  unfold fx_C
  rw [e, e2]
  rfl
/-- one cell is written: the heap holds the new memory -/
theorem fx_Hd.put {m2 : fx_M} {H H1 : Heap} {o : Nat} {q : Nat × Nat} (hH : fx_Hd Γ n m H) (hs : fx_shapes[o]? = some q) (oq : ∀ a : Nat, a ≠ Γ.1 + fx_pi o → H1[a]? = H[a]?) (he : va_at Γ.2.1 vwCl (Γ.1 + fx_pi o, fx_C Γ m2 o q) H1) (hC : ∀ (o2 : Nat) (q2 : Nat × Nat), o2 ≠ o → fx_C Γ m2 o2 q2 = fx_C Γ m o2 q2) : fx_Hd Γ n m2 H1 := by
  intro o2 q2 ho2 hs2
  by_cases h : o2 = o
  · subst h
    cases hs.symm.trans hs2
    exact he
  · rw [hC o2 q2 h]
    exact (hH o2 q2 ho2 hs2).kept (oq _ (fun e => h (fx_pi_inj (Nat.add_left_cancel e))))
theorem fx_fv_obj {m2 : fx_M} {o ci k N : Nat} {v : Value} (hk : k < N) (h1 : fx_fv Γ m2 ci o k = v) (h2 : ∀ j, j ≠ k → fx_fv Γ m2 ci o j = fx_fv Γ m ci o j) : (List.range N).map (fx_fv Γ m2 ci o) = ((List.range N).map (fx_fv Γ m ci o)).set k v := by
  apply List.ext_getElem?
  intro i
  by_cases hi : i = k
  · subst hi
    rw [List.getElem?_set_self (by simpa using hk), List.getElem?_map, List.getElem?_range hk]
    simp [h1]
  · rw [List.getElem?_set_ne (Ne.symm hi), List.getElem?_map, List.getElem?_map]
    by_cases hN : i < N
    · rw [List.getElem?_range hN]; simp [h2 i hi]
    · simp [List.getElem?_eq_none, Nat.not_lt.mp hN]
theorem fx_C_obj {o ci N : Nat} : fx_C Γ m o (10 + ci, N) = .inr (ci, (List.range N).map (fx_fv Γ m ci o)) := by
  have h0 : ¬ 10 + ci = 0 := by omega
  have h1 : ¬ 10 + ci = 1 := by omega
  have h2 : ¬ 10 + ci < 10 := by omega
  simp only [fx_C, h0, h1, h2, if_false]
  rw [show 10 + ci - 10 = ci by omega]
theorem fx_put0 {m2 : fx_M} {idx ci k o N : Nat} {ty : FieldType} {fin : Bool} {v : Value} (hd : decode μ.2.1 pc = .ok (.putfield idx, 3)) (hf : fx_F μ.1.cls idx ci k ty fin) (hs : fx_shapes[o]? = some (10 + ci, N)) (ho : fx_pi o < n) (hk : k < N) (hfin : fin = false ∨ (μ.1.name = "<init>" ∧ (vwCl[ci]?).map (fun q => q.1) = some μ.1.cls)) (hnr : narrow ty v = v) (hfit : fits ty v = true)
    (h1 : fx_fv Γ m2 ci o k = v) (h2 : ∀ j, j ≠ k → fx_fv Γ m2 ci o j = fx_fv Γ m ci o j) (hC : ∀ (o2 : Nat) (q2 : Nat × Nat), o2 ≠ o → fx_C Γ m2 o2 q2 = fx_C Γ m o2 q2) (kk : fx_E Γ μ d n0 n1 post n m2 (pc + 3) lv (st)) : fx_E Γ μ d n0 n1 post n m (pc) lv (v :: fx_rf Γ o :: st) := by
  intro p l e R s mid args below meth c H locs Q ls hX hH hz hS hl hn hK
  obtain ⟨C, T, N2, ty0, ⟨hc, hin, hty, hnm, hdc0⟩, hkN, hlink, rfl, rfl⟩ := hf
  have hts := hX.2.2.2.2.1
  have hK0 := hX.2.2.2.2.2.1.1
  have hap := va_apart (own := "") hts hin ty0 hty hnm hK0 hc
  obtain ⟨r, g1, cell, q1, q2, q3, q4⟩ := fx_obj hH ho hs 0 _ rfl
  have hr : r = (C, T, N2) := Option.some.inj (g1.symm.trans hc)
  subst hr
  obtain ⟨hSl, hfc, kC, hkC, hkind⟩ := hK0.1 ci _ hc
  obtain ⟨cf, kf, fi, f, hi, hsl⟩ := hSl k hkN
  have hst := (u_facts hfc hkC (u_lays hts hin hkN) hi).1
  have fin2 : ∀ H' : Heap, H'[Γ.1 + fx_pi o]? = some (cell.setSlot f.slot v) → H'.size = H.size → (∀ q, q ≠ Γ.1 + fx_pi o → H'[q]? = H[q]?) → W p l e R s mid args below meth c H' (locs ++ [⟨Γ.1 + fx_pi o, f.slot⟩]) (n - n0) (fx_sl n - fx_sl n0) Q (F0 mid (pc + 3) ls st) := by
    intro H' e1 e2 e3
    refine kk p l e R s mid args below meth c H' _ Q ls hX (hH.put hs e3 ?_ hC) (fun h => by rw [e2]; exact hz h) (hS.put e2 e3 (Nat.le_add_right _ _)) hl hn hK
    rw [fx_C_obj, fx_fv_obj hk h1 h2]
    rw [hsl] at e1
    exact ⟨_, hc, t_OB.to (V := updV (vp_V ((List.range N).map (fx_fv Γ m ci o))) k v) ⟨_, e1, q2, q3, t_set q4 hap hkN v⟩ (fun j _ => vp_updV_set (by simpa using hk) v j)⟩
  have hlay := hts _ (hin _ (u_in_lay hkN))
  unfold u_lay at hlay
  by_cases hfn : (T k).2.2.2 = true
  · rw [if_pos hfn] at hlay
    have hfin2 := hfin.elim (fun h => absurd (hfn.symm.trans h) (by decide)) id
    have hdc : (T k).1 = μ.1.cls := by
      have h9 := hfin2.2
      rw [hc] at h9
      rw [hdc0 k hkN]
      exact Option.some.inj h9
    have hnm2 : μ.1.name = "<init>" := hfin2.1
    have hcf : mid.cls = cf := by
      obtain ⟨_, _, c', _, _, _, -, -, hf', -, -, -, hown2, -⟩ := Cond.laysFinal_spec hlay
      have e1 : c' = cf := by have := hi.symm.trans hf'; simp at this; exact this.1.symm
      rw [hdc] at hown2
      rw [← e1]; exact Option.some.inj (hX.2.2.2.1.symm.trans hown2)
    have h6 := u_fits hfc hkC hkind (Or.inr hlay) hi (hty k hkN) hnr hfit
    exact W.putFinK hX.1 hX.2.1 hX.2.2.2.1 (hts _ hlink) hi hst hcf (hX.2.2.2.2.2.2.1.trans hnm2) (by rw [q2]; exact h6) q1 q3 (by rw [hsl]; exact k2_hasslot (q4 k hkN)) rfl rfl hd fin2
  · rw [if_neg hfn] at hlay
    have h6 := u_store hfc hkC hkind hlay hi (hty k hkN) hnr hfit
    exact W.putK hX.1 hX.2.1 (f := f) ⟨hX.2.2.2.1, hts _ hlink, ⟨_, _, _, hi⟩, hst⟩ (by rw [q2]; exact h6) q1 q3 (by rw [hsl]; exact k2_hasslot (q4 k hkN)) rfl rfl hd fin2
theorem fx_fv_sI_ne {o ci k j : Nat} {v : Int32} (h : j ≠ k) : fx_fv Γ (fx_sI m o k v) ci o j = fx_fv Γ m ci o j := by simp [fx_fv, fx_sI, h]
theorem fx_fv_sR_ne {o ci k j : Nat} {v : Option Nat} (h : j ≠ k) : fx_fv Γ (fx_sR m o k v) ci o j = fx_fv Γ m ci o j := by simp [fx_fv, fx_sR, h]
/-- an int field is written -/
theorem e_put {idx ci k o N : Nat} {fin : Bool} {v : Int32} (hd : decode μ.2.1 pc = .ok (.putfield idx, 3)) (hf : fx_F μ.1.cls idx ci k .int fin) (hs : fx_shapes[o]? = some (10 + ci, N)) (ho : fx_pi o < n) (hk : k < N) (hr : fx_ref ci k = false) (hfin : fin = false ∨ (μ.1.name = "<init>" ∧ (vwCl[ci]?).map (fun q => q.1) = some μ.1.cls)) (kk : fx_E Γ μ d n0 n1 post n (fx_sI m o k v) (pc + 3) lv (st)) : fx_E Γ μ d n0 n1 post n m (pc) lv (.int v :: fx_rf Γ o :: st) :=
  fx_put0 hd hf hs ho hk hfin rfl rfl (by simp [fx_fv, hr, fx_sI]) (fun j h => fx_fv_sI_ne h) (fun o2 q2 h => fx_C_sI h) kk
/-- a boolean field is written -/
theorem e_putz {idx ci k o N : Nat} {fin : Bool} {v : Int32} (hd : decode μ.2.1 pc = .ok (.putfield idx, 3)) (hf : fx_F μ.1.cls idx ci k .boolean fin) (hs : fx_shapes[o]? = some (10 + ci, N)) (ho : fx_pi o < n) (hk : k < N) (hr : fx_ref ci k = false) (hfin : fin = false ∨ (μ.1.name = "<init>" ∧ (vwCl[ci]?).map (fun q => q.1) = some μ.1.cls)) (hv : v = 0 ∨ v = 1) (kk : fx_E Γ μ d n0 n1 post n (fx_sI m o k v) (pc + 3) lv (st)) : fx_E Γ μ d n0 n1 post n m (pc) lv (.int v :: fx_rf Γ o :: st) :=
  fx_put0 hd hf hs ho hk hfin (by rcases hv with rfl | rfl <;> rfl) (by rcases hv with rfl | rfl <;> rfl) (by simp [fx_fv, hr, fx_sI]) (fun j h => fx_fv_sI_ne h) (fun o2 q2 h => fx_C_sI h) kk
/-- a reference field is written -/
theorem e_putr {idx ci k o o2 N : Nat} {ty : FieldType} {fin : Bool} (hd : decode μ.2.1 pc = .ok (.putfield idx, 3)) (hf : fx_F μ.1.cls idx ci k ty fin) (hs : fx_shapes[o]? = some (10 + ci, N)) (ho : fx_pi o < n) (hk : k < N) (hr : fx_ref ci k = true) (hfin : fin = false ∨ (μ.1.name = "<init>" ∧ (vwCl[ci]?).map (fun q => q.1) = some μ.1.cls)) (hnr : ∀ a, narrow ty (.ref a) = .ref a) (hfit : ∀ a, fits ty (.ref a) = true) (kk : fx_E Γ μ d n0 n1 post n (fx_sR m o k (some o2)) (pc + 3) lv (st)) : fx_E Γ μ d n0 n1 post n m (pc) lv (fx_rf Γ o2 :: fx_rf Γ o :: st) :=
  fx_put0 hd hf hs ho hk hfin (hnr _) (hfit _) (by simp [fx_fv, hr, fx_sR, va_rf]) (fun j h => fx_fv_sR_ne h) (fun o2 q2 h => fx_C_sR h) kk
theorem e_putn {idx ci k o N : Nat} {ty : FieldType} {fin : Bool} (hd : decode μ.2.1 pc = .ok (.putfield idx, 3)) (hf : fx_F μ.1.cls idx ci k ty fin) (hs : fx_shapes[o]? = some (10 + ci, N)) (ho : fx_pi o < n) (hk : k < N) (hr : fx_ref ci k = true) (hfin : fin = false ∨ (μ.1.name = "<init>" ∧ (vwCl[ci]?).map (fun q => q.1) = some μ.1.cls)) (hnr : narrow ty .null = .null) (hfit : fits ty .null = true) (kk : fx_E Γ μ d n0 n1 post n (fx_sR m o k none) (pc + 3) lv (st)) : fx_E Γ μ d n0 n1 post n m (pc) lv (.null :: fx_rf Γ o :: st) :=
  fx_put0 hd hf hs ho hk hfin hnr hfit (by simp [fx_fv, hr, fx_sR, va_rf]) (fun j h => fx_fv_sR_ne h) (fun o2 q2 h => fx_C_sR h) kk
/-! arrays -/
theorem fx_arrP {o t N : Nat} {e : va_E} {H : Heap} (hH : fx_Hd Γ n m H) (ho : fx_pi o < n) (hs : fx_shapes[o]? = some (t, N)) (he : fx_C Γ m o (t, N) = e) : va_P Γ.2.1 vwCl [(Γ.1 + fx_pi o, e)] H := by
  have h := hH o _ ho hs
  rw [he] at h
  intro k q hk
  cases k with
  | zero => simp at hk; subst hk; exact h
  | succ k => simp at hk
theorem e_iald {o j N : Nat} {x : Int32} (hd : decode μ.2.1 pc = .ok (.iaload, 1)) (hs : fx_shapes[o]? = some (0, N)) (ho : fx_pi o < n) (hx : x = nI j) (hj : j < N) (hN : N < 2 ^ 31) (kk : fx_E Γ μ d n0 n1 post n m (pc + 1) lv (.int (m.1 o j) :: st)) : fx_E Γ μ d n0 n1 post n m (pc) lv (.int x :: fx_rf Γ o :: st) := by
  intro p l e R s mid args below meth c H locs Q ls hX hH hz hS hl hn hK
  subst hx
  exact va_iald (tys := fx_tys Γ) (cl := vwCl) (n := N) (f := m.1 o) hX.1 hX.2.1 hX.2.2.2.2.2.1.1 (fx_arrP hH ho hs rfl) 0 0 rfl rfl (vp_in_nI hj hN) hd (by rw [nI_clamp (by omega)]; exact kk p l e R s mid args below meth c H locs Q ls hX hH hz hS hl hn hK)
theorem e_lald {o j N : Nat} {x : Int32} (hd : decode μ.2.1 pc = .ok (.laload, 1)) (hs : fx_shapes[o]? = some (1, N)) (ho : fx_pi o < n) (hx : x = nI j) (hj : j < N) (hN : N < 2 ^ 31) (kk : fx_E Γ μ d n0 n1 post n m (pc + 1) lv (.long (m.2.1 o j) :: st)) : fx_E Γ μ d n0 n1 post n m (pc) lv (.int x :: fx_rf Γ o :: st) := by
  intro p l e R s mid args below meth c H locs Q ls hX hH hz hS hl hn hK
  subst hx
  exact va_lald (tys := fx_tys Γ) (cl := vwCl) (n := N) (f := m.2.1 o) hX.1 hX.2.1 hX.2.2.2.2.2.1.1 (fx_arrP hH ho hs rfl) 0 1 rfl rfl (vp_in_nI hj hN) hd (by rw [nI_clamp (by omega)]; exact kk p l e R s mid args below meth c H locs Q ls hX hH hz hS hl hn hK)
theorem e_aald {o j N t o2 : Nat} {x : Int32} (hd : decode μ.2.1 pc = .ok (.aaload, 1)) (hs : fx_shapes[o]? = some (t, N)) (ht : t = 2 ∨ t = 3 ∨ t = 4) (ho : fx_pi o < n) (hx : x = nI j) (hj : j < N) (hN : N < 2 ^ 31) (hv : m.2.2 o j = some o2) (kk : fx_E Γ μ d n0 n1 post n m (pc + 1) lv (fx_rf Γ o2 :: st)) : fx_E Γ μ d n0 n1 post n m (pc) lv (.int x :: fx_rf Γ o :: st) := by
  intro p l e R s mid args below meth c H locs Q ls hX hH hz hS hl hn hK
  subst hx
  have he : (m.2.2 o j).map (fun q => Γ.1 + fx_pi q) = some (Γ.1 + fx_pi o2) := by rw [hv]; rfl
  have k2 := kk p l e R s mid args below meth c H locs Q ls hX hH hz hS hl hn hK
  rcases ht with rfl | rfl | rfl
  · exact va_aldq (tys := fx_tys Γ) (cl := vwCl) (n := N) (C := RX0) (f := fun k => (m.2.2 o k).map (fun q => Γ.1 + fx_pi q)) hX.1 hX.2.1 hX.2.2.2.2.2.1.1 (fx_arrP hH ho hs rfl) 0 2 rfl rfl (vp_in_nI hj hN) hd (by rw [nI_clamp (by omega), he]; exact k2)
  · exact va_aldq (tys := fx_tys Γ) (cl := vwCl) (n := N) (C := RX1) (f := fun k => (m.2.2 o k).map (fun q => Γ.1 + fx_pi q)) hX.1 hX.2.1 hX.2.2.2.2.2.1.1 (fx_arrP hH ho hs rfl) 0 3 rfl rfl (vp_in_nI hj hN) hd (by rw [nI_clamp (by omega), he]; exact k2)
  · exact va_aldq (tys := fx_tys Γ) (cl := vwCl) (n := N) (C := RX5) (f := fun k => (m.2.2 o k).map (fun q => Γ.1 + fx_pi q)) hX.1 hX.2.1 hX.2.2.2.2.2.1.1 (fx_arrP hH ho hs rfl) 0 4 rfl rfl (vp_in_nI hj hN) hd (by rw [nI_clamp (by omega), he]; exact k2)
theorem e_iast {o j N : Nat} {x v : Int32} (hd : decode μ.2.1 pc = .ok (.iastore, 1)) (hs : fx_shapes[o]? = some (0, N)) (ho : fx_pi o < n) (hx : x = nI j) (hj : j < N) (hN : N < 2 ^ 31) (kk : fx_E Γ μ d n0 n1 post n (fx_sI m o j v) (pc + 1) lv (st)) : fx_E Γ μ d n0 n1 post n m (pc) lv (.int v :: .int x :: fx_rf Γ o :: st) := by
  intro p l e R s mid args below meth c H locs Q ls hX hH hz hS hl hn hK
  subst hx
  have hP : H[Γ.1 + fx_pi o]? = some (vp_cell (Γ.2.2.1 0) (N, .inl (m.1 o))) := fx_arrP hH ho hs rfl 0 _ rfl
  have hcl := nI_clamp (n := j) (by omega)
  refine W.iast hX.1 hX.2.1 hP ((hX.2.2.2.2.2.1.1.2 0 _ rfl).1 N (fun j => .int (m.1 o j))) (fun q => by cases q) (by show ¬ (nI j < 0 ∨ (arrV _ _ _).slots.size ≤ _); rw [arrV_size]; exact vp_in_nI hj hN) rfl rfl hd fun H1 e1 z oq => ?_
  refine kk p l e R s mid args below meth c H1 _ Q ls hX (hH.put hs oq ?_ (fun o2 q2 h => fx_C_sI h)) (fun h => by rw [z]; exact hz h) (hS.put z oq (Nat.le_add_right _ _)) hl hn hK
  show H1[Γ.1 + fx_pi o]? = some (vp_cell _ _)
  rw [e1, hcl, vp_cell_i, vp_cell_i, arrV_store]
  congr 2
  funext q
  by_cases hq : q = j
  · subst hq; simp [updV, fx_sI]
  · simp [updV, fx_sI, hq]
theorem e_last {o j N : Nat} {x : Int32} {v : Int64} (hd : decode μ.2.1 pc = .ok (.lastore, 1)) (hs : fx_shapes[o]? = some (1, N)) (ho : fx_pi o < n) (hx : x = nI j) (hj : j < N) (hN : N < 2 ^ 31) (kk : fx_E Γ μ d n0 n1 post n (fx_sJ m o j v) (pc + 1) lv (st)) : fx_E Γ μ d n0 n1 post n m (pc) lv (.long v :: .int x :: fx_rf Γ o :: st) := by
  intro p l e R s mid args below meth c H locs Q ls hX hH hz hS hl hn hK
  subst hx
  have hP : H[Γ.1 + fx_pi o]? = some (vp_cell (Γ.2.2.1 1) (N, .inr (.inl (m.2.1 o)))) := fx_arrP hH ho hs rfl 0 _ rfl
  have hcl := nI_clamp (n := j) (by omega)
  refine W.last hX.1 hX.2.1 hP ((hX.2.2.2.2.2.1.1.2 1 _ rfl).1 N (fun j => .long (m.2.1 o j))) (fun q => by cases q) (by show ¬ (nI j < 0 ∨ (arrV _ _ _).slots.size ≤ _); rw [arrV_size]; exact vp_in_nI hj hN) rfl rfl hd fun H1 e1 z oq => ?_
  refine kk p l e R s mid args below meth c H1 _ Q ls hX (hH.put hs oq ?_ (fun o2 q2 h => fx_C_sJ h)) (fun h => by rw [z]; exact hz h) (hS.put z oq (Nat.le_add_right _ _)) hl hn hK
  show H1[Γ.1 + fx_pi o]? = some (vp_cell _ _)
  rw [e1, hcl, vp_cell_l, vp_cell_l, arrV_store]
  congr 2
  funext q
  by_cases hq : q = j
  · subst hq; simp [updV, fx_sJ]
  · simp [updV, fx_sJ, hq]
theorem e_alen {o t N : Nat} (hd : decode μ.2.1 pc = .ok (.arraylength, 1)) (hs : fx_shapes[o]? = some (t, N)) (ht : t = 0) (ho : fx_pi o < n) (kk : fx_E Γ μ d n0 n1 post n m (pc + 1) lv (.int (nI N) :: st)) : fx_E Γ μ d n0 n1 post n m (pc) lv (fx_rf Γ o :: st) := by
  intro p l e R s mid args below meth c H locs Q ls hX hH hz hS hl hn hK
  subst ht
  have hP : H[Γ.1 + fx_pi o]? = some (vp_cell (Γ.2.2.1 0) (N, .inl (m.1 o))) := fx_arrP hH ho hs rfl 0 _ rfl
  exact W.alen (n := nI N) hX.1 hX.2.1 hP ((hX.2.2.2.2.2.1.1.2 0 _ rfl).1 N (fun j => .int (m.1 o j))) (by show (arrV _ _ _).slots.size.toInt32 = _; rw [arrV_size]; rfl) rfl rfl hd (kk p l e R s mid args below meth c H locs Q ls hX hH hz hS hl hn hK)
/-! static arrays -/
theorem e_gets {idx j : Nat} {q : String × String × List Int32} (hd : decode μ.2.1 pc = .ok (.getstatic idx, 3)) (hq : fx_stat[j]? = some q) (hlink : Cond.fieldLink μ.1.cls idx q.1 q.2.1 "[I" ∈ fx_gw) (kk : fx_E Γ μ d n0 n1 post n m (pc + 3) lv (.ref (Γ.2.2.2 j) :: st)) : fx_E Γ μ d n0 n1 post n m (pc) lv (st) := by
  intro p l e R s mid args below meth c H locs Q ls hX hH hz hS hl hn hK
  exact va_gets hX.1 hX.2.1 (hX.2.2.2.2.2.1.2.1 j q hq).1 hS hX.2.2.2.1 (hX.2.2.2.2.1 _ hlink) (fun _ h => h) hd (kk p l e R s mid args below meth c H locs Q ls hX hH hz hS hl hn hK)
theorem e_sald {j i : Nat} {x : Int32} {q : String × String × List Int32} (hd : decode μ.2.1 pc = .ok (.iaload, 1)) (hq : fx_stat[j]? = some q) (hx : x = nI i) (hi : i < q.2.2.length) (hN : q.2.2.length < 2 ^ 31) (kk : fx_E Γ μ d n0 n1 post n m (pc + 1) lv (.int (q.2.2.getD i 0) :: st)) : fx_E Γ μ d n0 n1 post n m (pc) lv (.int x :: .ref (Γ.2.2.2 j) :: st) := by
  intro p l e R s mid args below meth c H locs Q ls hX hH hz hS hl hn hK
  subst hx
  exact va_ti hX.1 hX.2.1 (hX.2.2.2.2.2.1.2.1 j q hq).2 hS (vp_in_nI hi hN) (v := .int (q.2.2.getD i 0)) (by simp only [nI_clamp (show i < 2 ^ 31 by omega)]) hd (kk p l e R s mid args below meth c H locs Q ls hX hH hz hS hl hn hK)
theorem e_slen {j : Nat} {q : String × String × List Int32} {v : Int32} (hd : decode μ.2.1 pc = .ok (.arraylength, 1)) (hq : fx_stat[j]? = some q) (hv : Int32.ofNat q.2.2.length = v) (kk : fx_E Γ μ d n0 n1 post n m (pc + 1) lv (.int v :: st)) : fx_E Γ μ d n0 n1 post n m (pc) lv (.ref (Γ.2.2.2 j) :: st) := by
  intro p l e R s mid args below meth c H locs Q ls hX hH hz hS hl hn hK
  exact va_tlen hX.1 hX.2.1 (hX.2.2.2.2.2.1.2.1 j q hq).2 hS hv hd (kk p l e R s mid args below meth c H locs Q ls hX hH hz hS hl hn hK)
end FR
