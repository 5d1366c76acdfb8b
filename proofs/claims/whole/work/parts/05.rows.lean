section ZROWS
variable {G : zG} {R : Room} {QQ : zQQ} {own mn : String} {cc : ByteArray} {nL : Nat} {ret : Option FieldType} {n0 pc : Nat} {L st : List Value} {n : Nat} {mi : zFi} {ml : zFl} {mr : zFr}
theorem e_iadd (pc' : Nat) {x y : Int32} (hd : decode cc pc = .ok (.iadd, 1)) (hp : pc + 1 = pc') (k : zE G R QQ own mn cc nL ret n0 pc' L (.int (x + y) :: st) n mi ml mr) : zE G R QQ own mn cc nL ret n0 pc L (.int y :: .int x :: st) n mi ml mr := by
  intro p e s m args below meth c H locs ls hC hR hL hn
  subst hp
  exact lv_iadd hC.1 hC.2.1 hd (k p e s m args below meth c H locs ls hC hR hL hn)
theorem e_isub (pc' : Nat) {x y : Int32} (hd : decode cc pc = .ok (.isub, 1)) (hp : pc + 1 = pc') (k : zE G R QQ own mn cc nL ret n0 pc' L (.int (x - y) :: st) n mi ml mr) : zE G R QQ own mn cc nL ret n0 pc L (.int y :: .int x :: st) n mi ml mr := by
  intro p e s m args below meth c H locs ls hC hR hL hn
  subst hp
  exact lv_isub hC.1 hC.2.1 hd (k p e s m args below meth c H locs ls hC hR hL hn)
theorem e_imul (pc' : Nat) {x y : Int32} (hd : decode cc pc = .ok (.imul, 1)) (hp : pc + 1 = pc') (k : zE G R QQ own mn cc nL ret n0 pc' L (.int (x * y) :: st) n mi ml mr) : zE G R QQ own mn cc nL ret n0 pc L (.int y :: .int x :: st) n mi ml mr := by
  intro p e s m args below meth c H locs ls hC hR hL hn
  subst hp
  exact lv_imul hC.1 hC.2.1 hd (k p e s m args below meth c H locs ls hC hR hL hn)
theorem e_iand (pc' : Nat) {x y : Int32} (hd : decode cc pc = .ok (.iand, 1)) (hp : pc + 1 = pc') (k : zE G R QQ own mn cc nL ret n0 pc' L (.int (x &&& y) :: st) n mi ml mr) : zE G R QQ own mn cc nL ret n0 pc L (.int y :: .int x :: st) n mi ml mr := by
  intro p e s m args below meth c H locs ls hC hR hL hn
  subst hp
  exact lv_iand hC.1 hC.2.1 hd (k p e s m args below meth c H locs ls hC hR hL hn)
theorem e_ior (pc' : Nat) {x y : Int32} (hd : decode cc pc = .ok (.ior, 1)) (hp : pc + 1 = pc') (k : zE G R QQ own mn cc nL ret n0 pc' L (.int (x ||| y) :: st) n mi ml mr) : zE G R QQ own mn cc nL ret n0 pc L (.int y :: .int x :: st) n mi ml mr := by
  intro p e s m args below meth c H locs ls hC hR hL hn
  subst hp
  exact lv_ior hC.1 hC.2.1 hd (k p e s m args below meth c H locs ls hC hR hL hn)
theorem e_idiv (pc' : Nat) {x y : Int32} (hd : decode cc pc = .ok (.idiv, 1)) (hp : pc + 1 = pc') (hne : ¬ y = 0) (k : zE G R QQ own mn cc nL ret n0 pc' L (.int (x / y) :: st) n mi ml mr) : zE G R QQ own mn cc nL ret n0 pc L (.int y :: .int x :: st) n mi ml mr := by
  intro p e s m args below meth c H locs ls hC hR hL hn
  subst hp
  exact lv_idiv hC.1 hC.2.1 hd hne (k p e s m args below meth c H locs ls hC hR hL hn)
theorem e_irem (pc' : Nat) {x y : Int32} (hd : decode cc pc = .ok (.irem, 1)) (hp : pc + 1 = pc') (hne : ¬ y = 0) (k : zE G R QQ own mn cc nL ret n0 pc' L (.int (x - x / y * y) :: st) n mi ml mr) : zE G R QQ own mn cc nL ret n0 pc L (.int y :: .int x :: st) n mi ml mr := by
  intro p e s m args below meth c H locs ls hC hR hL hn
  subst hp
  exact lv_irem hC.1 hC.2.1 hd hne (k p e s m args below meth c H locs ls hC hR hL hn)
theorem e_ishl (pc' : Nat) {x y : Int32} (hd : decode cc pc = .ok (.ishl, 1)) (hp : pc + 1 = pc') (k : zE G R QQ own mn cc nL ret n0 pc' L (.int (x <<< (y &&& 31)) :: st) n mi ml mr) : zE G R QQ own mn cc nL ret n0 pc L (.int y :: .int x :: st) n mi ml mr := by
  intro p e s m args below meth c H locs ls hC hR hL hn
  subst hp
  exact lv_ishl hC.1 hC.2.1 hd (k p e s m args below meth c H locs ls hC hR hL hn)
theorem e_ishr (pc' : Nat) {x y : Int32} (hd : decode cc pc = .ok (.ishr, 1)) (hp : pc + 1 = pc') (k : zE G R QQ own mn cc nL ret n0 pc' L (.int (x >>> (y &&& 31)) :: st) n mi ml mr) : zE G R QQ own mn cc nL ret n0 pc L (.int y :: .int x :: st) n mi ml mr := by
  intro p e s m args below meth c H locs ls hC hR hL hn
  subst hp
  exact lv_ishr hC.1 hC.2.1 hd (k p e s m args below meth c H locs ls hC hR hL hn)
theorem e_iushr (pc' : Nat) {x y : Int32} (hd : decode cc pc = .ok (.iushr, 1)) (hp : pc + 1 = pc') (k : zE G R QQ own mn cc nL ret n0 pc' L (.int ((x.toUInt32 >>> (y.toUInt32 &&& Int32.toUInt32 31)).toInt32) :: st) n mi ml mr) : zE G R QQ own mn cc nL ret n0 pc L (.int y :: .int x :: st) n mi ml mr := by
  intro p e s m args below meth c H locs ls hC hR hL hn
  subst hp
  exact lv_iushr hC.1 hC.2.1 hd rfl (k p e s m args below meth c H locs ls hC hR hL hn)
theorem e_ladd (pc' : Nat) {x y : Int64} (hd : decode cc pc = .ok (.ladd, 1)) (hp : pc + 1 = pc') (k : zE G R QQ own mn cc nL ret n0 pc' L (.long (x + y) :: st) n mi ml mr) : zE G R QQ own mn cc nL ret n0 pc L (.long y :: .long x :: st) n mi ml mr := by
  intro p e s m args below meth c H locs ls hC hR hL hn
  subst hp
  exact lv_ladd hC.1 hC.2.1 hd (k p e s m args below meth c H locs ls hC hR hL hn)
theorem e_lmul (pc' : Nat) {x y : Int64} (hd : decode cc pc = .ok (.lmul, 1)) (hp : pc + 1 = pc') (k : zE G R QQ own mn cc nL ret n0 pc' L (.long (x * y) :: st) n mi ml mr) : zE G R QQ own mn cc nL ret n0 pc L (.long y :: .long x :: st) n mi ml mr := by
  intro p e s m args below meth c H locs ls hC hR hL hn
  subst hp
  exact lv_lmul hC.1 hC.2.1 hd (k p e s m args below meth c H locs ls hC hR hL hn)
theorem e_land (pc' : Nat) {x y : Int64} (hd : decode cc pc = .ok (.land, 1)) (hp : pc + 1 = pc') (k : zE G R QQ own mn cc nL ret n0 pc' L (.long (x &&& y) :: st) n mi ml mr) : zE G R QQ own mn cc nL ret n0 pc L (.long y :: .long x :: st) n mi ml mr := by
  intro p e s m args below meth c H locs ls hC hR hL hn
  subst hp
  exact lv_land hC.1 hC.2.1 hd (k p e s m args below meth c H locs ls hC hR hL hn)
theorem e_lor (pc' : Nat) {x y : Int64} (hd : decode cc pc = .ok (.lor, 1)) (hp : pc + 1 = pc') (k : zE G R QQ own mn cc nL ret n0 pc' L (.long (x ||| y) :: st) n mi ml mr) : zE G R QQ own mn cc nL ret n0 pc L (.long y :: .long x :: st) n mi ml mr := by
  intro p e s m args below meth c H locs ls hC hR hL hn
  subst hp
  exact lv_lor hC.1 hC.2.1 hd (k p e s m args below meth c H locs ls hC hR hL hn)
theorem e_ldiv (pc' : Nat) {x y : Int64} (hd : decode cc pc = .ok (.ldiv, 1)) (hp : pc + 1 = pc') (hne : ¬ y = 0) (k : zE G R QQ own mn cc nL ret n0 pc' L (.long (x / y) :: st) n mi ml mr) : zE G R QQ own mn cc nL ret n0 pc L (.long y :: .long x :: st) n mi ml mr := by
  intro p e s m args below meth c H locs ls hC hR hL hn
  subst hp
  exact lv_ldiv hC.1 hC.2.1 hd hne (k p e s m args below meth c H locs ls hC hR hL hn)
theorem e_lrem (pc' : Nat) {x y : Int64} (hd : decode cc pc = .ok (.lrem, 1)) (hp : pc + 1 = pc') (hne : ¬ y = 0) (k : zE G R QQ own mn cc nL ret n0 pc' L (.long (x - x / y * y) :: st) n mi ml mr) : zE G R QQ own mn cc nL ret n0 pc L (.long y :: .long x :: st) n mi ml mr := by
  intro p e s m args below meth c H locs ls hC hR hL hn
  subst hp
  exact lv_lrem hC.1 hC.2.1 hd hne (k p e s m args below meth c H locs ls hC hR hL hn)
theorem e_lneg (pc' : Nat) {x : Int64} (hd : decode cc pc = .ok (.lneg, 1)) (hp : pc + 1 = pc') (k : zE G R QQ own mn cc nL ret n0 pc' L (.long (-x) :: st) n mi ml mr) : zE G R QQ own mn cc nL ret n0 pc L (.long x :: st) n mi ml mr := by
  intro p e s m args below meth c H locs ls hC hR hL hn
  subst hp
  exact lv_lneg hC.1 hC.2.1 hd (k p e s m args below meth c H locs ls hC hR hL hn)
theorem e_lcmp (pc' : Nat) {x y : Int64} (hd : decode cc pc = .ok (.lcmp, 1)) (hp : pc + 1 = pc') (k : zE G R QQ own mn cc nL ret n0 pc' L (.int (lg_cmp x y) :: st) n mi ml mr) : zE G R QQ own mn cc nL ret n0 pc L (.long y :: .long x :: st) n mi ml mr := by
  intro p e s m args below meth c H locs ls hC hR hL hn
  subst hp
  exact W.lcmp hC.1 hC.2.1 hd (k p e s m args below meth c H locs ls hC hR hL hn)
theorem e_lshl (pc' : Nat) {x : Int64} {y : Int32} (hd : decode cc pc = .ok (.lshl, 1)) (hp : pc + 1 = pc') (k : zE G R QQ own mn cc nL ret n0 pc' L (.long (x <<< (y.toInt64 &&& 63)) :: st) n mi ml mr) : zE G R QQ own mn cc nL ret n0 pc L (.int y :: .long x :: st) n mi ml mr := by
  intro p e s m args below meth c H locs ls hC hR hL hn
  subst hp
  exact lv_lshl hC.1 hC.2.1 hd rfl (k p e s m args below meth c H locs ls hC hR hL hn)
theorem e_lshr (pc' : Nat) {x : Int64} {y : Int32} (hd : decode cc pc = .ok (.lshr, 1)) (hp : pc + 1 = pc') (k : zE G R QQ own mn cc nL ret n0 pc' L (.long (x >>> (y.toInt64 &&& 63)) :: st) n mi ml mr) : zE G R QQ own mn cc nL ret n0 pc L (.int y :: .long x :: st) n mi ml mr := by
  intro p e s m args below meth c H locs ls hC hR hL hn
  subst hp
  exact lv_lshr hC.1 hC.2.1 hd rfl (k p e s m args below meth c H locs ls hC hR hL hn)
theorem e_lushr (pc' : Nat) {x : Int64} {y : Int32} (hd : decode cc pc = .ok (.lushr, 1)) (hp : pc + 1 = pc') (k : zE G R QQ own mn cc nL ret n0 pc' L (.long ((x.toUInt64 >>> (y.toInt64.toUInt64 &&& Int64.toUInt64 63)).toInt64) :: st) n mi ml mr) : zE G R QQ own mn cc nL ret n0 pc L (.int y :: .long x :: st) n mi ml mr := by
  intro p e s m args below meth c H locs ls hC hR hL hn
  subst hp
  exact lv_lushr hC.1 hC.2.1 hd rfl (k p e s m args below meth c H locs ls hC hR hL hn)
theorem e_i2l (pc' : Nat) {x : Int32} (hd : decode cc pc = .ok (.i2l, 1)) (hp : pc + 1 = pc') (k : zE G R QQ own mn cc nL ret n0 pc' L (.long x.toInt64 :: st) n mi ml mr) : zE G R QQ own mn cc nL ret n0 pc L (.int x :: st) n mi ml mr := by
  intro p e s m args below meth c H locs ls hC hR hL hn
  subst hp
  exact lv_i2l hC.1 hC.2.1 hd rfl (k p e s m args below meth c H locs ls hC hR hL hn)
theorem e_l2i (pc' : Nat) {x : Int64} (hd : decode cc pc = .ok (.l2i, 1)) (hp : pc + 1 = pc') (k : zE G R QQ own mn cc nL ret n0 pc' L (.int x.toInt32 :: st) n mi ml mr) : zE G R QQ own mn cc nL ret n0 pc L (.long x :: st) n mi ml mr := by
  intro p e s m args below meth c H locs ls hC hR hL hn
  subst hp
  exact lv_l2i hC.1 hC.2.1 hd rfl (k p e s m args below meth c H locs ls hC hR hL hn)
theorem e_i2c (pc' : Nat) {x : Int32} (hd : decode cc pc = .ok (.i2c, 1)) (hp : pc + 1 = pc') (k : zE G R QQ own mn cc nL ret n0 pc' L (.int ((x.toUInt32 % 65536).toInt32) :: st) n mi ml mr) : zE G R QQ own mn cc nL ret n0 pc L (.int x :: st) n mi ml mr := by
  intro p e s m args below meth c H locs ls hC hR hL hn
  subst hp
  exact lv_i2c hC.1 hC.2.1 hd rfl (k p e s m args below meth c H locs ls hC hR hL hn)
theorem e_iconst (pc' : Nat) {q : Int} {v : Int32} (hv : Int32.ofInt q = v) (hd : decode cc pc = .ok (.iconst q, 1)) (hp : pc + 1 = pc') (k : zE G R QQ own mn cc nL ret n0 pc' L (.int v :: st) n mi ml mr) : zE G R QQ own mn cc nL ret n0 pc L st n mi ml mr := by
  intro p e s m args below meth c H locs ls hC hR hL hn
  subst hp
  exact lv_iconst hC.1 hC.2.1 hd hv (k p e s m args below meth c H locs ls hC hR hL hn)
theorem e_bipush (pc' : Nat) {q : Int} {v : Int32} (hv : (Int8.ofInt q).toInt32 = v) (hd : decode cc pc = .ok (.bipush q, 2)) (hp : pc + 2 = pc') (k : zE G R QQ own mn cc nL ret n0 pc' L (.int v :: st) n mi ml mr) : zE G R QQ own mn cc nL ret n0 pc L st n mi ml mr := by
  intro p e s m args below meth c H locs ls hC hR hL hn
  subst hp
  exact lv_bipush hC.1 hC.2.1 hd hv (k p e s m args below meth c H locs ls hC hR hL hn)
theorem e_sipush (pc' : Nat) {q : Int} {v : Int32} (hv : (Int16.ofInt q).toInt32 = v) (hd : decode cc pc = .ok (.sipush q, 3)) (hp : pc + 3 = pc') (k : zE G R QQ own mn cc nL ret n0 pc' L (.int v :: st) n mi ml mr) : zE G R QQ own mn cc nL ret n0 pc L st n mi ml mr := by
  intro p e s m args below meth c H locs ls hC hR hL hn
  subst hp
  exact lv_sipush hC.1 hC.2.1 hd hv (k p e s m args below meth c H locs ls hC hR hL hn)
theorem e_lconst (pc' : Nat) {q : Fin 2} {v : Int64} (hv : Int64.ofNat (q : Nat) = v) (hd : decode cc pc = .ok (.lconst q, 1)) (hp : pc + 1 = pc') (k : zE G R QQ own mn cc nL ret n0 pc' L (.long v :: st) n mi ml mr) : zE G R QQ own mn cc nL ret n0 pc L st n mi ml mr := by
  intro p e s m args below meth c H locs ls hC hR hL hn
  subst hp
  exact lv_lconst hC.1 hC.2.1 hd hv (k p e s m args below meth c H locs ls hC hR hL hn)
theorem e_ldc (pc' : Nat) {idx : Nat} {v : Int32} (hw : Jvm.Cond.constant own idx v ∈ zT) (hd : decode cc pc = .ok (.ldc idx, 2)) (hp : pc + 2 = pc') (k : zE G R QQ own mn cc nL ret n0 pc' L (.int v :: st) n mi ml mr) : zE G R QQ own mn cc nL ret n0 pc L st n mi ml mr := by
  intro p e s m args below meth c H locs ls hC hR hL hn
  subst hp
  exact lv_ldc hC.1 hC.2.1 hC.2.2.2.2.1 (hC.2.2.2.2.2.1 _ hw) hd (k p e s m args below meth c H locs ls hC hR hL hn)
theorem e_ldc_w (pc' : Nat) {idx : Nat} {v : Int32} (hw : Jvm.Cond.constant own idx v ∈ zT) (hd : decode cc pc = .ok (.ldc_w idx, 3)) (hp : pc + 3 = pc') (k : zE G R QQ own mn cc nL ret n0 pc' L (.int v :: st) n mi ml mr) : zE G R QQ own mn cc nL ret n0 pc L st n mi ml mr := by
  intro p e s m args below meth c H locs ls hC hR hL hn
  subst hp
  exact lv_ldcw hC.1 hC.2.1 hC.2.2.2.2.1 (hC.2.2.2.2.2.1 _ hw) hd (k p e s m args below meth c H locs ls hC hR hL hn)
theorem e_ldc2_w (pc' : Nat) {idx : Nat} {v : Int64} (hw : Jvm.Cond.constantLong own idx v ∈ zT) (hd : decode cc pc = .ok (.ldc2_w idx, 3)) (hp : pc + 3 = pc') (k : zE G R QQ own mn cc nL ret n0 pc' L (.long v :: st) n mi ml mr) : zE G R QQ own mn cc nL ret n0 pc L st n mi ml mr := by
  intro p e s m args below meth c H locs ls hC hR hL hn
  subst hp
  exact lv_ldc2 hC.1 hC.2.1 hC.2.2.2.2.1 (hC.2.2.2.2.2.1 _ hw) hd (k p e s m args below meth c H locs ls hC hR hL hn)
theorem e_dup (pc' : Nat) {v : Value} (hd : decode cc pc = .ok (.dup, 1)) (hp : pc + 1 = pc') (hv : v.category = 1) (k : zE G R QQ own mn cc nL ret n0 pc' L (v :: v :: st) n mi ml mr) : zE G R QQ own mn cc nL ret n0 pc L (v :: st) n mi ml mr := by
  intro p e s m args below meth c H locs ls hC hR hL hn
  subst hp
  exact lv_dup hC.1 hC.2.1 hd (by rw [zTv_cat]; exact hv) (k p e s m args below meth c H locs ls hC hR hL hn)
theorem e_pop (pc' : Nat) {v : Value} (hd : decode cc pc = .ok (.pop, 1)) (hp : pc + 1 = pc') (hv : v.category = 1) (k : zE G R QQ own mn cc nL ret n0 pc' L st n mi ml mr) : zE G R QQ own mn cc nL ret n0 pc L (v :: st) n mi ml mr := by
  intro p e s m args below meth c H locs ls hC hR hL hn
  subst hp
  exact lv_pop hC.1 hC.2.1 hd (by rw [zTv_cat]; exact hv) (k p e s m args below meth c H locs ls hC hR hL hn)
theorem e_dup2 (pc' : Nat) {v w : Value} (hd : decode cc pc = .ok (.dup2, 1)) (hp : pc + 1 = pc') (hv : v.category = 1) (hw : w.category = 1) (k : zE G R QQ own mn cc nL ret n0 pc' L (v :: w :: v :: w :: st) n mi ml mr) : zE G R QQ own mn cc nL ret n0 pc L (v :: w :: st) n mi ml mr := by
  intro p e s m args below meth c H locs ls hC hR hL hn
  subst hp
  exact lv_dup2_11 hC.1 hC.2.1 hd (by rw [zTv_cat]; exact hv) (by rw [zTv_cat]; exact hw) (k p e s m args below meth c H locs ls hC hR hL hn)
theorem e_iload (pc' : Nat) {i : Nat} {x : Int32} (hd : decode cc pc = .ok (.iload i, 2)) (hp : pc + 2 = pc') (hx : L[i]? = some (.int x)) (k : zE G R QQ own mn cc nL ret n0 pc' L (.int x :: st) n mi ml mr) : zE G R QQ own mn cc nL ret n0 pc L st n mi ml mr := by
  intro p e s m args below meth c H locs ls hC hR hL hn
  subst hp
  exact lv_iload hC.1 hC.2.1 hd (hL.2.2 i _ hx rfl) (k p e s m args below meth c H locs ls hC hR hL hn)
theorem e_iload_n (pc' : Nat) {i : Fin 4} {x : Int32} (hd : decode cc pc = .ok (.iload_n i, 1)) (hp : pc + 1 = pc') (hx : L[(i : Nat)]? = some (.int x)) (k : zE G R QQ own mn cc nL ret n0 pc' L (.int x :: st) n mi ml mr) : zE G R QQ own mn cc nL ret n0 pc L st n mi ml mr := by
  intro p e s m args below meth c H locs ls hC hR hL hn
  subst hp
  exact lv_iload_n hC.1 hC.2.1 hd rfl (hL.2.2 (i : Nat) _ hx rfl) (k p e s m args below meth c H locs ls hC hR hL hn)
theorem e_lload (pc' : Nat) {i : Nat} {x : Int64} (hd : decode cc pc = .ok (.lload i, 2)) (hp : pc + 2 = pc') (hx : L[i]? = some (.long x)) (k : zE G R QQ own mn cc nL ret n0 pc' L (.long x :: st) n mi ml mr) : zE G R QQ own mn cc nL ret n0 pc L st n mi ml mr := by
  intro p e s m args below meth c H locs ls hC hR hL hn
  subst hp
  exact lv_lload hC.1 hC.2.1 hd (hL.2.2 i _ hx rfl) (k p e s m args below meth c H locs ls hC hR hL hn)
theorem e_lload_n (pc' : Nat) {i : Fin 4} {x : Int64} (hd : decode cc pc = .ok (.lload_n i, 1)) (hp : pc + 1 = pc') (hx : L[(i : Nat)]? = some (.long x)) (k : zE G R QQ own mn cc nL ret n0 pc' L (.long x :: st) n mi ml mr) : zE G R QQ own mn cc nL ret n0 pc L st n mi ml mr := by
  intro p e s m args below meth c H locs ls hC hR hL hn
  subst hp
  exact lv_lload_n hC.1 hC.2.1 hd rfl (hL.2.2 (i : Nat) _ hx rfl) (k p e s m args below meth c H locs ls hC hR hL hn)
theorem e_aload (pc' : Nat) {i : Nat} {x : Nat} (hd : decode cc pc = .ok (.aload i, 2)) (hp : pc + 2 = pc') (hx : L[i]? = some (.ref x)) (k : zE G R QQ own mn cc nL ret n0 pc' L (.ref x :: st) n mi ml mr) : zE G R QQ own mn cc nL ret n0 pc L st n mi ml mr := by
  intro p e s m args below meth c H locs ls hC hR hL hn
  subst hp
  exact lv_aload hC.1 hC.2.1 hd (hL.2.2 i _ hx rfl) (k p e s m args below meth c H locs ls hC hR hL hn)
theorem e_aload_n (pc' : Nat) {i : Fin 4} {x : Nat} (hd : decode cc pc = .ok (.aload_n i, 1)) (hp : pc + 1 = pc') (hx : L[(i : Nat)]? = some (.ref x)) (k : zE G R QQ own mn cc nL ret n0 pc' L (.ref x :: st) n mi ml mr) : zE G R QQ own mn cc nL ret n0 pc L st n mi ml mr := by
  intro p e s m args below meth c H locs ls hC hR hL hn
  subst hp
  exact lv_aload_n hC.1 hC.2.1 hd rfl (hL.2.2 (i : Nat) _ hx rfl) (k p e s m args below meth c H locs ls hC hR hL hn)
theorem e_istore (pc' : Nat) {i : Nat} {x : Int32} {L' : List Value} (hd : decode cc pc = .ok (.istore i, 2)) (hp : pc + 2 = pc') (hn : i < nL) (hx : zst1 L i (.int x) = L') (k : zE G R QQ own mn cc nL ret n0 pc' L' st n mi ml mr) : zE G R QQ own mn cc nL ret n0 pc L (.int x :: st) n mi ml mr := by
  intro p e s m args below meth c H locs ls hC hR hL hn0
  subst hp
  subst hx
  exact lv_istore hC.1 hC.2.1 hd (zLs_has.mp hL) hn rfl (fun ls' hl' => k p e s m args below meth c H locs ls' hC hR (zLs_st1 (v := .int x) hl' (fun j w a b => zst1_at _ L _ j w a b)) hn0)
theorem e_istore_n (pc' : Nat) {i : Fin 4} {x : Int32} {L' : List Value} (hd : decode cc pc = .ok (.istore_n i, 1)) (hp : pc + 1 = pc') (hn : (i : Nat) < nL) (hx : zst1 L (i : Nat) (.int x) = L') (k : zE G R QQ own mn cc nL ret n0 pc' L' st n mi ml mr) : zE G R QQ own mn cc nL ret n0 pc L (.int x :: st) n mi ml mr := by
  intro p e s m args below meth c H locs ls hC hR hL hn0
  subst hp
  subst hx
  exact lv_istore_n hC.1 hC.2.1 hd rfl (zLs_has.mp hL) hn rfl (fun ls' hl' => k p e s m args below meth c H locs ls' hC hR (zLs_st1 (v := .int x) hl' (fun j w a b => zst1_at _ L _ j w a b)) hn0)
theorem e_astore (pc' : Nat) {i : Nat} {x : Nat} {L' : List Value} (hd : decode cc pc = .ok (.astore i, 2)) (hp : pc + 2 = pc') (hn : i < nL) (hx : zst1 L i (.ref x) = L') (k : zE G R QQ own mn cc nL ret n0 pc' L' st n mi ml mr) : zE G R QQ own mn cc nL ret n0 pc L (.ref x :: st) n mi ml mr := by
  intro p e s m args below meth c H locs ls hC hR hL hn0
  subst hp
  subst hx
  exact lv_astore hC.1 hC.2.1 hd (zLs_has.mp hL) hn rfl (fun ls' hl' => k p e s m args below meth c H locs ls' hC hR (zLs_st1 (v := .ref x) hl' (fun j w a b => zst1_at _ L _ j w a b)) hn0)
theorem e_astore_n (pc' : Nat) {i : Fin 4} {x : Nat} {L' : List Value} (hd : decode cc pc = .ok (.astore_n i, 1)) (hp : pc + 1 = pc') (hn : (i : Nat) < nL) (hx : zst1 L (i : Nat) (.ref x) = L') (k : zE G R QQ own mn cc nL ret n0 pc' L' st n mi ml mr) : zE G R QQ own mn cc nL ret n0 pc L (.ref x :: st) n mi ml mr := by
  intro p e s m args below meth c H locs ls hC hR hL hn0
  subst hp
  subst hx
  exact lv_astore_n hC.1 hC.2.1 hd rfl (zLs_has.mp hL) hn rfl (fun ls' hl' => k p e s m args below meth c H locs ls' hC hR (zLs_st1 (v := .ref x) hl' (fun j w a b => zst1_at _ L _ j w a b)) hn0)
theorem e_lstore (pc' : Nat) {i : Nat} {x : Int64} {L' : List Value} (hd : decode cc pc = .ok (.lstore i, 2)) (hp : pc + 2 = pc') (hn : i + 1 < nL) (hx : zst2 L i (.long x) = L') (k : zE G R QQ own mn cc nL ret n0 pc' L' st n mi ml mr) : zE G R QQ own mn cc nL ret n0 pc L (.long x :: st) n mi ml mr := by
  intro p e s m args below meth c H locs ls hC hR hL hn0
  subst hp
  subst hx
  exact lv_lstore hC.1 hC.2.1 hd (zLs_has.mp hL) hn rfl (fun ls' hl' => k p e s m args below meth c H locs ls' hC hR (zLs_st2 (v := .long x) hl' (fun j w a b => zst2_at _ L _ j w a b)) hn0)
theorem e_lstore_n (pc' : Nat) {i : Fin 4} {x : Int64} {L' : List Value} (hd : decode cc pc = .ok (.lstore_n i, 1)) (hp : pc + 1 = pc') (hn : (i : Nat) + 1 < nL) (hx : zst2 L (i : Nat) (.long x) = L') (k : zE G R QQ own mn cc nL ret n0 pc' L' st n mi ml mr) : zE G R QQ own mn cc nL ret n0 pc L (.long x :: st) n mi ml mr := by
  intro p e s m args below meth c H locs ls hC hR hL hn0
  subst hp
  subst hx
  exact lv_lstore_n hC.1 hC.2.1 hd rfl (zLs_has.mp hL) hn rfl (fun ls' hl' => k p e s m args below meth c H locs ls' hC hR (zLs_st2 (v := .long x) hl' (fun j w a b => zst2_at _ L _ j w a b)) hn0)
theorem e_iinc (pc' : Nat) {i : Nat} {q : Int} {x v : Int32} {L' : List Value} (hd : decode cc pc = .ok (.iinc i q, 3)) (hp : pc + 3 = pc') (hn : i < nL) (hx : L[i]? = some (.int x)) (hv : x + Int32.ofInt q = v) (hx' : zst1 L i (.int v) = L') (k : zE G R QQ own mn cc nL ret n0 pc' L' st n mi ml mr) : zE G R QQ own mn cc nL ret n0 pc L st n mi ml mr := by
  intro p e s m args below meth c H locs ls hC hR hL hn0
  subst hp
  subst hx'
  obtain ⟨kk, hkk⟩ := List.getElem?_of_mem (zLv_mem.mpr ⟨_, hx, rfl, rfl⟩ : (i, zTv (zad G) (.int x)) ∈ zLv (zad G) L)
  exact lv_iinc hC.1 hC.2.1 hd (zLs_has.mp hL) (k := kk) hkk hv hn rfl (fun ls' hl' => k p e s m args below meth c H locs ls' hC hR (zLs_st1 (v := .int v) hl' (fun j w a b => zst1_at _ L _ j w a b)) hn0)
theorem e_if_eq (tgt pc' : Nat) {x : Int32} {off : Int} (hd : decode cc pc = .ok (.ifCond .eq off, 3)) (ht : (pc : Int) + off = (tgt : Int)) (hp : pc + 3 = pc') (kt : x = 0 → zE G R QQ own mn cc nL ret n0 tgt L st n mi ml mr) (kf : ¬ x = 0 → zE G R QQ own mn cc nL ret n0 pc' L st n mi ml mr) : zE G R QQ own mn cc nL ret n0 pc L (.int x :: st) n mi ml mr := by
  intro p e s m args below meth c H locs ls hC hR hL hn
  subst hp
  exact lv_if_eq hC.1 hC.2.1 hd ht (fun q => kt q p e s m args below meth c H locs ls hC hR hL hn) (fun q => kf q p e s m args below meth c H locs ls hC hR hL hn)
theorem e_icmp_eq (tgt pc' : Nat) {x y : Int32} {off : Int} (hd : decode cc pc = .ok (.if_icmp .eq off, 3)) (ht : (pc : Int) + off = (tgt : Int)) (hp : pc + 3 = pc') (kt : x = y → zE G R QQ own mn cc nL ret n0 tgt L st n mi ml mr) (kf : ¬ x = y → zE G R QQ own mn cc nL ret n0 pc' L st n mi ml mr) : zE G R QQ own mn cc nL ret n0 pc L (.int y :: .int x :: st) n mi ml mr := by
  intro p e s m args below meth c H locs ls hC hR hL hn
  subst hp
  exact lv_icmp_eq hC.1 hC.2.1 hd ht (fun q => kt q p e s m args below meth c H locs ls hC hR hL hn) (fun q => kf q p e s m args below meth c H locs ls hC hR hL hn)
theorem e_if_ne (tgt pc' : Nat) {x : Int32} {off : Int} (hd : decode cc pc = .ok (.ifCond .ne off, 3)) (ht : (pc : Int) + off = (tgt : Int)) (hp : pc + 3 = pc') (kt : ¬ x = 0 → zE G R QQ own mn cc nL ret n0 tgt L st n mi ml mr) (kf : x = 0 → zE G R QQ own mn cc nL ret n0 pc' L st n mi ml mr) : zE G R QQ own mn cc nL ret n0 pc L (.int x :: st) n mi ml mr := by
  intro p e s m args below meth c H locs ls hC hR hL hn
  subst hp
  exact lv_if_ne hC.1 hC.2.1 hd ht (fun q => kt q p e s m args below meth c H locs ls hC hR hL hn) (fun q => kf q p e s m args below meth c H locs ls hC hR hL hn)
theorem e_icmp_ne (tgt pc' : Nat) {x y : Int32} {off : Int} (hd : decode cc pc = .ok (.if_icmp .ne off, 3)) (ht : (pc : Int) + off = (tgt : Int)) (hp : pc + 3 = pc') (kt : ¬ x = y → zE G R QQ own mn cc nL ret n0 tgt L st n mi ml mr) (kf : x = y → zE G R QQ own mn cc nL ret n0 pc' L st n mi ml mr) : zE G R QQ own mn cc nL ret n0 pc L (.int y :: .int x :: st) n mi ml mr := by
  intro p e s m args below meth c H locs ls hC hR hL hn
  subst hp
  exact lv_icmp_ne hC.1 hC.2.1 hd ht (fun q => kt q p e s m args below meth c H locs ls hC hR hL hn) (fun q => kf q p e s m args below meth c H locs ls hC hR hL hn)
theorem e_if_lt (tgt pc' : Nat) {x : Int32} {off : Int} (hd : decode cc pc = .ok (.ifCond .lt off, 3)) (ht : (pc : Int) + off = (tgt : Int)) (hp : pc + 3 = pc') (kt : x < 0 → zE G R QQ own mn cc nL ret n0 tgt L st n mi ml mr) (kf : ¬ x < 0 → zE G R QQ own mn cc nL ret n0 pc' L st n mi ml mr) : zE G R QQ own mn cc nL ret n0 pc L (.int x :: st) n mi ml mr := by
  intro p e s m args below meth c H locs ls hC hR hL hn
  subst hp
  exact lv_if_lt hC.1 hC.2.1 hd ht (fun q => kt q p e s m args below meth c H locs ls hC hR hL hn) (fun q => kf q p e s m args below meth c H locs ls hC hR hL hn)
theorem e_icmp_lt (tgt pc' : Nat) {x y : Int32} {off : Int} (hd : decode cc pc = .ok (.if_icmp .lt off, 3)) (ht : (pc : Int) + off = (tgt : Int)) (hp : pc + 3 = pc') (kt : x < y → zE G R QQ own mn cc nL ret n0 tgt L st n mi ml mr) (kf : ¬ x < y → zE G R QQ own mn cc nL ret n0 pc' L st n mi ml mr) : zE G R QQ own mn cc nL ret n0 pc L (.int y :: .int x :: st) n mi ml mr := by
  intro p e s m args below meth c H locs ls hC hR hL hn
  subst hp
  exact lv_icmp_lt hC.1 hC.2.1 hd ht (fun q => kt q p e s m args below meth c H locs ls hC hR hL hn) (fun q => kf q p e s m args below meth c H locs ls hC hR hL hn)
theorem e_if_ge (tgt pc' : Nat) {x : Int32} {off : Int} (hd : decode cc pc = .ok (.ifCond .ge off, 3)) (ht : (pc : Int) + off = (tgt : Int)) (hp : pc + 3 = pc') (kt : 0 ≤ x → zE G R QQ own mn cc nL ret n0 tgt L st n mi ml mr) (kf : ¬ 0 ≤ x → zE G R QQ own mn cc nL ret n0 pc' L st n mi ml mr) : zE G R QQ own mn cc nL ret n0 pc L (.int x :: st) n mi ml mr := by
  intro p e s m args below meth c H locs ls hC hR hL hn
  subst hp
  exact lv_if_ge hC.1 hC.2.1 hd ht (fun q => kt q p e s m args below meth c H locs ls hC hR hL hn) (fun q => kf q p e s m args below meth c H locs ls hC hR hL hn)
theorem e_icmp_ge (tgt pc' : Nat) {x y : Int32} {off : Int} (hd : decode cc pc = .ok (.if_icmp .ge off, 3)) (ht : (pc : Int) + off = (tgt : Int)) (hp : pc + 3 = pc') (kt : y ≤ x → zE G R QQ own mn cc nL ret n0 tgt L st n mi ml mr) (kf : ¬ y ≤ x → zE G R QQ own mn cc nL ret n0 pc' L st n mi ml mr) : zE G R QQ own mn cc nL ret n0 pc L (.int y :: .int x :: st) n mi ml mr := by
  intro p e s m args below meth c H locs ls hC hR hL hn
  subst hp
  exact lv_icmp_ge hC.1 hC.2.1 hd ht (fun q => kt q p e s m args below meth c H locs ls hC hR hL hn) (fun q => kf q p e s m args below meth c H locs ls hC hR hL hn)
theorem e_if_gt (tgt pc' : Nat) {x : Int32} {off : Int} (hd : decode cc pc = .ok (.ifCond .gt off, 3)) (ht : (pc : Int) + off = (tgt : Int)) (hp : pc + 3 = pc') (kt : 0 < x → zE G R QQ own mn cc nL ret n0 tgt L st n mi ml mr) (kf : ¬ 0 < x → zE G R QQ own mn cc nL ret n0 pc' L st n mi ml mr) : zE G R QQ own mn cc nL ret n0 pc L (.int x :: st) n mi ml mr := by
  intro p e s m args below meth c H locs ls hC hR hL hn
  subst hp
  exact lv_if_gt hC.1 hC.2.1 hd ht (fun q => kt q p e s m args below meth c H locs ls hC hR hL hn) (fun q => kf q p e s m args below meth c H locs ls hC hR hL hn)
theorem e_icmp_gt (tgt pc' : Nat) {x y : Int32} {off : Int} (hd : decode cc pc = .ok (.if_icmp .gt off, 3)) (ht : (pc : Int) + off = (tgt : Int)) (hp : pc + 3 = pc') (kt : y < x → zE G R QQ own mn cc nL ret n0 tgt L st n mi ml mr) (kf : ¬ y < x → zE G R QQ own mn cc nL ret n0 pc' L st n mi ml mr) : zE G R QQ own mn cc nL ret n0 pc L (.int y :: .int x :: st) n mi ml mr := by
  intro p e s m args below meth c H locs ls hC hR hL hn
  subst hp
  exact lv_icmp_gt hC.1 hC.2.1 hd ht (fun q => kt q p e s m args below meth c H locs ls hC hR hL hn) (fun q => kf q p e s m args below meth c H locs ls hC hR hL hn)
theorem e_if_le (tgt pc' : Nat) {x : Int32} {off : Int} (hd : decode cc pc = .ok (.ifCond .le off, 3)) (ht : (pc : Int) + off = (tgt : Int)) (hp : pc + 3 = pc') (kt : x ≤ 0 → zE G R QQ own mn cc nL ret n0 tgt L st n mi ml mr) (kf : ¬ x ≤ 0 → zE G R QQ own mn cc nL ret n0 pc' L st n mi ml mr) : zE G R QQ own mn cc nL ret n0 pc L (.int x :: st) n mi ml mr := by
  intro p e s m args below meth c H locs ls hC hR hL hn
  subst hp
  exact lv_if_le hC.1 hC.2.1 hd ht (fun q => kt q p e s m args below meth c H locs ls hC hR hL hn) (fun q => kf q p e s m args below meth c H locs ls hC hR hL hn)
theorem e_icmp_le (tgt pc' : Nat) {x y : Int32} {off : Int} (hd : decode cc pc = .ok (.if_icmp .le off, 3)) (ht : (pc : Int) + off = (tgt : Int)) (hp : pc + 3 = pc') (kt : x ≤ y → zE G R QQ own mn cc nL ret n0 tgt L st n mi ml mr) (kf : ¬ x ≤ y → zE G R QQ own mn cc nL ret n0 pc' L st n mi ml mr) : zE G R QQ own mn cc nL ret n0 pc L (.int y :: .int x :: st) n mi ml mr := by
  intro p e s m args below meth c H locs ls hC hR hL hn
  subst hp
  exact lv_icmp_le hC.1 hC.2.1 hd ht (fun q => kt q p e s m args below meth c H locs ls hC hR hL hn) (fun q => kf q p e s m args below meth c H locs ls hC hR hL hn)
theorem e_goto (tgt : Nat) {off : Int} (hd : decode cc pc = .ok (.goto off, 3)) (ht : (pc : Int) + off = (tgt : Int)) (k : zE G R QQ own mn cc nL ret n0 tgt L st n mi ml mr) : zE G R QQ own mn cc nL ret n0 pc L st n mi ml mr := by
  intro p e s m args below meth c H locs ls hC hR hL hn
  exact lv_goto hC.1 hC.2.1 hd ht (k p e s m args below meth c H locs ls hC hR hL hn)
theorem e_tableOut (tgt : Nat) {dflt lo hi : Int} {offs : Array Int} {len : Nat} {x : Int32} (hd : decode cc pc = .ok (.tableswitch dflt lo hi offs, len)) (h : x.toInt < lo ∨ hi < x.toInt) (ht : (pc : Int) + dflt = (tgt : Int)) (k : zE G R QQ own mn cc nL ret n0 tgt L st n mi ml mr) : zE G R QQ own mn cc nL ret n0 pc L (.int x :: st) n mi ml mr := by
  intro p e s m args below meth c H locs ls hC hR hL hn
  exact lv_tableOut hC.1 hC.2.1 hd h ht (k p e s m args below meth c H locs ls hC hR hL hn)
theorem e_tableIn (tgt : Nat) {dflt lo hi : Int} {offs : Array Int} {len : Nat} {x : Int32} {off : Int} (hd : decode cc pc = .ok (.tableswitch dflt lo hi offs, len)) (h1 : ¬ x.toInt < lo) (h2 : ¬ hi < x.toInt) (ho : offs[(x.toInt - lo).toNat]? = some off) (ht : (pc : Int) + off = (tgt : Int)) (k : zE G R QQ own mn cc nL ret n0 tgt L st n mi ml mr) : zE G R QQ own mn cc nL ret n0 pc L (.int x :: st) n mi ml mr := by
  intro p e s m args below meth c H locs ls hC hR hL hn
  exact lv_tableIn hC.1 hC.2.1 hd h1 h2 ho ht (k p e s m args below meth c H locs ls hC hR hL hn)
theorem e_lookup (tgt : Nat) {dflt : Int} {ps : Array (Int × Int)} {len : Nat} {x : Int32} {off : Int} (hd : decode cc pc = .ok (.lookupswitch dflt ps, len)) (hq : (ps.toList.zip (ps.toList.drop 1)).all (fun (a, next) => a.1 < next.1) = true) (ho : Op.lookupswitch.offset ps.toList dflt x.toInt = off) (ht : (pc : Int) + off = (tgt : Int)) (k : zE G R QQ own mn cc nL ret n0 tgt L st n mi ml mr) : zE G R QQ own mn cc nL ret n0 pc L (.int x :: st) n mi ml mr := by
  intro p e s m args below meth c H locs ls hC hR hL hn
  exact lv_lookup hC.1 hC.2.1 hd hq ho ht (k p e s m args below meth c H locs ls hC hR hL hn)
end ZROWS
def zl2 : Value → Bool
  | .long _ => true
  | .double _ => true
  | _ => false
theorem zl2_m {a : Value} (h : zl2 a = false) : (match a with | .long _ => zx | .double _ => zx | b => b) = a := by cases a <;> first | rfl | (simp [zl2] at h)
theorem zst1_0 {a0 v : Value} {t : List Value} : zst1 (a0 :: t) 0 v = v :: t := rfl
theorem zst2_0 {a0 a1 v : Value} {t : List Value} : zst2 (a0 :: a1 :: t) 0 v = v :: zx :: t := rfl
theorem zst1_1 {a0 a1 v : Value} {t : List Value} (h : zl2 a0 = false) : zst1 (a0 :: a1 :: t) 1 v = a0 :: v :: t := by
  cases a0 <;> first | rfl | (simp [zl2] at h)
theorem zst2_1 {a0 a1 a2 v : Value} {t : List Value} (h : zl2 a0 = false) : zst2 (a0 :: a1 :: a2 :: t) 1 v = a0 :: v :: zx :: t := by
  cases a0 <;> first | rfl | (simp [zl2] at h)
theorem zst1_2 {a0 a1 a2 v : Value} {t : List Value} (h : zl2 a1 = false) : zst1 (a0 :: a1 :: a2 :: t) 2 v = a0 :: a1 :: v :: t := by
  cases a1 <;> first | rfl | (simp [zl2] at h)
theorem zst2_2 {a0 a1 a2 a3 v : Value} {t : List Value} (h : zl2 a1 = false) : zst2 (a0 :: a1 :: a2 :: a3 :: t) 2 v = a0 :: a1 :: v :: zx :: t := by
  cases a1 <;> first | rfl | (simp [zl2] at h)
theorem zst1_3 {a0 a1 a2 a3 v : Value} {t : List Value} (h : zl2 a2 = false) : zst1 (a0 :: a1 :: a2 :: a3 :: t) 3 v = a0 :: a1 :: a2 :: v :: t := by
  cases a2 <;> first | rfl | (simp [zl2] at h)
theorem zst2_3 {a0 a1 a2 a3 a4 v : Value} {t : List Value} (h : zl2 a2 = false) : zst2 (a0 :: a1 :: a2 :: a3 :: a4 :: t) 3 v = a0 :: a1 :: a2 :: v :: zx :: t := by
  cases a2 <;> first | rfl | (simp [zl2] at h)
theorem zst1_4 {a0 a1 a2 a3 a4 v : Value} {t : List Value} (h : zl2 a3 = false) : zst1 (a0 :: a1 :: a2 :: a3 :: a4 :: t) 4 v = a0 :: a1 :: a2 :: a3 :: v :: t := by
  cases a3 <;> first | rfl | (simp [zl2] at h)
theorem zst2_4 {a0 a1 a2 a3 a4 a5 v : Value} {t : List Value} (h : zl2 a3 = false) : zst2 (a0 :: a1 :: a2 :: a3 :: a4 :: a5 :: t) 4 v = a0 :: a1 :: a2 :: a3 :: v :: zx :: t := by
  cases a3 <;> first | rfl | (simp [zl2] at h)
theorem zst1_5 {a0 a1 a2 a3 a4 a5 v : Value} {t : List Value} (h : zl2 a4 = false) : zst1 (a0 :: a1 :: a2 :: a3 :: a4 :: a5 :: t) 5 v = a0 :: a1 :: a2 :: a3 :: a4 :: v :: t := by
  cases a4 <;> first | rfl | (simp [zl2] at h)
theorem zst2_5 {a0 a1 a2 a3 a4 a5 a6 v : Value} {t : List Value} (h : zl2 a4 = false) : zst2 (a0 :: a1 :: a2 :: a3 :: a4 :: a5 :: a6 :: t) 5 v = a0 :: a1 :: a2 :: a3 :: a4 :: v :: zx :: t := by
  cases a4 <;> first | rfl | (simp [zl2] at h)
theorem zst1_6 {a0 a1 a2 a3 a4 a5 a6 v : Value} {t : List Value} (h : zl2 a5 = false) : zst1 (a0 :: a1 :: a2 :: a3 :: a4 :: a5 :: a6 :: t) 6 v = a0 :: a1 :: a2 :: a3 :: a4 :: a5 :: v :: t := by
  cases a5 <;> first | rfl | (simp [zl2] at h)
theorem zst2_6 {a0 a1 a2 a3 a4 a5 a6 a7 v : Value} {t : List Value} (h : zl2 a5 = false) : zst2 (a0 :: a1 :: a2 :: a3 :: a4 :: a5 :: a6 :: a7 :: t) 6 v = a0 :: a1 :: a2 :: a3 :: a4 :: a5 :: v :: zx :: t := by
  cases a5 <;> first | rfl | (simp [zl2] at h)
theorem zst1_7 {a0 a1 a2 a3 a4 a5 a6 a7 v : Value} {t : List Value} (h : zl2 a6 = false) : zst1 (a0 :: a1 :: a2 :: a3 :: a4 :: a5 :: a6 :: a7 :: t) 7 v = a0 :: a1 :: a2 :: a3 :: a4 :: a5 :: a6 :: v :: t := by
  cases a6 <;> first | rfl | (simp [zl2] at h)
theorem zst2_7 {a0 a1 a2 a3 a4 a5 a6 a7 a8 v : Value} {t : List Value} (h : zl2 a6 = false) : zst2 (a0 :: a1 :: a2 :: a3 :: a4 :: a5 :: a6 :: a7 :: a8 :: t) 7 v = a0 :: a1 :: a2 :: a3 :: a4 :: a5 :: a6 :: v :: zx :: t := by
  cases a6 <;> first | rfl | (simp [zl2] at h)
theorem zst1_8 {a0 a1 a2 a3 a4 a5 a6 a7 a8 v : Value} {t : List Value} (h : zl2 a7 = false) : zst1 (a0 :: a1 :: a2 :: a3 :: a4 :: a5 :: a6 :: a7 :: a8 :: t) 8 v = a0 :: a1 :: a2 :: a3 :: a4 :: a5 :: a6 :: a7 :: v :: t := by
  cases a7 <;> first | rfl | (simp [zl2] at h)
theorem zst2_8 {a0 a1 a2 a3 a4 a5 a6 a7 a8 a9 v : Value} {t : List Value} (h : zl2 a7 = false) : zst2 (a0 :: a1 :: a2 :: a3 :: a4 :: a5 :: a6 :: a7 :: a8 :: a9 :: t) 8 v = a0 :: a1 :: a2 :: a3 :: a4 :: a5 :: a6 :: a7 :: v :: zx :: t := by
  cases a7 <;> first | rfl | (simp [zl2] at h)
theorem zst1_9 {a0 a1 a2 a3 a4 a5 a6 a7 a8 a9 v : Value} {t : List Value} (h : zl2 a8 = false) : zst1 (a0 :: a1 :: a2 :: a3 :: a4 :: a5 :: a6 :: a7 :: a8 :: a9 :: t) 9 v = a0 :: a1 :: a2 :: a3 :: a4 :: a5 :: a6 :: a7 :: a8 :: v :: t := by
  cases a8 <;> first | rfl | (simp [zl2] at h)
theorem zst2_9 {a0 a1 a2 a3 a4 a5 a6 a7 a8 a9 a10 v : Value} {t : List Value} (h : zl2 a8 = false) : zst2 (a0 :: a1 :: a2 :: a3 :: a4 :: a5 :: a6 :: a7 :: a8 :: a9 :: a10 :: t) 9 v = a0 :: a1 :: a2 :: a3 :: a4 :: a5 :: a6 :: a7 :: a8 :: v :: zx :: t := by
  cases a8 <;> first | rfl | (simp [zl2] at h)
theorem zst1_10 {a0 a1 a2 a3 a4 a5 a6 a7 a8 a9 a10 v : Value} {t : List Value} (h : zl2 a9 = false) : zst1 (a0 :: a1 :: a2 :: a3 :: a4 :: a5 :: a6 :: a7 :: a8 :: a9 :: a10 :: t) 10 v = a0 :: a1 :: a2 :: a3 :: a4 :: a5 :: a6 :: a7 :: a8 :: a9 :: v :: t := by
  cases a9 <;> first | rfl | (simp [zl2] at h)
theorem zst2_10 {a0 a1 a2 a3 a4 a5 a6 a7 a8 a9 a10 a11 v : Value} {t : List Value} (h : zl2 a9 = false) : zst2 (a0 :: a1 :: a2 :: a3 :: a4 :: a5 :: a6 :: a7 :: a8 :: a9 :: a10 :: a11 :: t) 10 v = a0 :: a1 :: a2 :: a3 :: a4 :: a5 :: a6 :: a7 :: a8 :: a9 :: v :: zx :: t := by
  cases a9 <;> first | rfl | (simp [zl2] at h)
theorem zst1_11 {a0 a1 a2 a3 a4 a5 a6 a7 a8 a9 a10 a11 v : Value} {t : List Value} (h : zl2 a10 = false) : zst1 (a0 :: a1 :: a2 :: a3 :: a4 :: a5 :: a6 :: a7 :: a8 :: a9 :: a10 :: a11 :: t) 11 v = a0 :: a1 :: a2 :: a3 :: a4 :: a5 :: a6 :: a7 :: a8 :: a9 :: a10 :: v :: t := by
  cases a10 <;> first | rfl | (simp [zl2] at h)
theorem zst2_11 {a0 a1 a2 a3 a4 a5 a6 a7 a8 a9 a10 a11 a12 v : Value} {t : List Value} (h : zl2 a10 = false) : zst2 (a0 :: a1 :: a2 :: a3 :: a4 :: a5 :: a6 :: a7 :: a8 :: a9 :: a10 :: a11 :: a12 :: t) 11 v = a0 :: a1 :: a2 :: a3 :: a4 :: a5 :: a6 :: a7 :: a8 :: a9 :: a10 :: v :: zx :: t := by
  cases a10 <;> first | rfl | (simp [zl2] at h)
theorem zst1_12 {a0 a1 a2 a3 a4 a5 a6 a7 a8 a9 a10 a11 a12 v : Value} {t : List Value} (h : zl2 a11 = false) : zst1 (a0 :: a1 :: a2 :: a3 :: a4 :: a5 :: a6 :: a7 :: a8 :: a9 :: a10 :: a11 :: a12 :: t) 12 v = a0 :: a1 :: a2 :: a3 :: a4 :: a5 :: a6 :: a7 :: a8 :: a9 :: a10 :: a11 :: v :: t := by
  cases a11 <;> first | rfl | (simp [zl2] at h)
theorem zst2_12 {a0 a1 a2 a3 a4 a5 a6 a7 a8 a9 a10 a11 a12 a13 v : Value} {t : List Value} (h : zl2 a11 = false) : zst2 (a0 :: a1 :: a2 :: a3 :: a4 :: a5 :: a6 :: a7 :: a8 :: a9 :: a10 :: a11 :: a12 :: a13 :: t) 12 v = a0 :: a1 :: a2 :: a3 :: a4 :: a5 :: a6 :: a7 :: a8 :: a9 :: a10 :: a11 :: v :: zx :: t := by
  cases a11 <;> first | rfl | (simp [zl2] at h)
theorem zst1_13 {a0 a1 a2 a3 a4 a5 a6 a7 a8 a9 a10 a11 a12 a13 v : Value} {t : List Value} (h : zl2 a12 = false) : zst1 (a0 :: a1 :: a2 :: a3 :: a4 :: a5 :: a6 :: a7 :: a8 :: a9 :: a10 :: a11 :: a12 :: a13 :: t) 13 v = a0 :: a1 :: a2 :: a3 :: a4 :: a5 :: a6 :: a7 :: a8 :: a9 :: a10 :: a11 :: a12 :: v :: t := by
  cases a12 <;> first | rfl | (simp [zl2] at h)
theorem zst2_13 {a0 a1 a2 a3 a4 a5 a6 a7 a8 a9 a10 a11 a12 a13 a14 v : Value} {t : List Value} (h : zl2 a12 = false) : zst2 (a0 :: a1 :: a2 :: a3 :: a4 :: a5 :: a6 :: a7 :: a8 :: a9 :: a10 :: a11 :: a12 :: a13 :: a14 :: t) 13 v = a0 :: a1 :: a2 :: a3 :: a4 :: a5 :: a6 :: a7 :: a8 :: a9 :: a10 :: a11 :: a12 :: v :: zx :: t := by
  cases a12 <;> first | rfl | (simp [zl2] at h)
theorem zst1_14 {a0 a1 a2 a3 a4 a5 a6 a7 a8 a9 a10 a11 a12 a13 a14 v : Value} {t : List Value} (h : zl2 a13 = false) : zst1 (a0 :: a1 :: a2 :: a3 :: a4 :: a5 :: a6 :: a7 :: a8 :: a9 :: a10 :: a11 :: a12 :: a13 :: a14 :: t) 14 v = a0 :: a1 :: a2 :: a3 :: a4 :: a5 :: a6 :: a7 :: a8 :: a9 :: a10 :: a11 :: a12 :: a13 :: v :: t := by
  cases a13 <;> first | rfl | (simp [zl2] at h)
theorem zst2_14 {a0 a1 a2 a3 a4 a5 a6 a7 a8 a9 a10 a11 a12 a13 a14 a15 v : Value} {t : List Value} (h : zl2 a13 = false) : zst2 (a0 :: a1 :: a2 :: a3 :: a4 :: a5 :: a6 :: a7 :: a8 :: a9 :: a10 :: a11 :: a12 :: a13 :: a14 :: a15 :: t) 14 v = a0 :: a1 :: a2 :: a3 :: a4 :: a5 :: a6 :: a7 :: a8 :: a9 :: a10 :: a11 :: a12 :: a13 :: v :: zx :: t := by
  cases a13 <;> first | rfl | (simp [zl2] at h)
