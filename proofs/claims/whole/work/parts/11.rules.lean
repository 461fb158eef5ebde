section GR
variable {sc : SC} {y : MI} {pc : Nat} {L : List (Option AV)} {st : List AV} {M : HM} {Q : Option AV → HM → Prop}
theorem G_iconst {n : Int} {v : Int32} (hd : decode y.2.1 pc = .ok (.iconst n, 1)) (hv : Int32.ofInt n = v) (k : G sc y (pc + 1) L (aI v :: st) M Q) : G sc y pc L (st) M Q := by
  intro f l p e s m args below meth c H locs cells slots mc ms ls C Wd hM hS hl hB h1 h2
  exact lv_iconst C.1 C.2.1 hd hv (k f l p e s m args below meth c H locs cells slots mc ms ls C Wd hM hS hl hB h1 h2)
theorem G_bipush {n : Int} {v : Int32} (hd : decode y.2.1 pc = .ok (.bipush n, 2)) (hv : (Int8.ofInt n).toInt32 = v) (k : G sc y (pc + 2) L (aI v :: st) M Q) : G sc y pc L (st) M Q := by
  intro f l p e s m args below meth c H locs cells slots mc ms ls C Wd hM hS hl hB h1 h2
  exact lv_bipush C.1 C.2.1 hd hv (k f l p e s m args below meth c H locs cells slots mc ms ls C Wd hM hS hl hB h1 h2)
theorem G_sipush {n : Int} {v : Int32} (hd : decode y.2.1 pc = .ok (.sipush n, 3)) (hv : (Int16.ofInt n).toInt32 = v) (k : G sc y (pc + 3) L (aI v :: st) M Q) : G sc y pc L (st) M Q := by
  intro f l p e s m args below meth c H locs cells slots mc ms ls C Wd hM hS hl hB h1 h2
  exact lv_sipush C.1 C.2.1 hd hv (k f l p e s m args below meth c H locs cells slots mc ms ls C Wd hM hS hl hB h1 h2)
theorem G_lconst {n : Fin 2} {v : Int64} (hd : decode y.2.1 pc = .ok (.lconst n, 1)) (hv : Int64.ofNat (n : Nat) = v) (k : G sc y (pc + 1) L (aL v :: st) M Q) : G sc y pc L (st) M Q := by
  intro f l p e s m args below meth c H locs cells slots mc ms ls C Wd hM hS hl hB h1 h2
  exact lv_lconst C.1 C.2.1 hd hv (k f l p e s m args below meth c H locs cells slots mc ms ls C Wd hM hS hl hB h1 h2)
theorem G_iadd {x z : Int32} (hd : decode y.2.1 pc = .ok (.iadd, 1)) (k : G sc y (pc + 1) L (aI (x + z) :: st) M Q) : G sc y pc L (aI z :: aI x :: st) M Q := by
  intro f l p e s m args below meth c H locs cells slots mc ms ls C Wd hM hS hl hB h1 h2
  exact lv_iadd C.1 C.2.1 hd (k f l p e s m args below meth c H locs cells slots mc ms ls C Wd hM hS hl hB h1 h2)
theorem G_isub {x z : Int32} (hd : decode y.2.1 pc = .ok (.isub, 1)) (k : G sc y (pc + 1) L (aI (x - z) :: st) M Q) : G sc y pc L (aI z :: aI x :: st) M Q := by
  intro f l p e s m args below meth c H locs cells slots mc ms ls C Wd hM hS hl hB h1 h2
  exact lv_isub C.1 C.2.1 hd (k f l p e s m args below meth c H locs cells slots mc ms ls C Wd hM hS hl hB h1 h2)
theorem G_imul {x z : Int32} (hd : decode y.2.1 pc = .ok (.imul, 1)) (k : G sc y (pc + 1) L (aI (x * z) :: st) M Q) : G sc y pc L (aI z :: aI x :: st) M Q := by
  intro f l p e s m args below meth c H locs cells slots mc ms ls C Wd hM hS hl hB h1 h2
  exact lv_imul C.1 C.2.1 hd (k f l p e s m args below meth c H locs cells slots mc ms ls C Wd hM hS hl hB h1 h2)
theorem G_iand {x z : Int32} (hd : decode y.2.1 pc = .ok (.iand, 1)) (k : G sc y (pc + 1) L (aI (x &&& z) :: st) M Q) : G sc y pc L (aI z :: aI x :: st) M Q := by
  intro f l p e s m args below meth c H locs cells slots mc ms ls C Wd hM hS hl hB h1 h2
  exact lv_iand C.1 C.2.1 hd (k f l p e s m args below meth c H locs cells slots mc ms ls C Wd hM hS hl hB h1 h2)
theorem G_ior {x z : Int32} (hd : decode y.2.1 pc = .ok (.ior, 1)) (k : G sc y (pc + 1) L (aI (x ||| z) :: st) M Q) : G sc y pc L (aI z :: aI x :: st) M Q := by
  intro f l p e s m args below meth c H locs cells slots mc ms ls C Wd hM hS hl hB h1 h2
  exact lv_ior C.1 C.2.1 hd (k f l p e s m args below meth c H locs cells slots mc ms ls C Wd hM hS hl hB h1 h2)
theorem G_ixor {x z : Int32} (hd : decode y.2.1 pc = .ok (.ixor, 1)) (k : G sc y (pc + 1) L (aI (x ^^^ z) :: st) M Q) : G sc y pc L (aI z :: aI x :: st) M Q := by
  intro f l p e s m args below meth c H locs cells slots mc ms ls C Wd hM hS hl hB h1 h2
  exact lv_ixor C.1 C.2.1 hd (k f l p e s m args below meth c H locs cells slots mc ms ls C Wd hM hS hl hB h1 h2)
theorem G_ishl {x z : Int32} (hd : decode y.2.1 pc = .ok (.ishl, 1)) (k : G sc y (pc + 1) L (aI (x <<< (z &&& 31)) :: st) M Q) : G sc y pc L (aI z :: aI x :: st) M Q := by
  intro f l p e s m args below meth c H locs cells slots mc ms ls C Wd hM hS hl hB h1 h2
  exact lv_ishl C.1 C.2.1 hd (k f l p e s m args below meth c H locs cells slots mc ms ls C Wd hM hS hl hB h1 h2)
theorem G_ishr {x z : Int32} (hd : decode y.2.1 pc = .ok (.ishr, 1)) (k : G sc y (pc + 1) L (aI (x >>> (z &&& 31)) :: st) M Q) : G sc y pc L (aI z :: aI x :: st) M Q := by
  intro f l p e s m args below meth c H locs cells slots mc ms ls C Wd hM hS hl hB h1 h2
  exact lv_ishr C.1 C.2.1 hd (k f l p e s m args below meth c H locs cells slots mc ms ls C Wd hM hS hl hB h1 h2)
theorem G_idiv {x z : Int32} (hd : decode y.2.1 pc = .ok (.idiv, 1)) (hne : ¬ z = 0) (k : G sc y (pc + 1) L (aI (x / z) :: st) M Q) : G sc y pc L (aI z :: aI x :: st) M Q := by
  intro f l p e s m args below meth c H locs cells slots mc ms ls C Wd hM hS hl hB h1 h2
  exact lv_idiv C.1 C.2.1 hd hne (k f l p e s m args below meth c H locs cells slots mc ms ls C Wd hM hS hl hB h1 h2)
theorem G_irem {x z : Int32} (hd : decode y.2.1 pc = .ok (.irem, 1)) (hne : ¬ z = 0) (k : G sc y (pc + 1) L (aI (x - x / z * z) :: st) M Q) : G sc y pc L (aI z :: aI x :: st) M Q := by
  intro f l p e s m args below meth c H locs cells slots mc ms ls C Wd hM hS hl hB h1 h2
  exact lv_irem C.1 C.2.1 hd hne (k f l p e s m args below meth c H locs cells slots mc ms ls C Wd hM hS hl hB h1 h2)
theorem G_iushr {x z : Int32} (hd : decode y.2.1 pc = .ok (.iushr, 1)) (k : G sc y (pc + 1) L (aI ((x.toUInt32 >>> (z.toUInt32 &&& Int32.toUInt32 31)).toInt32) :: st) M Q) : G sc y pc L (aI z :: aI x :: st) M Q := by
  intro f l p e s m args below meth c H locs cells slots mc ms ls C Wd hM hS hl hB h1 h2
  exact lv_iushr C.1 C.2.1 hd rfl (k f l p e s m args below meth c H locs cells slots mc ms ls C Wd hM hS hl hB h1 h2)
theorem G_ladd {x z : Int64} (hd : decode y.2.1 pc = .ok (.ladd, 1)) (k : G sc y (pc + 1) L (aL (x + z) :: st) M Q) : G sc y pc L (aL z :: aL x :: st) M Q := by
  intro f l p e s m args below meth c H locs cells slots mc ms ls C Wd hM hS hl hB h1 h2
  exact lv_ladd C.1 C.2.1 hd (k f l p e s m args below meth c H locs cells slots mc ms ls C Wd hM hS hl hB h1 h2)
theorem G_lsub {x z : Int64} (hd : decode y.2.1 pc = .ok (.lsub, 1)) (k : G sc y (pc + 1) L (aL (x - z) :: st) M Q) : G sc y pc L (aL z :: aL x :: st) M Q := by
  intro f l p e s m args below meth c H locs cells slots mc ms ls C Wd hM hS hl hB h1 h2
  exact lv_lsub C.1 C.2.1 hd (k f l p e s m args below meth c H locs cells slots mc ms ls C Wd hM hS hl hB h1 h2)
theorem G_land {x z : Int64} (hd : decode y.2.1 pc = .ok (.land, 1)) (k : G sc y (pc + 1) L (aL (x &&& z) :: st) M Q) : G sc y pc L (aL z :: aL x :: st) M Q := by
  intro f l p e s m args below meth c H locs cells slots mc ms ls C Wd hM hS hl hB h1 h2
  exact lv_land C.1 C.2.1 hd (k f l p e s m args below meth c H locs cells slots mc ms ls C Wd hM hS hl hB h1 h2)
theorem G_lor {x z : Int64} (hd : decode y.2.1 pc = .ok (.lor, 1)) (k : G sc y (pc + 1) L (aL (x ||| z) :: st) M Q) : G sc y pc L (aL z :: aL x :: st) M Q := by
  intro f l p e s m args below meth c H locs cells slots mc ms ls C Wd hM hS hl hB h1 h2
  exact lv_lor C.1 C.2.1 hd (k f l p e s m args below meth c H locs cells slots mc ms ls C Wd hM hS hl hB h1 h2)
theorem G_lushr {x : Int64} {z : Int32} (hd : decode y.2.1 pc = .ok (.lushr, 1)) (k : G sc y (pc + 1) L (aL ((x.toUInt64 >>> (z.toInt64.toUInt64 &&& Int64.toUInt64 63)).toInt64) :: st) M Q) : G sc y pc L (aI z :: aL x :: st) M Q := by
  intro f l p e s m args below meth c H locs cells slots mc ms ls C Wd hM hS hl hB h1 h2
  exact lv_lushr C.1 C.2.1 hd rfl (k f l p e s m args below meth c H locs cells slots mc ms ls C Wd hM hS hl hB h1 h2)
theorem G_lshl {x : Int64} {z : Int32} (hd : decode y.2.1 pc = .ok (.lshl, 1)) (k : G sc y (pc + 1) L (aL (x <<< (z.toInt64 &&& 63)) :: st) M Q) : G sc y pc L (aI z :: aL x :: st) M Q := by
  intro f l p e s m args below meth c H locs cells slots mc ms ls C Wd hM hS hl hB h1 h2
  exact lv_lshl C.1 C.2.1 hd rfl (k f l p e s m args below meth c H locs cells slots mc ms ls C Wd hM hS hl hB h1 h2)
theorem G_lshr {x : Int64} {z : Int32} (hd : decode y.2.1 pc = .ok (.lshr, 1)) (k : G sc y (pc + 1) L (aL (x >>> (z.toInt64 &&& 63)) :: st) M Q) : G sc y pc L (aI z :: aL x :: st) M Q := by
  intro f l p e s m args below meth c H locs cells slots mc ms ls C Wd hM hS hl hB h1 h2
  exact lv_lshr C.1 C.2.1 hd rfl (k f l p e s m args below meth c H locs cells slots mc ms ls C Wd hM hS hl hB h1 h2)
theorem G_i2l {x : Int32} (hd : decode y.2.1 pc = .ok (.i2l, 1)) (k : G sc y (pc + 1) L (aL x.toInt64 :: st) M Q) : G sc y pc L (aI x :: st) M Q := by
  intro f l p e s m args below meth c H locs cells slots mc ms ls C Wd hM hS hl hB h1 h2
  exact lv_i2l C.1 C.2.1 hd rfl (k f l p e s m args below meth c H locs cells slots mc ms ls C Wd hM hS hl hB h1 h2)
theorem G_l2i {x : Int64} (hd : decode y.2.1 pc = .ok (.l2i, 1)) (k : G sc y (pc + 1) L (aI x.toInt32 :: st) M Q) : G sc y pc L (aL x :: st) M Q := by
  intro f l p e s m args below meth c H locs cells slots mc ms ls C Wd hM hS hl hB h1 h2
  exact lv_l2i C.1 C.2.1 hd rfl (k f l p e s m args below meth c H locs cells slots mc ms ls C Wd hM hS hl hB h1 h2)
theorem G_i2b {x : Int32} (hd : decode y.2.1 pc = .ok (.i2b, 1)) (k : G sc y (pc + 1) L (aI x.toInt8.toInt32 :: st) M Q) : G sc y pc L (aI x :: st) M Q := by
  intro f l p e s m args below meth c H locs cells slots mc ms ls C Wd hM hS hl hB h1 h2
  exact lv_i2b C.1 C.2.1 hd rfl (k f l p e s m args below meth c H locs cells slots mc ms ls C Wd hM hS hl hB h1 h2)
theorem G_i2s {x : Int32} (hd : decode y.2.1 pc = .ok (.i2s, 1)) (k : G sc y (pc + 1) L (aI x.toInt16.toInt32 :: st) M Q) : G sc y pc L (aI x :: st) M Q := by
  intro f l p e s m args below meth c H locs cells slots mc ms ls C Wd hM hS hl hB h1 h2
  exact lv_i2s C.1 C.2.1 hd rfl (k f l p e s m args below meth c H locs cells slots mc ms ls C Wd hM hS hl hB h1 h2)
theorem G_i2c {x : Int32} (hd : decode y.2.1 pc = .ok (.i2c, 1)) (k : G sc y (pc + 1) L (aI (x.toUInt32 % 65536).toInt32 :: st) M Q) : G sc y pc L (aI x :: st) M Q := by
  intro f l p e s m args below meth c H locs cells slots mc ms ls C Wd hM hS hl hB h1 h2
  exact lv_i2c C.1 C.2.1 hd rfl (k f l p e s m args below meth c H locs cells slots mc ms ls C Wd hM hS hl hB h1 h2)
theorem G_lcmp {x z : Int64} (hd : decode y.2.1 pc = .ok (.lcmp, 1)) (k : G sc y (pc + 1) L (aI (lg_cmp x z) :: st) M Q) : G sc y pc L (aL z :: aL x :: st) M Q := by
  intro f l p e s m args below meth c H locs cells slots mc ms ls C Wd hM hS hl hB h1 h2
  exact W.lcmp C.1 C.2.1 hd (k f l p e s m args below meth c H locs cells slots mc ms ls C Wd hM hS hl hB h1 h2)
def gC1 (v : AV) : Bool := match v with
  | .inr (.inl _) => false
  | _ => true
theorem gC1_cat {f : Cf} {v : AV} (h : gC1 v = true) : (cvv f v).category = 1 := by
  rcases v with x | x | k | k
  · rfl
  · cases h
  · rfl
  · cases k <;> rfl
theorem G_dup {v : AV} (hd : decode y.2.1 pc = .ok (.dup, 1)) (hv : gC1 v = true) (k : G sc y (pc + 1) L (v :: v :: st) M Q) : G sc y pc L (v :: st) M Q := by
  intro f l p e s m args below meth c H locs cells slots mc ms ls C Wd hM hS hl hB h1 h2
  exact lv_dup C.1 C.2.1 hd (gC1_cat hv) (k f l p e s m args below meth c H locs cells slots mc ms ls C Wd hM hS hl hB h1 h2)
theorem G_pop {v : AV} (hd : decode y.2.1 pc = .ok (.pop, 1)) (hv : gC1 v = true) (k : G sc y (pc + 1) L (st) M Q) : G sc y pc L (v :: st) M Q := by
  intro f l p e s m args below meth c H locs cells slots mc ms ls C Wd hM hS hl hB h1 h2
  exact lv_pop C.1 C.2.1 hd (gC1_cat hv) (k f l p e s m args below meth c H locs cells slots mc ms ls C Wd hM hS hl hB h1 h2)
theorem G_dup2 {v w : AV} (hd : decode y.2.1 pc = .ok (.dup2, 1)) (hv : gC1 v = true) (hw : gC1 w = true) (k : G sc y (pc + 1) L (v :: w :: v :: w :: st) M Q) : G sc y pc L (v :: w :: st) M Q := by
  intro f l p e s m args below meth c H locs cells slots mc ms ls C Wd hM hS hl hB h1 h2
  exact lv_dup2_11 C.1 C.2.1 hd (gC1_cat hv) (gC1_cat hw) (k f l p e s m args below meth c H locs cells slots mc ms ls C Wd hM hS hl hB h1 h2)
theorem G_dup_x1 {v w : AV} (hd : decode y.2.1 pc = .ok (.dup_x1, 1)) (hv : gC1 v = true) (hw : gC1 w = true) (k : G sc y (pc + 1) L (v :: w :: v :: st) M Q) : G sc y pc L (v :: w :: st) M Q := by
  intro f l p e s m args below meth c H locs cells slots mc ms ls C Wd hM hS hl hB h1 h2
  exact lv_dup_x1 C.1 C.2.1 hd (gC1_cat hv) (gC1_cat hw) (k f l p e s m args below meth c H locs cells slots mc ms ls C Wd hM hS hl hB h1 h2)
theorem G_iload_n {j : Fin 4} {i : Nat} {x : Int32} (hd : decode y.2.1 pc = .ok (.iload_n j, 1)) (hi : (j : Nat) = i) (hx : L[i]? = some (some (aI x))) (k : G sc y (pc + 1) L (aI x :: st) M Q) : G sc y pc L st M Q := by
  intro f l p e s m args below meth c H locs cells slots mc ms ls C Wd hM hS hl hB h1 h2
  exact lv_iload_n C.1 C.2.1 hd hi (g_lv hl hx) (k f l p e s m args below meth c H locs cells slots mc ms ls C Wd hM hS hl hB h1 h2)
theorem G_iload {i : Nat} {x : Int32} (hd : decode y.2.1 pc = .ok (.iload i, 2)) (hx : L[i]? = some (some (aI x))) (k : G sc y (pc + 2) L (aI x :: st) M Q) : G sc y pc L st M Q := by
  intro f l p e s m args below meth c H locs cells slots mc ms ls C Wd hM hS hl hB h1 h2
  exact lv_iload C.1 C.2.1 hd (g_lv hl hx) (k f l p e s m args below meth c H locs cells slots mc ms ls C Wd hM hS hl hB h1 h2)
theorem G_lload_n {j : Fin 4} {i : Nat} {x : Int64} (hd : decode y.2.1 pc = .ok (.lload_n j, 1)) (hi : (j : Nat) = i) (hx : L[i]? = some (some (aL x))) (k : G sc y (pc + 1) L (aL x :: st) M Q) : G sc y pc L st M Q := by
  intro f l p e s m args below meth c H locs cells slots mc ms ls C Wd hM hS hl hB h1 h2
  exact lv_lload_n C.1 C.2.1 hd hi (g_lv hl hx) (k f l p e s m args below meth c H locs cells slots mc ms ls C Wd hM hS hl hB h1 h2)
theorem G_lload {i : Nat} {x : Int64} (hd : decode y.2.1 pc = .ok (.lload i, 2)) (hx : L[i]? = some (some (aL x))) (k : G sc y (pc + 2) L (aL x :: st) M Q) : G sc y pc L st M Q := by
  intro f l p e s m args below meth c H locs cells slots mc ms ls C Wd hM hS hl hB h1 h2
  exact lv_lload C.1 C.2.1 hd (g_lv hl hx) (k f l p e s m args below meth c H locs cells slots mc ms ls C Wd hM hS hl hB h1 h2)
theorem G_aload_n {j : Fin 4} {i : Nat} {x : Nat} (hd : decode y.2.1 pc = .ok (.aload_n j, 1)) (hi : (j : Nat) = i) (hx : L[i]? = some (some (aR x))) (k : G sc y (pc + 1) L (aR x :: st) M Q) : G sc y pc L st M Q := by
  intro f l p e s m args below meth c H locs cells slots mc ms ls C Wd hM hS hl hB h1 h2
  exact lv_aload_n C.1 C.2.1 hd hi (g_lv hl hx) (k f l p e s m args below meth c H locs cells slots mc ms ls C Wd hM hS hl hB h1 h2)
theorem G_aload {i : Nat} {x : Nat} (hd : decode y.2.1 pc = .ok (.aload i, 2)) (hx : L[i]? = some (some (aR x))) (k : G sc y (pc + 2) L (aR x :: st) M Q) : G sc y pc L st M Q := by
  intro f l p e s m args below meth c H locs cells slots mc ms ls C Wd hM hS hl hB h1 h2
  exact lv_aload C.1 C.2.1 hd (g_lv hl hx) (k f l p e s m args below meth c H locs cells slots mc ms ls C Wd hM hS hl hB h1 h2)
theorem G_eload_n {j : Fin 4} {i x : Nat} (hd : decode y.2.1 pc = .ok (.aload_n j, 1)) (hi : (j : Nat) = i) (hx : L[i]? = some (some (aE (x + 1)))) (k : G sc y (pc + 1) L (aE (x + 1) :: st) M Q) : G sc y pc L st M Q := by
  intro f l p e s m args below meth c H locs cells slots mc ms ls C Wd hM hS hl hB h1 h2
  exact lv_aload_n C.1 C.2.1 hd hi (g_lv hl hx) (k f l p e s m args below meth c H locs cells slots mc ms ls C Wd hM hS hl hB h1 h2)
theorem G_eload {i x : Nat} (hd : decode y.2.1 pc = .ok (.aload i, 2)) (hx : L[i]? = some (some (aE (x + 1)))) (k : G sc y (pc + 2) L (aE (x + 1) :: st) M Q) : G sc y pc L st M Q := by
  intro f l p e s m args below meth c H locs cells slots mc ms ls C Wd hM hS hl hB h1 h2
  exact lv_aload C.1 C.2.1 hd (g_lv hl hx) (k f l p e s m args below meth c H locs cells slots mc ms ls C Wd hM hS hl hB h1 h2)
theorem G_istore_n {j : Fin 4} {i : Nat} {x : Int32} (hd : decode y.2.1 pc = .ok (.istore_n j, 1)) (hi : (j : Nat) = i) (hn : i < y.2.2.1) (hok : gOk L i = true) (k : G sc y (pc + 1) (L.set i (some (aI x))) st M Q) : G sc y pc L (aI x :: st) M Q := by
  intro f l p e s m args below meth c H locs cells slots mc ms ls C Wd hM hS hl hB h1 h2
  exact lv_istore_n C.1 C.2.1 hd hi hl hn rfl (fun ls9 hl9 => k f l p e s m args below meth c H locs cells slots mc ms ls9 C Wd hM hS (g_st1 hok hl9) hB h1 h2)
theorem G_istore {i : Nat} {x : Int32} (hd : decode y.2.1 pc = .ok (.istore i, 2)) (hn : i < y.2.2.1) (hok : gOk L i = true) (k : G sc y (pc + 2) (L.set i (some (aI x))) st M Q) : G sc y pc L (aI x :: st) M Q := by
  intro f l p e s m args below meth c H locs cells slots mc ms ls C Wd hM hS hl hB h1 h2
  exact lv_istore C.1 C.2.1 hd hl hn rfl (fun ls9 hl9 => k f l p e s m args below meth c H locs cells slots mc ms ls9 C Wd hM hS (g_st1 hok hl9) hB h1 h2)
theorem G_astore_n {j : Fin 4} {i : Nat} {x : Nat} (hd : decode y.2.1 pc = .ok (.astore_n j, 1)) (hi : (j : Nat) = i) (hn : i < y.2.2.1) (hok : gOk L i = true) (k : G sc y (pc + 1) (L.set i (some (aR x))) st M Q) : G sc y pc L (aR x :: st) M Q := by
  intro f l p e s m args below meth c H locs cells slots mc ms ls C Wd hM hS hl hB h1 h2
  exact lv_astore_n C.1 C.2.1 hd hi hl hn rfl (fun ls9 hl9 => k f l p e s m args below meth c H locs cells slots mc ms ls9 C Wd hM hS (g_st1 hok hl9) hB h1 h2)
theorem G_astore {i : Nat} {x : Nat} (hd : decode y.2.1 pc = .ok (.astore i, 2)) (hn : i < y.2.2.1) (hok : gOk L i = true) (k : G sc y (pc + 2) (L.set i (some (aR x))) st M Q) : G sc y pc L (aR x :: st) M Q := by
  intro f l p e s m args below meth c H locs cells slots mc ms ls C Wd hM hS hl hB h1 h2
  exact lv_astore C.1 C.2.1 hd hl hn rfl (fun ls9 hl9 => k f l p e s m args below meth c H locs cells slots mc ms ls9 C Wd hM hS (g_st1 hok hl9) hB h1 h2)
theorem G_lstore_n {j : Fin 4} {i : Nat} {x : Int64} (hd : decode y.2.1 pc = .ok (.lstore_n j, 1)) (hi : (j : Nat) = i) (hn : i + 1 < y.2.2.1) (hok : gOk L i = true) (k : G sc y (pc + 1) ((L.set i (some (aL x))).set (i + 1) none) st M Q) : G sc y pc L (aL x :: st) M Q := by
  intro f l p e s m args below meth c H locs cells slots mc ms ls C Wd hM hS hl hB h1 h2
  exact lv_lstore_n C.1 C.2.1 hd hi hl hn rfl (fun ls9 hl9 => k f l p e s m args below meth c H locs cells slots mc ms ls9 C Wd hM hS (g_st2 hok hl9) hB h1 h2)
theorem G_estore_n {j : Fin 4} {i x : Nat} (hd : decode y.2.1 pc = .ok (.astore_n j, 1)) (hi : (j : Nat) = i) (hn : i < y.2.2.1) (hok : gOk L i = true) (k : G sc y (pc + 1) (L.set i (some (aE (x + 1)))) st M Q) : G sc y pc L (aE (x + 1) :: st) M Q := by
  intro f l p e s m args below meth c H locs cells slots mc ms ls C Wd hM hS hl hB h1 h2
  exact lv_astore_n C.1 C.2.1 hd hi hl hn rfl (fun ls9 hl9 => k f l p e s m args below meth c H locs cells slots mc ms ls9 C Wd hM hS (g_st1 hok hl9) hB h1 h2)
theorem G_iinc {i : Nat} {n : Int} {x v : Int32} (hd : decode y.2.1 pc = .ok (.iinc i n, 3)) (hx : L[i]? = some (some (aI x))) (hv : x + Int32.ofInt n = v) (hn : i < y.2.2.1) (hok : gOk L i = true) (k : G sc y (pc + 3) (L.set i (some (aI v))) st M Q) : G sc y pc L st M Q := by
  intro f l p e s m args below meth c H locs cells slots mc ms ls C Wd hM hS hl hB h1 h2
  obtain ⟨q, hq⟩ := List.getElem?_of_mem (lpr_mem (f := f) L 0 i _ hx)
  exact lv_iinc C.1 C.2.1 hd hl (k := q) (by rw [hq]; simp [cvv]) hv hn rfl (fun ls9 hl9 => k f l p e s m args below meth c H locs cells slots mc ms ls9 C Wd hM hS (g_st1 (v := aI v) hok hl9) hB h1 h2)
theorem G_if_eq {x : Int32} {off : Int} {tgt : Nat} (hd : decode y.2.1 pc = .ok (.ifCond .eq off, 3)) (ht : (pc : Int) + off = (tgt : Int)) (kt : x = 0 → G sc y tgt L st M Q) (kf : ¬ x = 0 → G sc y (pc + 3) L st M Q) : G sc y pc L (aI x :: st) M Q := by
  intro f l p e s m args below meth c H locs cells slots mc ms ls C Wd hM hS hl hB h1 h2
  exact lv_if_eq C.1 C.2.1 hd ht (fun h9 => kt h9 f l p e s m args below meth c H locs cells slots mc ms ls C Wd hM hS hl hB h1 h2) (fun h9 => kf h9 f l p e s m args below meth c H locs cells slots mc ms ls C Wd hM hS hl hB h1 h2)
theorem G_icmp_eq {x z : Int32} {off : Int} {tgt : Nat} (hd : decode y.2.1 pc = .ok (.if_icmp .eq off, 3)) (ht : (pc : Int) + off = (tgt : Int)) (kt : x = z → G sc y tgt L st M Q) (kf : ¬ x = z → G sc y (pc + 3) L st M Q) : G sc y pc L (aI z :: aI x :: st) M Q := by
  intro f l p e s m args below meth c H locs cells slots mc ms ls C Wd hM hS hl hB h1 h2
  exact lv_icmp_eq C.1 C.2.1 hd ht (fun h9 => kt h9 f l p e s m args below meth c H locs cells slots mc ms ls C Wd hM hS hl hB h1 h2) (fun h9 => kf h9 f l p e s m args below meth c H locs cells slots mc ms ls C Wd hM hS hl hB h1 h2)
theorem G_if_ne {x : Int32} {off : Int} {tgt : Nat} (hd : decode y.2.1 pc = .ok (.ifCond .ne off, 3)) (ht : (pc : Int) + off = (tgt : Int)) (kt : ¬ x = 0 → G sc y tgt L st M Q) (kf : x = 0 → G sc y (pc + 3) L st M Q) : G sc y pc L (aI x :: st) M Q := by
  intro f l p e s m args below meth c H locs cells slots mc ms ls C Wd hM hS hl hB h1 h2
  exact lv_if_ne C.1 C.2.1 hd ht (fun h9 => kt h9 f l p e s m args below meth c H locs cells slots mc ms ls C Wd hM hS hl hB h1 h2) (fun h9 => kf h9 f l p e s m args below meth c H locs cells slots mc ms ls C Wd hM hS hl hB h1 h2)
theorem G_icmp_ne {x z : Int32} {off : Int} {tgt : Nat} (hd : decode y.2.1 pc = .ok (.if_icmp .ne off, 3)) (ht : (pc : Int) + off = (tgt : Int)) (kt : ¬ x = z → G sc y tgt L st M Q) (kf : x = z → G sc y (pc + 3) L st M Q) : G sc y pc L (aI z :: aI x :: st) M Q := by
  intro f l p e s m args below meth c H locs cells slots mc ms ls C Wd hM hS hl hB h1 h2
  exact lv_icmp_ne C.1 C.2.1 hd ht (fun h9 => kt h9 f l p e s m args below meth c H locs cells slots mc ms ls C Wd hM hS hl hB h1 h2) (fun h9 => kf h9 f l p e s m args below meth c H locs cells slots mc ms ls C Wd hM hS hl hB h1 h2)
theorem G_if_lt {x : Int32} {off : Int} {tgt : Nat} (hd : decode y.2.1 pc = .ok (.ifCond .lt off, 3)) (ht : (pc : Int) + off = (tgt : Int)) (kt : x < 0 → G sc y tgt L st M Q) (kf : ¬ x < 0 → G sc y (pc + 3) L st M Q) : G sc y pc L (aI x :: st) M Q := by
  intro f l p e s m args below meth c H locs cells slots mc ms ls C Wd hM hS hl hB h1 h2
  exact lv_if_lt C.1 C.2.1 hd ht (fun h9 => kt h9 f l p e s m args below meth c H locs cells slots mc ms ls C Wd hM hS hl hB h1 h2) (fun h9 => kf h9 f l p e s m args below meth c H locs cells slots mc ms ls C Wd hM hS hl hB h1 h2)
theorem G_icmp_lt {x z : Int32} {off : Int} {tgt : Nat} (hd : decode y.2.1 pc = .ok (.if_icmp .lt off, 3)) (ht : (pc : Int) + off = (tgt : Int)) (kt : x < z → G sc y tgt L st M Q) (kf : ¬ x < z → G sc y (pc + 3) L st M Q) : G sc y pc L (aI z :: aI x :: st) M Q := by
  intro f l p e s m args below meth c H locs cells slots mc ms ls C Wd hM hS hl hB h1 h2
  exact lv_icmp_lt C.1 C.2.1 hd ht (fun h9 => kt h9 f l p e s m args below meth c H locs cells slots mc ms ls C Wd hM hS hl hB h1 h2) (fun h9 => kf h9 f l p e s m args below meth c H locs cells slots mc ms ls C Wd hM hS hl hB h1 h2)
theorem G_if_ge {x : Int32} {off : Int} {tgt : Nat} (hd : decode y.2.1 pc = .ok (.ifCond .ge off, 3)) (ht : (pc : Int) + off = (tgt : Int)) (kt : 0 ≤ x → G sc y tgt L st M Q) (kf : ¬ 0 ≤ x → G sc y (pc + 3) L st M Q) : G sc y pc L (aI x :: st) M Q := by
  intro f l p e s m args below meth c H locs cells slots mc ms ls C Wd hM hS hl hB h1 h2
  exact lv_if_ge C.1 C.2.1 hd ht (fun h9 => kt h9 f l p e s m args below meth c H locs cells slots mc ms ls C Wd hM hS hl hB h1 h2) (fun h9 => kf h9 f l p e s m args below meth c H locs cells slots mc ms ls C Wd hM hS hl hB h1 h2)
theorem G_icmp_ge {x z : Int32} {off : Int} {tgt : Nat} (hd : decode y.2.1 pc = .ok (.if_icmp .ge off, 3)) (ht : (pc : Int) + off = (tgt : Int)) (kt : z ≤ x → G sc y tgt L st M Q) (kf : ¬ z ≤ x → G sc y (pc + 3) L st M Q) : G sc y pc L (aI z :: aI x :: st) M Q := by
  intro f l p e s m args below meth c H locs cells slots mc ms ls C Wd hM hS hl hB h1 h2
  exact lv_icmp_ge C.1 C.2.1 hd ht (fun h9 => kt h9 f l p e s m args below meth c H locs cells slots mc ms ls C Wd hM hS hl hB h1 h2) (fun h9 => kf h9 f l p e s m args below meth c H locs cells slots mc ms ls C Wd hM hS hl hB h1 h2)
theorem G_if_gt {x : Int32} {off : Int} {tgt : Nat} (hd : decode y.2.1 pc = .ok (.ifCond .gt off, 3)) (ht : (pc : Int) + off = (tgt : Int)) (kt : 0 < x → G sc y tgt L st M Q) (kf : ¬ 0 < x → G sc y (pc + 3) L st M Q) : G sc y pc L (aI x :: st) M Q := by
  intro f l p e s m args below meth c H locs cells slots mc ms ls C Wd hM hS hl hB h1 h2
  exact lv_if_gt C.1 C.2.1 hd ht (fun h9 => kt h9 f l p e s m args below meth c H locs cells slots mc ms ls C Wd hM hS hl hB h1 h2) (fun h9 => kf h9 f l p e s m args below meth c H locs cells slots mc ms ls C Wd hM hS hl hB h1 h2)
theorem G_icmp_gt {x z : Int32} {off : Int} {tgt : Nat} (hd : decode y.2.1 pc = .ok (.if_icmp .gt off, 3)) (ht : (pc : Int) + off = (tgt : Int)) (kt : z < x → G sc y tgt L st M Q) (kf : ¬ z < x → G sc y (pc + 3) L st M Q) : G sc y pc L (aI z :: aI x :: st) M Q := by
  intro f l p e s m args below meth c H locs cells slots mc ms ls C Wd hM hS hl hB h1 h2
  exact lv_icmp_gt C.1 C.2.1 hd ht (fun h9 => kt h9 f l p e s m args below meth c H locs cells slots mc ms ls C Wd hM hS hl hB h1 h2) (fun h9 => kf h9 f l p e s m args below meth c H locs cells slots mc ms ls C Wd hM hS hl hB h1 h2)
theorem G_if_le {x : Int32} {off : Int} {tgt : Nat} (hd : decode y.2.1 pc = .ok (.ifCond .le off, 3)) (ht : (pc : Int) + off = (tgt : Int)) (kt : x ≤ 0 → G sc y tgt L st M Q) (kf : ¬ x ≤ 0 → G sc y (pc + 3) L st M Q) : G sc y pc L (aI x :: st) M Q := by
  intro f l p e s m args below meth c H locs cells slots mc ms ls C Wd hM hS hl hB h1 h2
  exact lv_if_le C.1 C.2.1 hd ht (fun h9 => kt h9 f l p e s m args below meth c H locs cells slots mc ms ls C Wd hM hS hl hB h1 h2) (fun h9 => kf h9 f l p e s m args below meth c H locs cells slots mc ms ls C Wd hM hS hl hB h1 h2)
theorem G_icmp_le {x z : Int32} {off : Int} {tgt : Nat} (hd : decode y.2.1 pc = .ok (.if_icmp .le off, 3)) (ht : (pc : Int) + off = (tgt : Int)) (kt : x ≤ z → G sc y tgt L st M Q) (kf : ¬ x ≤ z → G sc y (pc + 3) L st M Q) : G sc y pc L (aI z :: aI x :: st) M Q := by
  intro f l p e s m args below meth c H locs cells slots mc ms ls C Wd hM hS hl hB h1 h2
  exact lv_icmp_le C.1 C.2.1 hd ht (fun h9 => kt h9 f l p e s m args below meth c H locs cells slots mc ms ls C Wd hM hS hl hB h1 h2) (fun h9 => kf h9 f l p e s m args below meth c H locs cells slots mc ms ls C Wd hM hS hl hB h1 h2)
theorem G_goto {off : Int} {tgt : Nat} (hd : decode y.2.1 pc = .ok (.goto off, 3)) (ht : (pc : Int) + off = (tgt : Int)) (k : G sc y tgt L st M Q) : G sc y pc L st M Q := by
  intro f l p e s m args below meth c H locs cells slots mc ms ls C Wd hM hS hl hB h1 h2
  exact lv_goto C.1 C.2.1 hd ht (k f l p e s m args below meth c H locs cells slots mc ms ls C Wd hM hS hl hB h1 h2)
theorem G_tableOut {dflt lo hi : Int} {offs : Array Int} {len : Nat} {x : Int32} {tgt : Nat} (hd : decode y.2.1 pc = .ok (.tableswitch dflt lo hi offs, len)) (h : x.toInt < lo ∨ hi < x.toInt) (ht : (pc : Int) + dflt = (tgt : Int)) (k : G sc y tgt L st M Q) : G sc y pc L (aI x :: st) M Q := by
  intro f l p e s m args below meth c H locs cells slots mc ms ls C Wd hM hS hl hB h1 h2
  exact lv_tableOut C.1 C.2.1 hd h ht (k f l p e s m args below meth c H locs cells slots mc ms ls C Wd hM hS hl hB h1 h2)
theorem G_tableIn {dflt lo hi : Int} {offs : Array Int} {len : Nat} {x : Int32} {off : Int} {tgt : Nat} (hd : decode y.2.1 pc = .ok (.tableswitch dflt lo hi offs, len)) (g1 : ¬ x.toInt < lo) (g2 : ¬ hi < x.toInt) (ho : offs[(x.toInt - lo).toNat]? = some off) (ht : (pc : Int) + off = (tgt : Int)) (k : G sc y tgt L st M Q) : G sc y pc L (aI x :: st) M Q := by
  intro f l p e s m args below meth c H locs cells slots mc ms ls C Wd hM hS hl hB h1 h2
  exact lv_tableIn C.1 C.2.1 hd g1 g2 ho ht (k f l p e s m args below meth c H locs cells slots mc ms ls C Wd hM hS hl hB h1 h2)
theorem G_ldc {i : Nat} {v : Int32} (hd : decode y.2.1 pc = .ok (.ldc i, 2)) (hc : Cond.constant y.1.cls i v ∈ gTs) (k : G sc y (pc + 2) L (aI v :: st) M Q) : G sc y pc L st M Q := by
  intro f l p e s m args below meth c H locs cells slots mc ms ls C Wd hM hS hl hB h1 h2
  exact lv_ldc C.1 C.2.1 C.2.2.2.1 (C.2.2.2.2.1 _ hc) hd (k f l p e s m args below meth c H locs cells slots mc ms ls C Wd hM hS hl hB h1 h2)
theorem G_ldcw {i : Nat} {v : Int32} (hd : decode y.2.1 pc = .ok (.ldc_w i, 3)) (hc : Cond.constant y.1.cls i v ∈ gTs) (k : G sc y (pc + 3) L (aI v :: st) M Q) : G sc y pc L st M Q := by
  intro f l p e s m args below meth c H locs cells slots mc ms ls C Wd hM hS hl hB h1 h2
  exact lv_ldcw C.1 C.2.1 C.2.2.2.1 (C.2.2.2.2.1 _ hc) hd (k f l p e s m args below meth c H locs cells slots mc ms ls C Wd hM hS hl hB h1 h2)
theorem G_ldc2 {i : Nat} {v : Int64} (hd : decode y.2.1 pc = .ok (.ldc2_w i, 3)) (hc : Cond.constantLong y.1.cls i v ∈ gTs) (k : G sc y (pc + 3) L (aL v :: st) M Q) : G sc y pc L st M Q := by
  intro f l p e s m args below meth c H locs cells slots mc ms ls C Wd hM hS hl hB h1 h2
  exact lv_ldc2 C.1 C.2.1 C.2.2.2.1 (C.2.2.2.2.1 _ hc) hd (k f l p e s m args below meth c H locs cells slots mc ms ls C Wd hM hS hl hB h1 h2)
theorem g_ret {f : Cf} {r : Option AV} {s t : State} {H : Heap} {locs : List Loc} {args : Array Value} (hq : Q r M) (hM : gMem f M H) (hS : va_S (gA f) s.heap H locs) (ht : t.heap = H) : gQc f Q args s (.returned (r.map (cvv f))) t := ⟨⟨r, M, rfl, hq, by rw [ht]; exact hM⟩, hS.F ht⟩
theorem G_iret {x : Int32} (hd : decode y.2.1 pc = .ok (.ireturn, 1)) (hr : y.2.2.2.1 = some .int) (hN : M.2.1 ≤ M.2.2.2.1) (hN2 : M.2.2.1 ≤ M.2.2.2.2) (hq : Q (some (aI x)) M) : G sc y pc L [aI x] M Q := by
  intro f l p e s m args below meth c H locs cells slots mc ms ls C Wd hM hS hl hB h1 h2
  have hc : cells ≤ mc := by omega
  have hs : slots ≤ ms := by omega
  exact W.widen hc hs (W.iret C.1 C.2.1 (C.2.2.2.2.2.1.trans hr) (fun t ht _ => g_ret hq hM hS ht) hS.2.2 hd C.2.2.2.2.2.2.1)
theorem G_zret {x : Int32} {ty : FieldType} (hd : decode y.2.1 pc = .ok (.ireturn, 1)) (hr : y.2.2.2.1 = some ty) (hn : narrow ty (.int x) = .int x) (hN : M.2.1 ≤ M.2.2.2.1) (hN2 : M.2.2.1 ≤ M.2.2.2.2) (hq : Q (some (aI x)) M) : G sc y pc L [aI x] M Q := by
  intro f l p e s m args below meth c H locs cells slots mc ms ls C Wd hM hS hl hB h1 h2
  have hc : cells ≤ mc := by omega
  have hs : slots ≤ ms := by omega
  exact W.widen hc hs (W.zret C.1 C.2.1 (C.2.2.2.2.2.1.trans hr) hn (fun t ht _ => g_ret hq hM hS ht) hS.2.2 hd C.2.2.2.2.2.2.1)
theorem G_lret {x : Int64} (hd : decode y.2.1 pc = .ok (.lreturn, 1)) (hr : y.2.2.2.1 = some .long) (hN : M.2.1 ≤ M.2.2.2.1) (hN2 : M.2.2.1 ≤ M.2.2.2.2) (hq : Q (some (aL x)) M) : G sc y pc L [aL x] M Q := by
  intro f l p e s m args below meth c H locs cells slots mc ms ls C Wd hM hS hl hB h1 h2
  have hc : cells ≤ mc := by omega
  have hs : slots ≤ ms := by omega
  exact W.widen hc hs (W.lret C.1 C.2.1 (C.2.2.2.2.2.1.trans hr) (fun t ht _ => g_ret hq hM hS ht) hS.2.2 hd C.2.2.2.2.2.2.1)
theorem G_vret (hd : decode y.2.1 pc = .ok (.return_, 1)) (hr : y.2.2.2.1 = none) (hN : M.2.1 ≤ M.2.2.2.1) (hN2 : M.2.2.1 ≤ M.2.2.2.2) (hq : Q none M) : G sc y pc L [] M Q := by
  intro f l p e s m args below meth c H locs cells slots mc ms ls C Wd hM hS hl hB h1 h2
  have hc : cells ≤ mc := by omega
  have hs : slots ≤ ms := by omega
  exact W.widen hc hs (W.vret C.1 C.2.1 (C.2.2.2.2.2.1.trans hr) (fun t ht _ => g_ret hq hM hS ht) hS.2.2 hd C.2.2.2.2.2.2.1)
theorem G_aret {x : Nat} {n : String} (hd : decode y.2.1 pc = .ok (.areturn, 1)) (hr : y.2.2.2.1 = some (.object n)) (hN : M.2.1 ≤ M.2.2.2.1) (hN2 : M.2.2.1 ≤ M.2.2.2.2) (hq : Q (some (aR x)) M) : G sc y pc L [aR x] M Q := by
  intro f l p e s m args below meth c H locs cells slots mc ms ls C Wd hM hS hl hB h1 h2
  have hc : cells ≤ mc := by omega
  have hs : slots ≤ ms := by omega
  exact W.widen hc hs (W.aret C.1 C.2.1 (C.2.2.2.2.2.1.trans hr) (Or.inl ⟨n, rfl⟩) (Or.inr ⟨_, rfl⟩) (fun t ht _ => g_ret hq hM hS ht) hS.2.2 hd C.2.2.2.2.2.2.1)
end GR
