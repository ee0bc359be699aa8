section VR
variable {l : Launch} {g : Nat → Nat} {y : MethodName} {cc : ByteArray} {rt : Option FieldType} {tb : List ExceptionTableEntry} {L mc ms : Nat} {Po : Res → LH → Prop} {X : CX} {M : LH} {k n pc : Nat} {ls : List (Option Value)} {rest : List Value}
theorem v_iconst {i : Int} {v : Int32} (hd : decode cc pc = .ok (.iconst i, 1)) (hv : Int32.ofInt i = v) (kk : V l g y cc rt tb L mc ms Po X M k n (pc + 1) (ls) (.int v :: rest)) : V l g y cc rt tb L mc ms Po X M k n (pc) (ls) (rest) := by
  obtain ⟨p, e, s, m, args, below, meth, c, A⟩ := X
  intro ok H locs la hW hS hl
  exact lv_iconst ok.1 ok.2.1 hd hv (kk ok H locs la hW hS hl)

theorem v_bipush {i : Int} {v : Int32} (hd : decode cc pc = .ok (.bipush i, 2)) (hv : (Int8.ofInt i).toInt32 = v) (kk : V l g y cc rt tb L mc ms Po X M k n (pc + 2) (ls) (.int v :: rest)) : V l g y cc rt tb L mc ms Po X M k n (pc) (ls) (rest) := by
  obtain ⟨p, e, s, m, args, below, meth, c, A⟩ := X
  intro ok H locs la hW hS hl
  exact lv_bipush ok.1 ok.2.1 hd hv (kk ok H locs la hW hS hl)

theorem v_sipush {i : Int} {v : Int32} (hd : decode cc pc = .ok (.sipush i, 3)) (hv : (Int16.ofInt i).toInt32 = v) (kk : V l g y cc rt tb L mc ms Po X M k n (pc + 3) (ls) (.int v :: rest)) : V l g y cc rt tb L mc ms Po X M k n (pc) (ls) (rest) := by
  obtain ⟨p, e, s, m, args, below, meth, c, A⟩ := X
  intro ok H locs la hW hS hl
  exact lv_sipush ok.1 ok.2.1 hd hv (kk ok H locs la hW hS hl)

theorem v_lconst {i : Fin 2} {v : Int64} (hd : decode cc pc = .ok (.lconst i, 1)) (hv : Int64.ofNat (i : Nat) = v) (kk : V l g y cc rt tb L mc ms Po X M k n (pc + 1) (ls) (.long v :: rest)) : V l g y cc rt tb L mc ms Po X M k n (pc) (ls) (rest) := by
  obtain ⟨p, e, s, m, args, below, meth, c, A⟩ := X
  intro ok H locs la hW hS hl
  exact lv_lconst ok.1 ok.2.1 hd hv (kk ok H locs la hW hS hl)

theorem v_null  (hd : decode cc pc = .ok (.aconst_null, 1))  (kk : V l g y cc rt tb L mc ms Po X M k n (pc + 1) (ls) (.null :: rest)) : V l g y cc rt tb L mc ms Po X M k n (pc) (ls) (rest) := by
  obtain ⟨p, e, s, m, args, below, meth, c, A⟩ := X
  intro ok H locs la hW hS hl
  exact lv_null ok.1 ok.2.1 hd (kk ok H locs la hW hS hl)

theorem v_fconst0  (hd : decode cc pc = .ok (.fconst 0, 1))  (kk : V l g y cc rt tb L mc ms Po X M k n (pc + 1) (ls) (.float FP.fconst0 :: rest)) : V l g y cc rt tb L mc ms Po X M k n (pc) (ls) (rest) := by
  obtain ⟨p, e, s, m, args, below, meth, c, A⟩ := X
  intro ok H locs la hW hS hl
  exact lv_fconst0 ok.1 ok.2.1 hd (kk ok H locs la hW hS hl)

theorem v_dconst0  (hd : decode cc pc = .ok (.dconst 0, 1))  (kk : V l g y cc rt tb L mc ms Po X M k n (pc + 1) (ls) (.double FP.dconst0 :: rest)) : V l g y cc rt tb L mc ms Po X M k n (pc) (ls) (rest) := by
  obtain ⟨p, e, s, m, args, below, meth, c, A⟩ := X
  intro ok H locs la hW hS hl
  exact lv_dconst0 ok.1 ok.2.1 hd (kk ok H locs la hW hS hl)

theorem v_iadd {x z : Int32} (hd : decode cc pc = .ok (.iadd, 1))  (kk : V l g y cc rt tb L mc ms Po X M k n (pc + 1) (ls) (.int (x + z) :: rest)) : V l g y cc rt tb L mc ms Po X M k n (pc) (ls) (.int z :: .int x :: rest) := by
  obtain ⟨p, e, s, m, args, below, meth, c, A⟩ := X
  intro ok H locs la hW hS hl
  exact lv_iadd ok.1 ok.2.1 hd (kk ok H locs la hW hS hl)

theorem v_isub {x z : Int32} (hd : decode cc pc = .ok (.isub, 1))  (kk : V l g y cc rt tb L mc ms Po X M k n (pc + 1) (ls) (.int (x - z) :: rest)) : V l g y cc rt tb L mc ms Po X M k n (pc) (ls) (.int z :: .int x :: rest) := by
  obtain ⟨p, e, s, m, args, below, meth, c, A⟩ := X
  intro ok H locs la hW hS hl
  exact lv_isub ok.1 ok.2.1 hd (kk ok H locs la hW hS hl)

theorem v_imul {x z : Int32} (hd : decode cc pc = .ok (.imul, 1))  (kk : V l g y cc rt tb L mc ms Po X M k n (pc + 1) (ls) (.int (x * z) :: rest)) : V l g y cc rt tb L mc ms Po X M k n (pc) (ls) (.int z :: .int x :: rest) := by
  obtain ⟨p, e, s, m, args, below, meth, c, A⟩ := X
  intro ok H locs la hW hS hl
  exact lv_imul ok.1 ok.2.1 hd (kk ok H locs la hW hS hl)

theorem v_iand {x z : Int32} (hd : decode cc pc = .ok (.iand, 1))  (kk : V l g y cc rt tb L mc ms Po X M k n (pc + 1) (ls) (.int (x &&& z) :: rest)) : V l g y cc rt tb L mc ms Po X M k n (pc) (ls) (.int z :: .int x :: rest) := by
  obtain ⟨p, e, s, m, args, below, meth, c, A⟩ := X
  intro ok H locs la hW hS hl
  exact lv_iand ok.1 ok.2.1 hd (kk ok H locs la hW hS hl)

theorem v_ior {x z : Int32} (hd : decode cc pc = .ok (.ior, 1))  (kk : V l g y cc rt tb L mc ms Po X M k n (pc + 1) (ls) (.int (x ||| z) :: rest)) : V l g y cc rt tb L mc ms Po X M k n (pc) (ls) (.int z :: .int x :: rest) := by
  obtain ⟨p, e, s, m, args, below, meth, c, A⟩ := X
  intro ok H locs la hW hS hl
  exact lv_ior ok.1 ok.2.1 hd (kk ok H locs la hW hS hl)

theorem v_ixor {x z : Int32} (hd : decode cc pc = .ok (.ixor, 1))  (kk : V l g y cc rt tb L mc ms Po X M k n (pc + 1) (ls) (.int (x ^^^ z) :: rest)) : V l g y cc rt tb L mc ms Po X M k n (pc) (ls) (.int z :: .int x :: rest) := by
  obtain ⟨p, e, s, m, args, below, meth, c, A⟩ := X
  intro ok H locs la hW hS hl
  exact lv_ixor ok.1 ok.2.1 hd (kk ok H locs la hW hS hl)

theorem v_ishl {x z : Int32} (hd : decode cc pc = .ok (.ishl, 1))  (kk : V l g y cc rt tb L mc ms Po X M k n (pc + 1) (ls) (.int (x <<< (z &&& 31)) :: rest)) : V l g y cc rt tb L mc ms Po X M k n (pc) (ls) (.int z :: .int x :: rest) := by
  obtain ⟨p, e, s, m, args, below, meth, c, A⟩ := X
  intro ok H locs la hW hS hl
  exact lv_ishl ok.1 ok.2.1 hd (kk ok H locs la hW hS hl)

theorem v_ishr {x z : Int32} (hd : decode cc pc = .ok (.ishr, 1))  (kk : V l g y cc rt tb L mc ms Po X M k n (pc + 1) (ls) (.int (x >>> (z &&& 31)) :: rest)) : V l g y cc rt tb L mc ms Po X M k n (pc) (ls) (.int z :: .int x :: rest) := by
  obtain ⟨p, e, s, m, args, below, meth, c, A⟩ := X
  intro ok H locs la hW hS hl
  exact lv_ishr ok.1 ok.2.1 hd (kk ok H locs la hW hS hl)

theorem v_idiv {x z : Int32} (hd : decode cc pc = .ok (.idiv, 1)) (hne : ¬ z = 0) (kk : V l g y cc rt tb L mc ms Po X M k n (pc + 1) (ls) (.int (x / z) :: rest)) : V l g y cc rt tb L mc ms Po X M k n (pc) (ls) (.int z :: .int x :: rest) := by
  obtain ⟨p, e, s, m, args, below, meth, c, A⟩ := X
  intro ok H locs la hW hS hl
  exact lv_idiv ok.1 ok.2.1 hd hne (kk ok H locs la hW hS hl)

theorem v_irem {x z : Int32} (hd : decode cc pc = .ok (.irem, 1)) (hne : ¬ z = 0) (kk : V l g y cc rt tb L mc ms Po X M k n (pc + 1) (ls) (.int (x - x / z * z) :: rest)) : V l g y cc rt tb L mc ms Po X M k n (pc) (ls) (.int z :: .int x :: rest) := by
  obtain ⟨p, e, s, m, args, below, meth, c, A⟩ := X
  intro ok H locs la hW hS hl
  exact lv_irem ok.1 ok.2.1 hd hne (kk ok H locs la hW hS hl)

theorem v_ineg {x : Int32} (hd : decode cc pc = .ok (.ineg, 1))  (kk : V l g y cc rt tb L mc ms Po X M k n (pc + 1) (ls) (.int (-x) :: rest)) : V l g y cc rt tb L mc ms Po X M k n (pc) (ls) (.int x :: rest) := by
  obtain ⟨p, e, s, m, args, below, meth, c, A⟩ := X
  intro ok H locs la hW hS hl
  exact lv_ineg ok.1 ok.2.1 hd (kk ok H locs la hW hS hl)

theorem v_i2l {x : Int32} (hd : decode cc pc = .ok (.i2l, 1))  (kk : V l g y cc rt tb L mc ms Po X M k n (pc + 1) (ls) (.long x.toInt64 :: rest)) : V l g y cc rt tb L mc ms Po X M k n (pc) (ls) (.int x :: rest) := by
  obtain ⟨p, e, s, m, args, below, meth, c, A⟩ := X
  intro ok H locs la hW hS hl
  exact lv_i2l ok.1 ok.2.1 hd rfl (kk ok H locs la hW hS hl)

theorem v_i2c {x : Int32} (hd : decode cc pc = .ok (.i2c, 1))  (kk : V l g y cc rt tb L mc ms Po X M k n (pc + 1) (ls) (.int (x.toUInt32 % 65536).toInt32 :: rest)) : V l g y cc rt tb L mc ms Po X M k n (pc) (ls) (.int x :: rest) := by
  obtain ⟨p, e, s, m, args, below, meth, c, A⟩ := X
  intro ok H locs la hW hS hl
  exact lv_i2c ok.1 ok.2.1 hd rfl (kk ok H locs la hW hS hl)

theorem v_i2b {x : Int32} (hd : decode cc pc = .ok (.i2b, 1))  (kk : V l g y cc rt tb L mc ms Po X M k n (pc + 1) (ls) (.int x.toInt8.toInt32 :: rest)) : V l g y cc rt tb L mc ms Po X M k n (pc) (ls) (.int x :: rest) := by
  obtain ⟨p, e, s, m, args, below, meth, c, A⟩ := X
  intro ok H locs la hW hS hl
  exact lv_i2b ok.1 ok.2.1 hd rfl (kk ok H locs la hW hS hl)

theorem v_i2f {x : Int32} (hd : decode cc pc = .ok (.i2f, 1))  (kk : V l g y cc rt tb L mc ms Po X M k n (pc + 1) (ls) (.float (FP.i2f x) :: rest)) : V l g y cc rt tb L mc ms Po X M k n (pc) (ls) (.int x :: rest) := by
  obtain ⟨p, e, s, m, args, below, meth, c, A⟩ := X
  intro ok H locs la hW hS hl
  exact lv_i2f ok.1 ok.2.1 hd (kk ok H locs la hW hS hl)

theorem v_i2d {x : Int32} (hd : decode cc pc = .ok (.i2d, 1))  (kk : V l g y cc rt tb L mc ms Po X M k n (pc + 1) (ls) (.double (FP.i2d x) :: rest)) : V l g y cc rt tb L mc ms Po X M k n (pc) (ls) (.int x :: rest) := by
  obtain ⟨p, e, s, m, args, below, meth, c, A⟩ := X
  intro ok H locs la hW hS hl
  exact lv_i2d ok.1 ok.2.1 hd (kk ok H locs la hW hS hl)

theorem v_f2d {x : UInt32} (hd : decode cc pc = .ok (.f2d, 1)) (hne : vf_n64 (FP.f2d x)) (kk : V l g y cc rt tb L mc ms Po X M k n (pc + 1) (ls) (.double (FP.f2d x) :: rest)) : V l g y cc rt tb L mc ms Po X M k n (pc) (ls) (.float x :: rest) := by
  obtain ⟨p, e, s, m, args, below, meth, c, A⟩ := X
  intro ok H locs la hW hS hl
  exact lv_f2d ok.1 ok.2.1 hd hne (kk ok H locs la hW hS hl)

theorem v_fdiv {x z : UInt32} (hd : decode cc pc = .ok (.fdiv, 1)) (hne : vf_n32 (FP.fdiv x z)) (kk : V l g y cc rt tb L mc ms Po X M k n (pc + 1) (ls) (.float (FP.fdiv x z) :: rest)) : V l g y cc rt tb L mc ms Po X M k n (pc) (ls) (.float z :: .float x :: rest) := by
  obtain ⟨p, e, s, m, args, below, meth, c, A⟩ := X
  intro ok H locs la hW hS hl
  exact lv_fdiv ok.1 ok.2.1 hd hne (kk ok H locs la hW hS hl)

theorem v_ddiv {x z : UInt64} (hd : decode cc pc = .ok (.ddiv, 1)) (hne : vf_n64 (FP.ddiv x z)) (kk : V l g y cc rt tb L mc ms Po X M k n (pc + 1) (ls) (.double (FP.ddiv x z) :: rest)) : V l g y cc rt tb L mc ms Po X M k n (pc) (ls) (.double z :: .double x :: rest) := by
  obtain ⟨p, e, s, m, args, below, meth, c, A⟩ := X
  intro ok H locs la hW hS hl
  exact lv_ddiv ok.1 ok.2.1 hd hne (kk ok H locs la hW hS hl)

theorem v_dcmp {x z : UInt64} {op : CmpOp} (hd : decode cc pc = .ok (.dcmp op, 1))  (kk : V l g y cc rt tb L mc ms Po X M k n (pc + 1) (ls) (.int (Op.cmpValue (FP.dcmp x z) op) :: rest)) : V l g y cc rt tb L mc ms Po X M k n (pc) (ls) (.double z :: .double x :: rest) := by
  obtain ⟨p, e, s, m, args, below, meth, c, A⟩ := X
  intro ok H locs la hW hS hl
  exact lv_dcmp ok.1 ok.2.1 hd (kk ok H locs la hW hS hl)

theorem v_fcmp {x z : UInt32} {op : CmpOp} (hd : decode cc pc = .ok (.fcmp op, 1))  (kk : V l g y cc rt tb L mc ms Po X M k n (pc + 1) (ls) (.int (Op.cmpValue (FP.fcmp x z) op) :: rest)) : V l g y cc rt tb L mc ms Po X M k n (pc) (ls) (.float z :: .float x :: rest) := by
  obtain ⟨p, e, s, m, args, below, meth, c, A⟩ := X
  intro ok H locs la hW hS hl
  exact lv_fcmp ok.1 ok.2.1 hd (kk ok H locs la hW hS hl)

theorem v_lcmp {x z : Int64} (hd : decode cc pc = .ok (.lcmp, 1))  (kk : V l g y cc rt tb L mc ms Po X M k n (pc + 1) (ls) (.int (lg_cmp x z) :: rest)) : V l g y cc rt tb L mc ms Po X M k n (pc) (ls) (.long z :: .long x :: rest) := by
  obtain ⟨p, e, s, m, args, below, meth, c, A⟩ := X
  intro ok H locs la hW hS hl
  exact W.lcmp ok.1 ok.2.1 hd (kk ok H locs la hW hS hl)

theorem v_dup {va : Value} (hd : decode cc pc = .ok (.dup, 1)) (hva : va.category = 1) (kk : V l g y cc rt tb L mc ms Po X M k n (pc + 1) (ls) (va :: va :: rest)) : V l g y cc rt tb L mc ms Po X M k n (pc) (ls) (va :: rest) := by
  obtain ⟨p, e, s, m, args, below, meth, c, A⟩ := X
  intro ok H locs la hW hS hl
  exact lv_dup ok.1 ok.2.1 hd hva (kk ok H locs la hW hS hl)

theorem v_pop {va : Value} (hd : decode cc pc = .ok (.pop, 1)) (hva : va.category = 1) (kk : V l g y cc rt tb L mc ms Po X M k n (pc + 1) (ls) (rest)) : V l g y cc rt tb L mc ms Po X M k n (pc) (ls) (va :: rest) := by
  obtain ⟨p, e, s, m, args, below, meth, c, A⟩ := X
  intro ok H locs la hW hS hl
  exact lv_pop ok.1 ok.2.1 hd hva (kk ok H locs la hW hS hl)

theorem v_dup2 {va vb : Value} (hd : decode cc pc = .ok (.dup2, 1)) (hva : va.category = 1) (hvb : vb.category = 1) (kk : V l g y cc rt tb L mc ms Po X M k n (pc + 1) (ls) (va :: vb :: va :: vb :: rest)) : V l g y cc rt tb L mc ms Po X M k n (pc) (ls) (va :: vb :: rest) := by
  obtain ⟨p, e, s, m, args, below, meth, c, A⟩ := X
  intro ok H locs la hW hS hl
  exact lv_dup2_11 ok.1 ok.2.1 hd hva hvb (kk ok H locs la hW hS hl)

theorem v_dup_x1 {va vb : Value} (hd : decode cc pc = .ok (.dup_x1, 1)) (hva : va.category = 1) (hvb : vb.category = 1) (kk : V l g y cc rt tb L mc ms Po X M k n (pc + 1) (ls) (va :: vb :: va :: rest)) : V l g y cc rt tb L mc ms Po X M k n (pc) (ls) (va :: vb :: rest) := by
  obtain ⟨p, e, s, m, args, below, meth, c, A⟩ := X
  intro ok H locs la hW hS hl
  exact lv_dup_x1 ok.1 ok.2.1 hd hva hvb (kk ok H locs la hW hS hl)

theorem v_iload_n {q : Fin 4} {i : Nat} {x : Int32} (hd : decode cc pc = .ok (.iload_n q, 1)) (hi : (q : Nat) = i) (hl0 : ls[i]? = some (some (.int x))) (kk : V l g y cc rt tb L mc ms Po X M k n (pc + 1) (ls) (.int x :: rest)) : V l g y cc rt tb L mc ms Po X M k n (pc) (ls) (rest) := by
  obtain ⟨p, e, s, m, args, below, meth, c, A⟩ := X
  intro ok H locs la hW hS hl
  exact lv_iload_n ok.1 ok.2.1 hd hi (hl.2.2 i _ hl0).1 (kk ok H locs la hW hS hl)

theorem v_aload_n {q : Fin 4} {i : Nat} {x : Nat} (hd : decode cc pc = .ok (.aload_n q, 1)) (hi : (q : Nat) = i) (hl0 : ls[i]? = some (some (.ref x))) (kk : V l g y cc rt tb L mc ms Po X M k n (pc + 1) (ls) (.ref x :: rest)) : V l g y cc rt tb L mc ms Po X M k n (pc) (ls) (rest) := by
  obtain ⟨p, e, s, m, args, below, meth, c, A⟩ := X
  intro ok H locs la hW hS hl
  exact lv_aload_n ok.1 ok.2.1 hd hi (hl.2.2 i _ hl0).1 (kk ok H locs la hW hS hl)

theorem v_iload {i : Nat} {x : Int32} (hd : decode cc pc = .ok (.iload i, 2)) (hl0 : ls[i]? = some (some (.int x))) (kk : V l g y cc rt tb L mc ms Po X M k n (pc + 2) (ls) (.int x :: rest)) : V l g y cc rt tb L mc ms Po X M k n (pc) (ls) (rest) := by
  obtain ⟨p, e, s, m, args, below, meth, c, A⟩ := X
  intro ok H locs la hW hS hl
  exact lv_iload ok.1 ok.2.1 hd (hl.2.2 i _ hl0).1 (kk ok H locs la hW hS hl)

theorem v_aload {i : Nat} {x : Nat} (hd : decode cc pc = .ok (.aload i, 2)) (hl0 : ls[i]? = some (some (.ref x))) (kk : V l g y cc rt tb L mc ms Po X M k n (pc + 2) (ls) (.ref x :: rest)) : V l g y cc rt tb L mc ms Po X M k n (pc) (ls) (rest) := by
  obtain ⟨p, e, s, m, args, below, meth, c, A⟩ := X
  intro ok H locs la hW hS hl
  exact lv_aload ok.1 ok.2.1 hd (hl.2.2 i _ hl0).1 (kk ok H locs la hW hS hl)

theorem v_fload {i : Nat} {x : UInt32} (hd : decode cc pc = .ok (.fload i, 2)) (hl0 : ls[i]? = some (some (.float x))) (kk : V l g y cc rt tb L mc ms Po X M k n (pc + 2) (ls) (.float x :: rest)) : V l g y cc rt tb L mc ms Po X M k n (pc) (ls) (rest) := by
  obtain ⟨p, e, s, m, args, below, meth, c, A⟩ := X
  intro ok H locs la hW hS hl
  exact lv_fload ok.1 ok.2.1 hd (hl.2.2 i _ hl0).1 (kk ok H locs la hW hS hl)

theorem v_aload_nN {q : Fin 4} {i : Nat} (hd : decode cc pc = .ok (.aload_n q, 1)) (hi : (q : Nat) = i) (hl0 : ls[i]? = some (some .null)) (kk : V l g y cc rt tb L mc ms Po X M k n (pc + 1) (ls) (.null :: rest)) : V l g y cc rt tb L mc ms Po X M k n (pc) (ls) (rest) := by
  obtain ⟨p, e, s, m, args, below, meth, c, A⟩ := X
  intro ok H locs la hW hS hl
  have hx := ok.1
  have hb := ok.2.1
  have hl9 := (hl.2.2 i _ hl0).1
  intro T hT X
  obtain ⟨t, a, b⟩ := kk ok H locs la hW hS hl T hT X
  refine ⟨t, ?_, b⟩
  subst hi
  jvm_step X.here [X.here.top, hx, hb, hd, hl9]
  first | exact a | exact ⟨rfl, a⟩

theorem v_aloadN {i : Nat} (hd : decode cc pc = .ok (.aload i, 2)) (hl0 : ls[i]? = some (some .null)) (kk : V l g y cc rt tb L mc ms Po X M k n (pc + 2) (ls) (.null :: rest)) : V l g y cc rt tb L mc ms Po X M k n (pc) (ls) (rest) := by
  obtain ⟨p, e, s, m, args, below, meth, c, A⟩ := X
  intro ok H locs la hW hS hl
  have hx := ok.1
  have hb := ok.2.1
  have hl9 := (hl.2.2 i _ hl0).1
  intro T hT X
  obtain ⟨t, a, b⟩ := kk ok H locs la hW hS hl T hT X
  refine ⟨t, ?_, b⟩
  jvm_step X.here [X.here.top, hx, hb, hd, hl9]
  first | exact a | exact ⟨rfl, a⟩

theorem v_istore_0 {x0 : Option Value} {t : List (Option Value)} {v : Int32} (hd : decode cc pc = .ok (.istore_n 0, 1)) (kk : V l g y cc rt tb L mc ms Po X M k n (pc + 1) (some (.int v) :: t) (rest)) : V l g y cc rt tb L mc ms Po X M k n (pc) (x0 :: t) (.int v :: rest) := by
  obtain ⟨p, e, s, m, args, below, meth, c, A⟩ := X
  intro ok H locs la hW hS hl
  have hx := ok.1
  have hb := ok.2.1
  obtain ⟨la', e', h'⟩ := hl.store (i := 0) (v := .int v) (by simp only [List.length_cons]; omega) rfl
  have h2 : lok la' (some (.int v) :: t) := h'
  intro T hT X
  obtain ⟨t9, a, b⟩ := kk (by rw [show (some (.int v) :: t).length = (x0 :: t).length from rfl]; exact ok) H locs la' hW hS h2 T hT X
  refine ⟨t9, ?_, b⟩
  jvm_step X.here [X.here.top, ↓top_set X.here.top, hx, hb, hd, e']
  first | exact a | exact ⟨rfl, a⟩

theorem v_astore_0 {x0 : Option Value} {t : List (Option Value)} {v : Nat} (hd : decode cc pc = .ok (.astore_n 0, 1)) (kk : V l g y cc rt tb L mc ms Po X M k n (pc + 1) (some (.ref v) :: t) (rest)) : V l g y cc rt tb L mc ms Po X M k n (pc) (x0 :: t) (.ref v :: rest) := by
  obtain ⟨p, e, s, m, args, below, meth, c, A⟩ := X
  intro ok H locs la hW hS hl
  have hx := ok.1
  have hb := ok.2.1
  obtain ⟨la', e', h'⟩ := hl.store (i := 0) (v := .ref v) (by simp only [List.length_cons]; omega) rfl
  have h2 : lok la' (some (.ref v) :: t) := h'
  intro T hT X
  obtain ⟨t9, a, b⟩ := kk (by rw [show (some (.ref v) :: t).length = (x0 :: t).length from rfl]; exact ok) H locs la' hW hS h2 T hT X
  refine ⟨t9, ?_, b⟩
  jvm_step X.here [X.here.top, ↓top_set X.here.top, hx, hb, hd, e']
  first | exact a | exact ⟨rfl, a⟩

theorem v_aNstore_0 {x0 : Option Value} {t : List (Option Value)}  (hd : decode cc pc = .ok (.astore_n 0, 1)) (kk : V l g y cc rt tb L mc ms Po X M k n (pc + 1) (some (.null) :: t) (rest)) : V l g y cc rt tb L mc ms Po X M k n (pc) (x0 :: t) (.null :: rest) := by
  obtain ⟨p, e, s, m, args, below, meth, c, A⟩ := X
  intro ok H locs la hW hS hl
  have hx := ok.1
  have hb := ok.2.1
  obtain ⟨la', e', h'⟩ := hl.store (i := 0) (v := .null) (by simp only [List.length_cons]; omega) rfl
  have h2 : lok la' (some (.null) :: t) := h'
  intro T hT X
  obtain ⟨t9, a, b⟩ := kk (by rw [show (some (.null) :: t).length = (x0 :: t).length from rfl]; exact ok) H locs la' hW hS h2 T hT X
  refine ⟨t9, ?_, b⟩
  jvm_step X.here [X.here.top, ↓top_set X.here.top, hx, hb, hd, e']
  first | exact a | exact ⟨rfl, a⟩

theorem v_iinc_0 {t : List (Option Value)} {v : Int32} {d : Int} (hd : decode cc pc = .ok (.iinc 0 d, 3)) {w : Int32} (hw : v + Int32.ofInt d = w) (kk : V l g y cc rt tb L mc ms Po X M k n (pc + 3) (some (.int w) :: t) (rest)) : V l g y cc rt tb L mc ms Po X M k n (pc) (some (.int v) :: t) (rest) := by
  obtain ⟨p, e, s, m, args, below, meth, c, A⟩ := X
  intro ok H locs la hW hS hl
  have hx := ok.1
  have hb := ok.2.1
  have hl9 := (hl.2.2 0 (.int v) rfl).1
  obtain ⟨la', e', h'⟩ := hl.store (i := 0) (v := .int w) (by simp only [List.length_cons]; omega) rfl
  have h2 : lok la' (some (.int w) :: t) := h'
  subst hw
  intro T hT X
  obtain ⟨t9, a, b⟩ := kk (by rw [show (some (.int (v + Int32.ofInt d)) :: t).length = (some (.int v) :: t).length from rfl]; exact ok) H locs la' hW hS h2 T hT X
  refine ⟨t9, ?_, b⟩
  jvm_step X.here [X.here.top, ↓top_set X.here.top, hx, hb, hd, hl9, e']
  first | exact a | exact ⟨rfl, a⟩

theorem v_istore_1 {x0 x1 : Option Value} {t : List (Option Value)} {v : Int32} (hd : decode cc pc = .ok (.istore_n 1, 1)) (kk : V l g y cc rt tb L mc ms Po X M k n (pc + 1) (x0 :: some (.int v) :: t) (rest)) : V l g y cc rt tb L mc ms Po X M k n (pc) (x0 :: x1 :: t) (.int v :: rest) := by
  obtain ⟨p, e, s, m, args, below, meth, c, A⟩ := X
  intro ok H locs la hW hS hl
  have hx := ok.1
  have hb := ok.2.1
  obtain ⟨la', e', h'⟩ := hl.store (i := 1) (v := .int v) (by simp only [List.length_cons]; omega) rfl
  have h2 : lok la' (x0 :: some (.int v) :: t) := h'
  intro T hT X
  obtain ⟨t9, a, b⟩ := kk (by rw [show (x0 :: some (.int v) :: t).length = (x0 :: x1 :: t).length from rfl]; exact ok) H locs la' hW hS h2 T hT X
  refine ⟨t9, ?_, b⟩
  jvm_step X.here [X.here.top, ↓top_set X.here.top, hx, hb, hd, e']
  first | exact a | exact ⟨rfl, a⟩

theorem v_astore_1 {x0 x1 : Option Value} {t : List (Option Value)} {v : Nat} (hd : decode cc pc = .ok (.astore_n 1, 1)) (kk : V l g y cc rt tb L mc ms Po X M k n (pc + 1) (x0 :: some (.ref v) :: t) (rest)) : V l g y cc rt tb L mc ms Po X M k n (pc) (x0 :: x1 :: t) (.ref v :: rest) := by
  obtain ⟨p, e, s, m, args, below, meth, c, A⟩ := X
  intro ok H locs la hW hS hl
  have hx := ok.1
  have hb := ok.2.1
  obtain ⟨la', e', h'⟩ := hl.store (i := 1) (v := .ref v) (by simp only [List.length_cons]; omega) rfl
  have h2 : lok la' (x0 :: some (.ref v) :: t) := h'
  intro T hT X
  obtain ⟨t9, a, b⟩ := kk (by rw [show (x0 :: some (.ref v) :: t).length = (x0 :: x1 :: t).length from rfl]; exact ok) H locs la' hW hS h2 T hT X
  refine ⟨t9, ?_, b⟩
  jvm_step X.here [X.here.top, ↓top_set X.here.top, hx, hb, hd, e']
  first | exact a | exact ⟨rfl, a⟩

theorem v_aNstore_1 {x0 x1 : Option Value} {t : List (Option Value)}  (hd : decode cc pc = .ok (.astore_n 1, 1)) (kk : V l g y cc rt tb L mc ms Po X M k n (pc + 1) (x0 :: some (.null) :: t) (rest)) : V l g y cc rt tb L mc ms Po X M k n (pc) (x0 :: x1 :: t) (.null :: rest) := by
  obtain ⟨p, e, s, m, args, below, meth, c, A⟩ := X
  intro ok H locs la hW hS hl
  have hx := ok.1
  have hb := ok.2.1
  obtain ⟨la', e', h'⟩ := hl.store (i := 1) (v := .null) (by simp only [List.length_cons]; omega) rfl
  have h2 : lok la' (x0 :: some (.null) :: t) := h'
  intro T hT X
  obtain ⟨t9, a, b⟩ := kk (by rw [show (x0 :: some (.null) :: t).length = (x0 :: x1 :: t).length from rfl]; exact ok) H locs la' hW hS h2 T hT X
  refine ⟨t9, ?_, b⟩
  jvm_step X.here [X.here.top, ↓top_set X.here.top, hx, hb, hd, e']
  first | exact a | exact ⟨rfl, a⟩

theorem v_iinc_1 {x0 : Option Value} {t : List (Option Value)} {v : Int32} {d : Int} (hd : decode cc pc = .ok (.iinc 1 d, 3)) {w : Int32} (hw : v + Int32.ofInt d = w) (kk : V l g y cc rt tb L mc ms Po X M k n (pc + 3) (x0 :: some (.int w) :: t) (rest)) : V l g y cc rt tb L mc ms Po X M k n (pc) (x0 :: some (.int v) :: t) (rest) := by
  obtain ⟨p, e, s, m, args, below, meth, c, A⟩ := X
  intro ok H locs la hW hS hl
  have hx := ok.1
  have hb := ok.2.1
  have hl9 := (hl.2.2 1 (.int v) rfl).1
  obtain ⟨la', e', h'⟩ := hl.store (i := 1) (v := .int w) (by simp only [List.length_cons]; omega) rfl
  have h2 : lok la' (x0 :: some (.int w) :: t) := h'
  subst hw
  intro T hT X
  obtain ⟨t9, a, b⟩ := kk (by rw [show (x0 :: some (.int (v + Int32.ofInt d)) :: t).length = (x0 :: some (.int v) :: t).length from rfl]; exact ok) H locs la' hW hS h2 T hT X
  refine ⟨t9, ?_, b⟩
  jvm_step X.here [X.here.top, ↓top_set X.here.top, hx, hb, hd, hl9, e']
  first | exact a | exact ⟨rfl, a⟩

theorem v_istore_2 {x0 x1 x2 : Option Value} {t : List (Option Value)} {v : Int32} (hd : decode cc pc = .ok (.istore_n 2, 1)) (kk : V l g y cc rt tb L mc ms Po X M k n (pc + 1) (x0 :: x1 :: some (.int v) :: t) (rest)) : V l g y cc rt tb L mc ms Po X M k n (pc) (x0 :: x1 :: x2 :: t) (.int v :: rest) := by
  obtain ⟨p, e, s, m, args, below, meth, c, A⟩ := X
  intro ok H locs la hW hS hl
  have hx := ok.1
  have hb := ok.2.1
  obtain ⟨la', e', h'⟩ := hl.store (i := 2) (v := .int v) (by simp only [List.length_cons]; omega) rfl
  have h2 : lok la' (x0 :: x1 :: some (.int v) :: t) := h'
  intro T hT X
  obtain ⟨t9, a, b⟩ := kk (by rw [show (x0 :: x1 :: some (.int v) :: t).length = (x0 :: x1 :: x2 :: t).length from rfl]; exact ok) H locs la' hW hS h2 T hT X
  refine ⟨t9, ?_, b⟩
  jvm_step X.here [X.here.top, ↓top_set X.here.top, hx, hb, hd, e']
  first | exact a | exact ⟨rfl, a⟩

theorem v_astore_2 {x0 x1 x2 : Option Value} {t : List (Option Value)} {v : Nat} (hd : decode cc pc = .ok (.astore_n 2, 1)) (kk : V l g y cc rt tb L mc ms Po X M k n (pc + 1) (x0 :: x1 :: some (.ref v) :: t) (rest)) : V l g y cc rt tb L mc ms Po X M k n (pc) (x0 :: x1 :: x2 :: t) (.ref v :: rest) := by
  obtain ⟨p, e, s, m, args, below, meth, c, A⟩ := X
  intro ok H locs la hW hS hl
  have hx := ok.1
  have hb := ok.2.1
  obtain ⟨la', e', h'⟩ := hl.store (i := 2) (v := .ref v) (by simp only [List.length_cons]; omega) rfl
  have h2 : lok la' (x0 :: x1 :: some (.ref v) :: t) := h'
  intro T hT X
  obtain ⟨t9, a, b⟩ := kk (by rw [show (x0 :: x1 :: some (.ref v) :: t).length = (x0 :: x1 :: x2 :: t).length from rfl]; exact ok) H locs la' hW hS h2 T hT X
  refine ⟨t9, ?_, b⟩
  jvm_step X.here [X.here.top, ↓top_set X.here.top, hx, hb, hd, e']
  first | exact a | exact ⟨rfl, a⟩

theorem v_aNstore_2 {x0 x1 x2 : Option Value} {t : List (Option Value)}  (hd : decode cc pc = .ok (.astore_n 2, 1)) (kk : V l g y cc rt tb L mc ms Po X M k n (pc + 1) (x0 :: x1 :: some (.null) :: t) (rest)) : V l g y cc rt tb L mc ms Po X M k n (pc) (x0 :: x1 :: x2 :: t) (.null :: rest) := by
  obtain ⟨p, e, s, m, args, below, meth, c, A⟩ := X
  intro ok H locs la hW hS hl
  have hx := ok.1
  have hb := ok.2.1
  obtain ⟨la', e', h'⟩ := hl.store (i := 2) (v := .null) (by simp only [List.length_cons]; omega) rfl
  have h2 : lok la' (x0 :: x1 :: some (.null) :: t) := h'
  intro T hT X
  obtain ⟨t9, a, b⟩ := kk (by rw [show (x0 :: x1 :: some (.null) :: t).length = (x0 :: x1 :: x2 :: t).length from rfl]; exact ok) H locs la' hW hS h2 T hT X
  refine ⟨t9, ?_, b⟩
  jvm_step X.here [X.here.top, ↓top_set X.here.top, hx, hb, hd, e']
  first | exact a | exact ⟨rfl, a⟩

theorem v_iinc_2 {x0 x1 : Option Value} {t : List (Option Value)} {v : Int32} {d : Int} (hd : decode cc pc = .ok (.iinc 2 d, 3)) {w : Int32} (hw : v + Int32.ofInt d = w) (kk : V l g y cc rt tb L mc ms Po X M k n (pc + 3) (x0 :: x1 :: some (.int w) :: t) (rest)) : V l g y cc rt tb L mc ms Po X M k n (pc) (x0 :: x1 :: some (.int v) :: t) (rest) := by
  obtain ⟨p, e, s, m, args, below, meth, c, A⟩ := X
  intro ok H locs la hW hS hl
  have hx := ok.1
  have hb := ok.2.1
  have hl9 := (hl.2.2 2 (.int v) rfl).1
  obtain ⟨la', e', h'⟩ := hl.store (i := 2) (v := .int w) (by simp only [List.length_cons]; omega) rfl
  have h2 : lok la' (x0 :: x1 :: some (.int w) :: t) := h'
  subst hw
  intro T hT X
  obtain ⟨t9, a, b⟩ := kk (by rw [show (x0 :: x1 :: some (.int (v + Int32.ofInt d)) :: t).length = (x0 :: x1 :: some (.int v) :: t).length from rfl]; exact ok) H locs la' hW hS h2 T hT X
  refine ⟨t9, ?_, b⟩
  jvm_step X.here [X.here.top, ↓top_set X.here.top, hx, hb, hd, hl9, e']
  first | exact a | exact ⟨rfl, a⟩

theorem v_istore_3 {x0 x1 x2 x3 : Option Value} {t : List (Option Value)} {v : Int32} (hd : decode cc pc = .ok (.istore_n 3, 1)) (kk : V l g y cc rt tb L mc ms Po X M k n (pc + 1) (x0 :: x1 :: x2 :: some (.int v) :: t) (rest)) : V l g y cc rt tb L mc ms Po X M k n (pc) (x0 :: x1 :: x2 :: x3 :: t) (.int v :: rest) := by
  obtain ⟨p, e, s, m, args, below, meth, c, A⟩ := X
  intro ok H locs la hW hS hl
  have hx := ok.1
  have hb := ok.2.1
  obtain ⟨la', e', h'⟩ := hl.store (i := 3) (v := .int v) (by simp only [List.length_cons]; omega) rfl
  have h2 : lok la' (x0 :: x1 :: x2 :: some (.int v) :: t) := h'
  intro T hT X
  obtain ⟨t9, a, b⟩ := kk (by rw [show (x0 :: x1 :: x2 :: some (.int v) :: t).length = (x0 :: x1 :: x2 :: x3 :: t).length from rfl]; exact ok) H locs la' hW hS h2 T hT X
  refine ⟨t9, ?_, b⟩
  jvm_step X.here [X.here.top, ↓top_set X.here.top, hx, hb, hd, e']
  first | exact a | exact ⟨rfl, a⟩

theorem v_astore_3 {x0 x1 x2 x3 : Option Value} {t : List (Option Value)} {v : Nat} (hd : decode cc pc = .ok (.astore_n 3, 1)) (kk : V l g y cc rt tb L mc ms Po X M k n (pc + 1) (x0 :: x1 :: x2 :: some (.ref v) :: t) (rest)) : V l g y cc rt tb L mc ms Po X M k n (pc) (x0 :: x1 :: x2 :: x3 :: t) (.ref v :: rest) := by
  obtain ⟨p, e, s, m, args, below, meth, c, A⟩ := X
  intro ok H locs la hW hS hl
  have hx := ok.1
  have hb := ok.2.1
  obtain ⟨la', e', h'⟩ := hl.store (i := 3) (v := .ref v) (by simp only [List.length_cons]; omega) rfl
  have h2 : lok la' (x0 :: x1 :: x2 :: some (.ref v) :: t) := h'
  intro T hT X
  obtain ⟨t9, a, b⟩ := kk (by rw [show (x0 :: x1 :: x2 :: some (.ref v) :: t).length = (x0 :: x1 :: x2 :: x3 :: t).length from rfl]; exact ok) H locs la' hW hS h2 T hT X
  refine ⟨t9, ?_, b⟩
  jvm_step X.here [X.here.top, ↓top_set X.here.top, hx, hb, hd, e']
  first | exact a | exact ⟨rfl, a⟩

theorem v_aNstore_3 {x0 x1 x2 x3 : Option Value} {t : List (Option Value)}  (hd : decode cc pc = .ok (.astore_n 3, 1)) (kk : V l g y cc rt tb L mc ms Po X M k n (pc + 1) (x0 :: x1 :: x2 :: some (.null) :: t) (rest)) : V l g y cc rt tb L mc ms Po X M k n (pc) (x0 :: x1 :: x2 :: x3 :: t) (.null :: rest) := by
  obtain ⟨p, e, s, m, args, below, meth, c, A⟩ := X
  intro ok H locs la hW hS hl
  have hx := ok.1
  have hb := ok.2.1
  obtain ⟨la', e', h'⟩ := hl.store (i := 3) (v := .null) (by simp only [List.length_cons]; omega) rfl
  have h2 : lok la' (x0 :: x1 :: x2 :: some (.null) :: t) := h'
  intro T hT X
  obtain ⟨t9, a, b⟩ := kk (by rw [show (x0 :: x1 :: x2 :: some (.null) :: t).length = (x0 :: x1 :: x2 :: x3 :: t).length from rfl]; exact ok) H locs la' hW hS h2 T hT X
  refine ⟨t9, ?_, b⟩
  jvm_step X.here [X.here.top, ↓top_set X.here.top, hx, hb, hd, e']
  first | exact a | exact ⟨rfl, a⟩

theorem v_iinc_3 {x0 x1 x2 : Option Value} {t : List (Option Value)} {v : Int32} {d : Int} (hd : decode cc pc = .ok (.iinc 3 d, 3)) {w : Int32} (hw : v + Int32.ofInt d = w) (kk : V l g y cc rt tb L mc ms Po X M k n (pc + 3) (x0 :: x1 :: x2 :: some (.int w) :: t) (rest)) : V l g y cc rt tb L mc ms Po X M k n (pc) (x0 :: x1 :: x2 :: some (.int v) :: t) (rest) := by
  obtain ⟨p, e, s, m, args, below, meth, c, A⟩ := X
  intro ok H locs la hW hS hl
  have hx := ok.1
  have hb := ok.2.1
  have hl9 := (hl.2.2 3 (.int v) rfl).1
  obtain ⟨la', e', h'⟩ := hl.store (i := 3) (v := .int w) (by simp only [List.length_cons]; omega) rfl
  have h2 : lok la' (x0 :: x1 :: x2 :: some (.int w) :: t) := h'
  subst hw
  intro T hT X
  obtain ⟨t9, a, b⟩ := kk (by rw [show (x0 :: x1 :: x2 :: some (.int (v + Int32.ofInt d)) :: t).length = (x0 :: x1 :: x2 :: some (.int v) :: t).length from rfl]; exact ok) H locs la' hW hS h2 T hT X
  refine ⟨t9, ?_, b⟩
  jvm_step X.here [X.here.top, ↓top_set X.here.top, hx, hb, hd, hl9, e']
  first | exact a | exact ⟨rfl, a⟩

theorem v_istore_4 {x0 x1 x2 x3 x4 : Option Value} {t : List (Option Value)} {v : Int32} (hd : decode cc pc = .ok (.istore 4, 2)) (kk : V l g y cc rt tb L mc ms Po X M k n (pc + 2) (x0 :: x1 :: x2 :: x3 :: some (.int v) :: t) (rest)) : V l g y cc rt tb L mc ms Po X M k n (pc) (x0 :: x1 :: x2 :: x3 :: x4 :: t) (.int v :: rest) := by
  obtain ⟨p, e, s, m, args, below, meth, c, A⟩ := X
  intro ok H locs la hW hS hl
  have hx := ok.1
  have hb := ok.2.1
  obtain ⟨la', e', h'⟩ := hl.store (i := 4) (v := .int v) (by simp only [List.length_cons]; omega) rfl
  have h2 : lok la' (x0 :: x1 :: x2 :: x3 :: some (.int v) :: t) := h'
  intro T hT X
  obtain ⟨t9, a, b⟩ := kk (by rw [show (x0 :: x1 :: x2 :: x3 :: some (.int v) :: t).length = (x0 :: x1 :: x2 :: x3 :: x4 :: t).length from rfl]; exact ok) H locs la' hW hS h2 T hT X
  refine ⟨t9, ?_, b⟩
  jvm_step X.here [X.here.top, ↓top_set X.here.top, hx, hb, hd, e']
  first | exact a | exact ⟨rfl, a⟩

theorem v_astore_4 {x0 x1 x2 x3 x4 : Option Value} {t : List (Option Value)} {v : Nat} (hd : decode cc pc = .ok (.astore 4, 2)) (kk : V l g y cc rt tb L mc ms Po X M k n (pc + 2) (x0 :: x1 :: x2 :: x3 :: some (.ref v) :: t) (rest)) : V l g y cc rt tb L mc ms Po X M k n (pc) (x0 :: x1 :: x2 :: x3 :: x4 :: t) (.ref v :: rest) := by
  obtain ⟨p, e, s, m, args, below, meth, c, A⟩ := X
  intro ok H locs la hW hS hl
  have hx := ok.1
  have hb := ok.2.1
  obtain ⟨la', e', h'⟩ := hl.store (i := 4) (v := .ref v) (by simp only [List.length_cons]; omega) rfl
  have h2 : lok la' (x0 :: x1 :: x2 :: x3 :: some (.ref v) :: t) := h'
  intro T hT X
  obtain ⟨t9, a, b⟩ := kk (by rw [show (x0 :: x1 :: x2 :: x3 :: some (.ref v) :: t).length = (x0 :: x1 :: x2 :: x3 :: x4 :: t).length from rfl]; exact ok) H locs la' hW hS h2 T hT X
  refine ⟨t9, ?_, b⟩
  jvm_step X.here [X.here.top, ↓top_set X.here.top, hx, hb, hd, e']
  first | exact a | exact ⟨rfl, a⟩

theorem v_aNstore_4 {x0 x1 x2 x3 x4 : Option Value} {t : List (Option Value)}  (hd : decode cc pc = .ok (.astore 4, 2)) (kk : V l g y cc rt tb L mc ms Po X M k n (pc + 2) (x0 :: x1 :: x2 :: x3 :: some (.null) :: t) (rest)) : V l g y cc rt tb L mc ms Po X M k n (pc) (x0 :: x1 :: x2 :: x3 :: x4 :: t) (.null :: rest) := by
  obtain ⟨p, e, s, m, args, below, meth, c, A⟩ := X
  intro ok H locs la hW hS hl
  have hx := ok.1
  have hb := ok.2.1
  obtain ⟨la', e', h'⟩ := hl.store (i := 4) (v := .null) (by simp only [List.length_cons]; omega) rfl
  have h2 : lok la' (x0 :: x1 :: x2 :: x3 :: some (.null) :: t) := h'
  intro T hT X
  obtain ⟨t9, a, b⟩ := kk (by rw [show (x0 :: x1 :: x2 :: x3 :: some (.null) :: t).length = (x0 :: x1 :: x2 :: x3 :: x4 :: t).length from rfl]; exact ok) H locs la' hW hS h2 T hT X
  refine ⟨t9, ?_, b⟩
  jvm_step X.here [X.here.top, ↓top_set X.here.top, hx, hb, hd, e']
  first | exact a | exact ⟨rfl, a⟩

theorem v_fstore_4 {x0 x1 x2 x3 x4 : Option Value} {t : List (Option Value)} {v : UInt32} (hd : decode cc pc = .ok (.fstore 4, 2)) (kk : V l g y cc rt tb L mc ms Po X M k n (pc + 2) (x0 :: x1 :: x2 :: x3 :: some (.float v) :: t) (rest)) : V l g y cc rt tb L mc ms Po X M k n (pc) (x0 :: x1 :: x2 :: x3 :: x4 :: t) (.float v :: rest) := by
  obtain ⟨p, e, s, m, args, below, meth, c, A⟩ := X
  intro ok H locs la hW hS hl
  have hx := ok.1
  have hb := ok.2.1
  obtain ⟨la', e', h'⟩ := hl.store (i := 4) (v := .float v) (by simp only [List.length_cons]; omega) rfl
  have h2 : lok la' (x0 :: x1 :: x2 :: x3 :: some (.float v) :: t) := h'
  intro T hT X
  obtain ⟨t9, a, b⟩ := kk (by rw [show (x0 :: x1 :: x2 :: x3 :: some (.float v) :: t).length = (x0 :: x1 :: x2 :: x3 :: x4 :: t).length from rfl]; exact ok) H locs la' hW hS h2 T hT X
  refine ⟨t9, ?_, b⟩
  jvm_step X.here [X.here.top, ↓top_set X.here.top, hx, hb, hd, e']
  first | exact a | exact ⟨rfl, a⟩

theorem v_iinc_4 {x0 x1 x2 x3 : Option Value} {t : List (Option Value)} {v : Int32} {d : Int} (hd : decode cc pc = .ok (.iinc 4 d, 3)) {w : Int32} (hw : v + Int32.ofInt d = w) (kk : V l g y cc rt tb L mc ms Po X M k n (pc + 3) (x0 :: x1 :: x2 :: x3 :: some (.int w) :: t) (rest)) : V l g y cc rt tb L mc ms Po X M k n (pc) (x0 :: x1 :: x2 :: x3 :: some (.int v) :: t) (rest) := by
  obtain ⟨p, e, s, m, args, below, meth, c, A⟩ := X
  intro ok H locs la hW hS hl
  have hx := ok.1
  have hb := ok.2.1
  have hl9 := (hl.2.2 4 (.int v) rfl).1
  obtain ⟨la', e', h'⟩ := hl.store (i := 4) (v := .int w) (by simp only [List.length_cons]; omega) rfl
  have h2 : lok la' (x0 :: x1 :: x2 :: x3 :: some (.int w) :: t) := h'
  subst hw
  intro T hT X
  obtain ⟨t9, a, b⟩ := kk (by rw [show (x0 :: x1 :: x2 :: x3 :: some (.int (v + Int32.ofInt d)) :: t).length = (x0 :: x1 :: x2 :: x3 :: some (.int v) :: t).length from rfl]; exact ok) H locs la' hW hS h2 T hT X
  refine ⟨t9, ?_, b⟩
  jvm_step X.here [X.here.top, ↓top_set X.here.top, hx, hb, hd, hl9, e']
  first | exact a | exact ⟨rfl, a⟩

theorem v_istore_5 {x0 x1 x2 x3 x4 x5 : Option Value} {t : List (Option Value)} {v : Int32} (hd : decode cc pc = .ok (.istore 5, 2)) (kk : V l g y cc rt tb L mc ms Po X M k n (pc + 2) (x0 :: x1 :: x2 :: x3 :: x4 :: some (.int v) :: t) (rest)) : V l g y cc rt tb L mc ms Po X M k n (pc) (x0 :: x1 :: x2 :: x3 :: x4 :: x5 :: t) (.int v :: rest) := by
  obtain ⟨p, e, s, m, args, below, meth, c, A⟩ := X
  intro ok H locs la hW hS hl
  have hx := ok.1
  have hb := ok.2.1
  obtain ⟨la', e', h'⟩ := hl.store (i := 5) (v := .int v) (by simp only [List.length_cons]; omega) rfl
  have h2 : lok la' (x0 :: x1 :: x2 :: x3 :: x4 :: some (.int v) :: t) := h'
  intro T hT X
  obtain ⟨t9, a, b⟩ := kk (by rw [show (x0 :: x1 :: x2 :: x3 :: x4 :: some (.int v) :: t).length = (x0 :: x1 :: x2 :: x3 :: x4 :: x5 :: t).length from rfl]; exact ok) H locs la' hW hS h2 T hT X
  refine ⟨t9, ?_, b⟩
  jvm_step X.here [X.here.top, ↓top_set X.here.top, hx, hb, hd, e']
  first | exact a | exact ⟨rfl, a⟩

theorem v_astore_5 {x0 x1 x2 x3 x4 x5 : Option Value} {t : List (Option Value)} {v : Nat} (hd : decode cc pc = .ok (.astore 5, 2)) (kk : V l g y cc rt tb L mc ms Po X M k n (pc + 2) (x0 :: x1 :: x2 :: x3 :: x4 :: some (.ref v) :: t) (rest)) : V l g y cc rt tb L mc ms Po X M k n (pc) (x0 :: x1 :: x2 :: x3 :: x4 :: x5 :: t) (.ref v :: rest) := by
  obtain ⟨p, e, s, m, args, below, meth, c, A⟩ := X
  intro ok H locs la hW hS hl
  have hx := ok.1
  have hb := ok.2.1
  obtain ⟨la', e', h'⟩ := hl.store (i := 5) (v := .ref v) (by simp only [List.length_cons]; omega) rfl
  have h2 : lok la' (x0 :: x1 :: x2 :: x3 :: x4 :: some (.ref v) :: t) := h'
  intro T hT X
  obtain ⟨t9, a, b⟩ := kk (by rw [show (x0 :: x1 :: x2 :: x3 :: x4 :: some (.ref v) :: t).length = (x0 :: x1 :: x2 :: x3 :: x4 :: x5 :: t).length from rfl]; exact ok) H locs la' hW hS h2 T hT X
  refine ⟨t9, ?_, b⟩
  jvm_step X.here [X.here.top, ↓top_set X.here.top, hx, hb, hd, e']
  first | exact a | exact ⟨rfl, a⟩

theorem v_aNstore_5 {x0 x1 x2 x3 x4 x5 : Option Value} {t : List (Option Value)}  (hd : decode cc pc = .ok (.astore 5, 2)) (kk : V l g y cc rt tb L mc ms Po X M k n (pc + 2) (x0 :: x1 :: x2 :: x3 :: x4 :: some (.null) :: t) (rest)) : V l g y cc rt tb L mc ms Po X M k n (pc) (x0 :: x1 :: x2 :: x3 :: x4 :: x5 :: t) (.null :: rest) := by
  obtain ⟨p, e, s, m, args, below, meth, c, A⟩ := X
  intro ok H locs la hW hS hl
  have hx := ok.1
  have hb := ok.2.1
  obtain ⟨la', e', h'⟩ := hl.store (i := 5) (v := .null) (by simp only [List.length_cons]; omega) rfl
  have h2 : lok la' (x0 :: x1 :: x2 :: x3 :: x4 :: some (.null) :: t) := h'
  intro T hT X
  obtain ⟨t9, a, b⟩ := kk (by rw [show (x0 :: x1 :: x2 :: x3 :: x4 :: some (.null) :: t).length = (x0 :: x1 :: x2 :: x3 :: x4 :: x5 :: t).length from rfl]; exact ok) H locs la' hW hS h2 T hT X
  refine ⟨t9, ?_, b⟩
  jvm_step X.here [X.here.top, ↓top_set X.here.top, hx, hb, hd, e']
  first | exact a | exact ⟨rfl, a⟩

theorem v_fstore_5 {x0 x1 x2 x3 x4 x5 : Option Value} {t : List (Option Value)} {v : UInt32} (hd : decode cc pc = .ok (.fstore 5, 2)) (kk : V l g y cc rt tb L mc ms Po X M k n (pc + 2) (x0 :: x1 :: x2 :: x3 :: x4 :: some (.float v) :: t) (rest)) : V l g y cc rt tb L mc ms Po X M k n (pc) (x0 :: x1 :: x2 :: x3 :: x4 :: x5 :: t) (.float v :: rest) := by
  obtain ⟨p, e, s, m, args, below, meth, c, A⟩ := X
  intro ok H locs la hW hS hl
  have hx := ok.1
  have hb := ok.2.1
  obtain ⟨la', e', h'⟩ := hl.store (i := 5) (v := .float v) (by simp only [List.length_cons]; omega) rfl
  have h2 : lok la' (x0 :: x1 :: x2 :: x3 :: x4 :: some (.float v) :: t) := h'
  intro T hT X
  obtain ⟨t9, a, b⟩ := kk (by rw [show (x0 :: x1 :: x2 :: x3 :: x4 :: some (.float v) :: t).length = (x0 :: x1 :: x2 :: x3 :: x4 :: x5 :: t).length from rfl]; exact ok) H locs la' hW hS h2 T hT X
  refine ⟨t9, ?_, b⟩
  jvm_step X.here [X.here.top, ↓top_set X.here.top, hx, hb, hd, e']
  first | exact a | exact ⟨rfl, a⟩

theorem v_iinc_5 {x0 x1 x2 x3 x4 : Option Value} {t : List (Option Value)} {v : Int32} {d : Int} (hd : decode cc pc = .ok (.iinc 5 d, 3)) {w : Int32} (hw : v + Int32.ofInt d = w) (kk : V l g y cc rt tb L mc ms Po X M k n (pc + 3) (x0 :: x1 :: x2 :: x3 :: x4 :: some (.int w) :: t) (rest)) : V l g y cc rt tb L mc ms Po X M k n (pc) (x0 :: x1 :: x2 :: x3 :: x4 :: some (.int v) :: t) (rest) := by
  obtain ⟨p, e, s, m, args, below, meth, c, A⟩ := X
  intro ok H locs la hW hS hl
  have hx := ok.1
  have hb := ok.2.1
  have hl9 := (hl.2.2 5 (.int v) rfl).1
  obtain ⟨la', e', h'⟩ := hl.store (i := 5) (v := .int w) (by simp only [List.length_cons]; omega) rfl
  have h2 : lok la' (x0 :: x1 :: x2 :: x3 :: x4 :: some (.int w) :: t) := h'
  subst hw
  intro T hT X
  obtain ⟨t9, a, b⟩ := kk (by rw [show (x0 :: x1 :: x2 :: x3 :: x4 :: some (.int (v + Int32.ofInt d)) :: t).length = (x0 :: x1 :: x2 :: x3 :: x4 :: some (.int v) :: t).length from rfl]; exact ok) H locs la' hW hS h2 T hT X
  refine ⟨t9, ?_, b⟩
  jvm_step X.here [X.here.top, ↓top_set X.here.top, hx, hb, hd, hl9, e']
  first | exact a | exact ⟨rfl, a⟩

theorem v_istore_6 {x0 x1 x2 x3 x4 x5 x6 : Option Value} {t : List (Option Value)} {v : Int32} (hd : decode cc pc = .ok (.istore 6, 2)) (kk : V l g y cc rt tb L mc ms Po X M k n (pc + 2) (x0 :: x1 :: x2 :: x3 :: x4 :: x5 :: some (.int v) :: t) (rest)) : V l g y cc rt tb L mc ms Po X M k n (pc) (x0 :: x1 :: x2 :: x3 :: x4 :: x5 :: x6 :: t) (.int v :: rest) := by
  obtain ⟨p, e, s, m, args, below, meth, c, A⟩ := X
  intro ok H locs la hW hS hl
  have hx := ok.1
  have hb := ok.2.1
  obtain ⟨la', e', h'⟩ := hl.store (i := 6) (v := .int v) (by simp only [List.length_cons]; omega) rfl
  have h2 : lok la' (x0 :: x1 :: x2 :: x3 :: x4 :: x5 :: some (.int v) :: t) := h'
  intro T hT X
  obtain ⟨t9, a, b⟩ := kk (by rw [show (x0 :: x1 :: x2 :: x3 :: x4 :: x5 :: some (.int v) :: t).length = (x0 :: x1 :: x2 :: x3 :: x4 :: x5 :: x6 :: t).length from rfl]; exact ok) H locs la' hW hS h2 T hT X
  refine ⟨t9, ?_, b⟩
  jvm_step X.here [X.here.top, ↓top_set X.here.top, hx, hb, hd, e']
  first | exact a | exact ⟨rfl, a⟩

theorem v_astore_6 {x0 x1 x2 x3 x4 x5 x6 : Option Value} {t : List (Option Value)} {v : Nat} (hd : decode cc pc = .ok (.astore 6, 2)) (kk : V l g y cc rt tb L mc ms Po X M k n (pc + 2) (x0 :: x1 :: x2 :: x3 :: x4 :: x5 :: some (.ref v) :: t) (rest)) : V l g y cc rt tb L mc ms Po X M k n (pc) (x0 :: x1 :: x2 :: x3 :: x4 :: x5 :: x6 :: t) (.ref v :: rest) := by
  obtain ⟨p, e, s, m, args, below, meth, c, A⟩ := X
  intro ok H locs la hW hS hl
  have hx := ok.1
  have hb := ok.2.1
  obtain ⟨la', e', h'⟩ := hl.store (i := 6) (v := .ref v) (by simp only [List.length_cons]; omega) rfl
  have h2 : lok la' (x0 :: x1 :: x2 :: x3 :: x4 :: x5 :: some (.ref v) :: t) := h'
  intro T hT X
  obtain ⟨t9, a, b⟩ := kk (by rw [show (x0 :: x1 :: x2 :: x3 :: x4 :: x5 :: some (.ref v) :: t).length = (x0 :: x1 :: x2 :: x3 :: x4 :: x5 :: x6 :: t).length from rfl]; exact ok) H locs la' hW hS h2 T hT X
  refine ⟨t9, ?_, b⟩
  jvm_step X.here [X.here.top, ↓top_set X.here.top, hx, hb, hd, e']
  first | exact a | exact ⟨rfl, a⟩

theorem v_aNstore_6 {x0 x1 x2 x3 x4 x5 x6 : Option Value} {t : List (Option Value)}  (hd : decode cc pc = .ok (.astore 6, 2)) (kk : V l g y cc rt tb L mc ms Po X M k n (pc + 2) (x0 :: x1 :: x2 :: x3 :: x4 :: x5 :: some (.null) :: t) (rest)) : V l g y cc rt tb L mc ms Po X M k n (pc) (x0 :: x1 :: x2 :: x3 :: x4 :: x5 :: x6 :: t) (.null :: rest) := by
  obtain ⟨p, e, s, m, args, below, meth, c, A⟩ := X
  intro ok H locs la hW hS hl
  have hx := ok.1
  have hb := ok.2.1
  obtain ⟨la', e', h'⟩ := hl.store (i := 6) (v := .null) (by simp only [List.length_cons]; omega) rfl
  have h2 : lok la' (x0 :: x1 :: x2 :: x3 :: x4 :: x5 :: some (.null) :: t) := h'
  intro T hT X
  obtain ⟨t9, a, b⟩ := kk (by rw [show (x0 :: x1 :: x2 :: x3 :: x4 :: x5 :: some (.null) :: t).length = (x0 :: x1 :: x2 :: x3 :: x4 :: x5 :: x6 :: t).length from rfl]; exact ok) H locs la' hW hS h2 T hT X
  refine ⟨t9, ?_, b⟩
  jvm_step X.here [X.here.top, ↓top_set X.here.top, hx, hb, hd, e']
  first | exact a | exact ⟨rfl, a⟩

theorem v_fstore_6 {x0 x1 x2 x3 x4 x5 x6 : Option Value} {t : List (Option Value)} {v : UInt32} (hd : decode cc pc = .ok (.fstore 6, 2)) (kk : V l g y cc rt tb L mc ms Po X M k n (pc + 2) (x0 :: x1 :: x2 :: x3 :: x4 :: x5 :: some (.float v) :: t) (rest)) : V l g y cc rt tb L mc ms Po X M k n (pc) (x0 :: x1 :: x2 :: x3 :: x4 :: x5 :: x6 :: t) (.float v :: rest) := by
  obtain ⟨p, e, s, m, args, below, meth, c, A⟩ := X
  intro ok H locs la hW hS hl
  have hx := ok.1
  have hb := ok.2.1
  obtain ⟨la', e', h'⟩ := hl.store (i := 6) (v := .float v) (by simp only [List.length_cons]; omega) rfl
  have h2 : lok la' (x0 :: x1 :: x2 :: x3 :: x4 :: x5 :: some (.float v) :: t) := h'
  intro T hT X
  obtain ⟨t9, a, b⟩ := kk (by rw [show (x0 :: x1 :: x2 :: x3 :: x4 :: x5 :: some (.float v) :: t).length = (x0 :: x1 :: x2 :: x3 :: x4 :: x5 :: x6 :: t).length from rfl]; exact ok) H locs la' hW hS h2 T hT X
  refine ⟨t9, ?_, b⟩
  jvm_step X.here [X.here.top, ↓top_set X.here.top, hx, hb, hd, e']
  first | exact a | exact ⟨rfl, a⟩

theorem v_iinc_6 {x0 x1 x2 x3 x4 x5 : Option Value} {t : List (Option Value)} {v : Int32} {d : Int} (hd : decode cc pc = .ok (.iinc 6 d, 3)) {w : Int32} (hw : v + Int32.ofInt d = w) (kk : V l g y cc rt tb L mc ms Po X M k n (pc + 3) (x0 :: x1 :: x2 :: x3 :: x4 :: x5 :: some (.int w) :: t) (rest)) : V l g y cc rt tb L mc ms Po X M k n (pc) (x0 :: x1 :: x2 :: x3 :: x4 :: x5 :: some (.int v) :: t) (rest) := by
  obtain ⟨p, e, s, m, args, below, meth, c, A⟩ := X
  intro ok H locs la hW hS hl
  have hx := ok.1
  have hb := ok.2.1
  have hl9 := (hl.2.2 6 (.int v) rfl).1
  obtain ⟨la', e', h'⟩ := hl.store (i := 6) (v := .int w) (by simp only [List.length_cons]; omega) rfl
  have h2 : lok la' (x0 :: x1 :: x2 :: x3 :: x4 :: x5 :: some (.int w) :: t) := h'
  subst hw
  intro T hT X
  obtain ⟨t9, a, b⟩ := kk (by rw [show (x0 :: x1 :: x2 :: x3 :: x4 :: x5 :: some (.int (v + Int32.ofInt d)) :: t).length = (x0 :: x1 :: x2 :: x3 :: x4 :: x5 :: some (.int v) :: t).length from rfl]; exact ok) H locs la' hW hS h2 T hT X
  refine ⟨t9, ?_, b⟩
  jvm_step X.here [X.here.top, ↓top_set X.here.top, hx, hb, hd, hl9, e']
  first | exact a | exact ⟨rfl, a⟩

theorem v_istore_7 {x0 x1 x2 x3 x4 x5 x6 x7 : Option Value} {t : List (Option Value)} {v : Int32} (hd : decode cc pc = .ok (.istore 7, 2)) (kk : V l g y cc rt tb L mc ms Po X M k n (pc + 2) (x0 :: x1 :: x2 :: x3 :: x4 :: x5 :: x6 :: some (.int v) :: t) (rest)) : V l g y cc rt tb L mc ms Po X M k n (pc) (x0 :: x1 :: x2 :: x3 :: x4 :: x5 :: x6 :: x7 :: t) (.int v :: rest) := by
  obtain ⟨p, e, s, m, args, below, meth, c, A⟩ := X
  intro ok H locs la hW hS hl
  have hx := ok.1
  have hb := ok.2.1
  obtain ⟨la', e', h'⟩ := hl.store (i := 7) (v := .int v) (by simp only [List.length_cons]; omega) rfl
  have h2 : lok la' (x0 :: x1 :: x2 :: x3 :: x4 :: x5 :: x6 :: some (.int v) :: t) := h'
  intro T hT X
  obtain ⟨t9, a, b⟩ := kk (by rw [show (x0 :: x1 :: x2 :: x3 :: x4 :: x5 :: x6 :: some (.int v) :: t).length = (x0 :: x1 :: x2 :: x3 :: x4 :: x5 :: x6 :: x7 :: t).length from rfl]; exact ok) H locs la' hW hS h2 T hT X
  refine ⟨t9, ?_, b⟩
  jvm_step X.here [X.here.top, ↓top_set X.here.top, hx, hb, hd, e']
  first | exact a | exact ⟨rfl, a⟩

theorem v_astore_7 {x0 x1 x2 x3 x4 x5 x6 x7 : Option Value} {t : List (Option Value)} {v : Nat} (hd : decode cc pc = .ok (.astore 7, 2)) (kk : V l g y cc rt tb L mc ms Po X M k n (pc + 2) (x0 :: x1 :: x2 :: x3 :: x4 :: x5 :: x6 :: some (.ref v) :: t) (rest)) : V l g y cc rt tb L mc ms Po X M k n (pc) (x0 :: x1 :: x2 :: x3 :: x4 :: x5 :: x6 :: x7 :: t) (.ref v :: rest) := by
  obtain ⟨p, e, s, m, args, below, meth, c, A⟩ := X
  intro ok H locs la hW hS hl
  have hx := ok.1
  have hb := ok.2.1
  obtain ⟨la', e', h'⟩ := hl.store (i := 7) (v := .ref v) (by simp only [List.length_cons]; omega) rfl
  have h2 : lok la' (x0 :: x1 :: x2 :: x3 :: x4 :: x5 :: x6 :: some (.ref v) :: t) := h'
  intro T hT X
  obtain ⟨t9, a, b⟩ := kk (by rw [show (x0 :: x1 :: x2 :: x3 :: x4 :: x5 :: x6 :: some (.ref v) :: t).length = (x0 :: x1 :: x2 :: x3 :: x4 :: x5 :: x6 :: x7 :: t).length from rfl]; exact ok) H locs la' hW hS h2 T hT X
  refine ⟨t9, ?_, b⟩
  jvm_step X.here [X.here.top, ↓top_set X.here.top, hx, hb, hd, e']
  first | exact a | exact ⟨rfl, a⟩

theorem v_aNstore_7 {x0 x1 x2 x3 x4 x5 x6 x7 : Option Value} {t : List (Option Value)}  (hd : decode cc pc = .ok (.astore 7, 2)) (kk : V l g y cc rt tb L mc ms Po X M k n (pc + 2) (x0 :: x1 :: x2 :: x3 :: x4 :: x5 :: x6 :: some (.null) :: t) (rest)) : V l g y cc rt tb L mc ms Po X M k n (pc) (x0 :: x1 :: x2 :: x3 :: x4 :: x5 :: x6 :: x7 :: t) (.null :: rest) := by
  obtain ⟨p, e, s, m, args, below, meth, c, A⟩ := X
  intro ok H locs la hW hS hl
  have hx := ok.1
  have hb := ok.2.1
  obtain ⟨la', e', h'⟩ := hl.store (i := 7) (v := .null) (by simp only [List.length_cons]; omega) rfl
  have h2 : lok la' (x0 :: x1 :: x2 :: x3 :: x4 :: x5 :: x6 :: some (.null) :: t) := h'
  intro T hT X
  obtain ⟨t9, a, b⟩ := kk (by rw [show (x0 :: x1 :: x2 :: x3 :: x4 :: x5 :: x6 :: some (.null) :: t).length = (x0 :: x1 :: x2 :: x3 :: x4 :: x5 :: x6 :: x7 :: t).length from rfl]; exact ok) H locs la' hW hS h2 T hT X
  refine ⟨t9, ?_, b⟩
  jvm_step X.here [X.here.top, ↓top_set X.here.top, hx, hb, hd, e']
  first | exact a | exact ⟨rfl, a⟩

theorem v_fstore_7 {x0 x1 x2 x3 x4 x5 x6 x7 : Option Value} {t : List (Option Value)} {v : UInt32} (hd : decode cc pc = .ok (.fstore 7, 2)) (kk : V l g y cc rt tb L mc ms Po X M k n (pc + 2) (x0 :: x1 :: x2 :: x3 :: x4 :: x5 :: x6 :: some (.float v) :: t) (rest)) : V l g y cc rt tb L mc ms Po X M k n (pc) (x0 :: x1 :: x2 :: x3 :: x4 :: x5 :: x6 :: x7 :: t) (.float v :: rest) := by
  obtain ⟨p, e, s, m, args, below, meth, c, A⟩ := X
  intro ok H locs la hW hS hl
  have hx := ok.1
  have hb := ok.2.1
  obtain ⟨la', e', h'⟩ := hl.store (i := 7) (v := .float v) (by simp only [List.length_cons]; omega) rfl
  have h2 : lok la' (x0 :: x1 :: x2 :: x3 :: x4 :: x5 :: x6 :: some (.float v) :: t) := h'
  intro T hT X
  obtain ⟨t9, a, b⟩ := kk (by rw [show (x0 :: x1 :: x2 :: x3 :: x4 :: x5 :: x6 :: some (.float v) :: t).length = (x0 :: x1 :: x2 :: x3 :: x4 :: x5 :: x6 :: x7 :: t).length from rfl]; exact ok) H locs la' hW hS h2 T hT X
  refine ⟨t9, ?_, b⟩
  jvm_step X.here [X.here.top, ↓top_set X.here.top, hx, hb, hd, e']
  first | exact a | exact ⟨rfl, a⟩

theorem v_iinc_7 {x0 x1 x2 x3 x4 x5 x6 : Option Value} {t : List (Option Value)} {v : Int32} {d : Int} (hd : decode cc pc = .ok (.iinc 7 d, 3)) {w : Int32} (hw : v + Int32.ofInt d = w) (kk : V l g y cc rt tb L mc ms Po X M k n (pc + 3) (x0 :: x1 :: x2 :: x3 :: x4 :: x5 :: x6 :: some (.int w) :: t) (rest)) : V l g y cc rt tb L mc ms Po X M k n (pc) (x0 :: x1 :: x2 :: x3 :: x4 :: x5 :: x6 :: some (.int v) :: t) (rest) := by
  obtain ⟨p, e, s, m, args, below, meth, c, A⟩ := X
  intro ok H locs la hW hS hl
  have hx := ok.1
  have hb := ok.2.1
  have hl9 := (hl.2.2 7 (.int v) rfl).1
  obtain ⟨la', e', h'⟩ := hl.store (i := 7) (v := .int w) (by simp only [List.length_cons]; omega) rfl
  have h2 : lok la' (x0 :: x1 :: x2 :: x3 :: x4 :: x5 :: x6 :: some (.int w) :: t) := h'
  subst hw
  intro T hT X
  obtain ⟨t9, a, b⟩ := kk (by rw [show (x0 :: x1 :: x2 :: x3 :: x4 :: x5 :: x6 :: some (.int (v + Int32.ofInt d)) :: t).length = (x0 :: x1 :: x2 :: x3 :: x4 :: x5 :: x6 :: some (.int v) :: t).length from rfl]; exact ok) H locs la' hW hS h2 T hT X
  refine ⟨t9, ?_, b⟩
  jvm_step X.here [X.here.top, ↓top_set X.here.top, hx, hb, hd, hl9, e']
  first | exact a | exact ⟨rfl, a⟩

theorem v_istore_8 {x0 x1 x2 x3 x4 x5 x6 x7 x8 : Option Value} {t : List (Option Value)} {v : Int32} (hd : decode cc pc = .ok (.istore 8, 2)) (kk : V l g y cc rt tb L mc ms Po X M k n (pc + 2) (x0 :: x1 :: x2 :: x3 :: x4 :: x5 :: x6 :: x7 :: some (.int v) :: t) (rest)) : V l g y cc rt tb L mc ms Po X M k n (pc) (x0 :: x1 :: x2 :: x3 :: x4 :: x5 :: x6 :: x7 :: x8 :: t) (.int v :: rest) := by
  obtain ⟨p, e, s, m, args, below, meth, c, A⟩ := X
  intro ok H locs la hW hS hl
  have hx := ok.1
  have hb := ok.2.1
  obtain ⟨la', e', h'⟩ := hl.store (i := 8) (v := .int v) (by simp only [List.length_cons]; omega) rfl
  have h2 : lok la' (x0 :: x1 :: x2 :: x3 :: x4 :: x5 :: x6 :: x7 :: some (.int v) :: t) := h'
  intro T hT X
  obtain ⟨t9, a, b⟩ := kk (by rw [show (x0 :: x1 :: x2 :: x3 :: x4 :: x5 :: x6 :: x7 :: some (.int v) :: t).length = (x0 :: x1 :: x2 :: x3 :: x4 :: x5 :: x6 :: x7 :: x8 :: t).length from rfl]; exact ok) H locs la' hW hS h2 T hT X
  refine ⟨t9, ?_, b⟩
  jvm_step X.here [X.here.top, ↓top_set X.here.top, hx, hb, hd, e']
  first | exact a | exact ⟨rfl, a⟩

theorem v_astore_8 {x0 x1 x2 x3 x4 x5 x6 x7 x8 : Option Value} {t : List (Option Value)} {v : Nat} (hd : decode cc pc = .ok (.astore 8, 2)) (kk : V l g y cc rt tb L mc ms Po X M k n (pc + 2) (x0 :: x1 :: x2 :: x3 :: x4 :: x5 :: x6 :: x7 :: some (.ref v) :: t) (rest)) : V l g y cc rt tb L mc ms Po X M k n (pc) (x0 :: x1 :: x2 :: x3 :: x4 :: x5 :: x6 :: x7 :: x8 :: t) (.ref v :: rest) := by
  obtain ⟨p, e, s, m, args, below, meth, c, A⟩ := X
  intro ok H locs la hW hS hl
  have hx := ok.1
  have hb := ok.2.1
  obtain ⟨la', e', h'⟩ := hl.store (i := 8) (v := .ref v) (by simp only [List.length_cons]; omega) rfl
  have h2 : lok la' (x0 :: x1 :: x2 :: x3 :: x4 :: x5 :: x6 :: x7 :: some (.ref v) :: t) := h'
  intro T hT X
  obtain ⟨t9, a, b⟩ := kk (by rw [show (x0 :: x1 :: x2 :: x3 :: x4 :: x5 :: x6 :: x7 :: some (.ref v) :: t).length = (x0 :: x1 :: x2 :: x3 :: x4 :: x5 :: x6 :: x7 :: x8 :: t).length from rfl]; exact ok) H locs la' hW hS h2 T hT X
  refine ⟨t9, ?_, b⟩
  jvm_step X.here [X.here.top, ↓top_set X.here.top, hx, hb, hd, e']
  first | exact a | exact ⟨rfl, a⟩

theorem v_aNstore_8 {x0 x1 x2 x3 x4 x5 x6 x7 x8 : Option Value} {t : List (Option Value)}  (hd : decode cc pc = .ok (.astore 8, 2)) (kk : V l g y cc rt tb L mc ms Po X M k n (pc + 2) (x0 :: x1 :: x2 :: x3 :: x4 :: x5 :: x6 :: x7 :: some (.null) :: t) (rest)) : V l g y cc rt tb L mc ms Po X M k n (pc) (x0 :: x1 :: x2 :: x3 :: x4 :: x5 :: x6 :: x7 :: x8 :: t) (.null :: rest) := by
  obtain ⟨p, e, s, m, args, below, meth, c, A⟩ := X
  intro ok H locs la hW hS hl
  have hx := ok.1
  have hb := ok.2.1
  obtain ⟨la', e', h'⟩ := hl.store (i := 8) (v := .null) (by simp only [List.length_cons]; omega) rfl
  have h2 : lok la' (x0 :: x1 :: x2 :: x3 :: x4 :: x5 :: x6 :: x7 :: some (.null) :: t) := h'
  intro T hT X
  obtain ⟨t9, a, b⟩ := kk (by rw [show (x0 :: x1 :: x2 :: x3 :: x4 :: x5 :: x6 :: x7 :: some (.null) :: t).length = (x0 :: x1 :: x2 :: x3 :: x4 :: x5 :: x6 :: x7 :: x8 :: t).length from rfl]; exact ok) H locs la' hW hS h2 T hT X
  refine ⟨t9, ?_, b⟩
  jvm_step X.here [X.here.top, ↓top_set X.here.top, hx, hb, hd, e']
  first | exact a | exact ⟨rfl, a⟩

theorem v_fstore_8 {x0 x1 x2 x3 x4 x5 x6 x7 x8 : Option Value} {t : List (Option Value)} {v : UInt32} (hd : decode cc pc = .ok (.fstore 8, 2)) (kk : V l g y cc rt tb L mc ms Po X M k n (pc + 2) (x0 :: x1 :: x2 :: x3 :: x4 :: x5 :: x6 :: x7 :: some (.float v) :: t) (rest)) : V l g y cc rt tb L mc ms Po X M k n (pc) (x0 :: x1 :: x2 :: x3 :: x4 :: x5 :: x6 :: x7 :: x8 :: t) (.float v :: rest) := by
  obtain ⟨p, e, s, m, args, below, meth, c, A⟩ := X
  intro ok H locs la hW hS hl
  have hx := ok.1
  have hb := ok.2.1
  obtain ⟨la', e', h'⟩ := hl.store (i := 8) (v := .float v) (by simp only [List.length_cons]; omega) rfl
  have h2 : lok la' (x0 :: x1 :: x2 :: x3 :: x4 :: x5 :: x6 :: x7 :: some (.float v) :: t) := h'
  intro T hT X
  obtain ⟨t9, a, b⟩ := kk (by rw [show (x0 :: x1 :: x2 :: x3 :: x4 :: x5 :: x6 :: x7 :: some (.float v) :: t).length = (x0 :: x1 :: x2 :: x3 :: x4 :: x5 :: x6 :: x7 :: x8 :: t).length from rfl]; exact ok) H locs la' hW hS h2 T hT X
  refine ⟨t9, ?_, b⟩
  jvm_step X.here [X.here.top, ↓top_set X.here.top, hx, hb, hd, e']
  first | exact a | exact ⟨rfl, a⟩

theorem v_iinc_8 {x0 x1 x2 x3 x4 x5 x6 x7 : Option Value} {t : List (Option Value)} {v : Int32} {d : Int} (hd : decode cc pc = .ok (.iinc 8 d, 3)) {w : Int32} (hw : v + Int32.ofInt d = w) (kk : V l g y cc rt tb L mc ms Po X M k n (pc + 3) (x0 :: x1 :: x2 :: x3 :: x4 :: x5 :: x6 :: x7 :: some (.int w) :: t) (rest)) : V l g y cc rt tb L mc ms Po X M k n (pc) (x0 :: x1 :: x2 :: x3 :: x4 :: x5 :: x6 :: x7 :: some (.int v) :: t) (rest) := by
  obtain ⟨p, e, s, m, args, below, meth, c, A⟩ := X
  intro ok H locs la hW hS hl
  have hx := ok.1
  have hb := ok.2.1
  have hl9 := (hl.2.2 8 (.int v) rfl).1
  obtain ⟨la', e', h'⟩ := hl.store (i := 8) (v := .int w) (by simp only [List.length_cons]; omega) rfl
  have h2 : lok la' (x0 :: x1 :: x2 :: x3 :: x4 :: x5 :: x6 :: x7 :: some (.int w) :: t) := h'
  subst hw
  intro T hT X
  obtain ⟨t9, a, b⟩ := kk (by rw [show (x0 :: x1 :: x2 :: x3 :: x4 :: x5 :: x6 :: x7 :: some (.int (v + Int32.ofInt d)) :: t).length = (x0 :: x1 :: x2 :: x3 :: x4 :: x5 :: x6 :: x7 :: some (.int v) :: t).length from rfl]; exact ok) H locs la' hW hS h2 T hT X
  refine ⟨t9, ?_, b⟩
  jvm_step X.here [X.here.top, ↓top_set X.here.top, hx, hb, hd, hl9, e']
  first | exact a | exact ⟨rfl, a⟩

theorem v_istore_9 {x0 x1 x2 x3 x4 x5 x6 x7 x8 x9 : Option Value} {t : List (Option Value)} {v : Int32} (hd : decode cc pc = .ok (.istore 9, 2)) (kk : V l g y cc rt tb L mc ms Po X M k n (pc + 2) (x0 :: x1 :: x2 :: x3 :: x4 :: x5 :: x6 :: x7 :: x8 :: some (.int v) :: t) (rest)) : V l g y cc rt tb L mc ms Po X M k n (pc) (x0 :: x1 :: x2 :: x3 :: x4 :: x5 :: x6 :: x7 :: x8 :: x9 :: t) (.int v :: rest) := by
  obtain ⟨p, e, s, m, args, below, meth, c, A⟩ := X
  intro ok H locs la hW hS hl
  have hx := ok.1
  have hb := ok.2.1
  obtain ⟨la', e', h'⟩ := hl.store (i := 9) (v := .int v) (by simp only [List.length_cons]; omega) rfl
  have h2 : lok la' (x0 :: x1 :: x2 :: x3 :: x4 :: x5 :: x6 :: x7 :: x8 :: some (.int v) :: t) := h'
  intro T hT X
  obtain ⟨t9, a, b⟩ := kk (by rw [show (x0 :: x1 :: x2 :: x3 :: x4 :: x5 :: x6 :: x7 :: x8 :: some (.int v) :: t).length = (x0 :: x1 :: x2 :: x3 :: x4 :: x5 :: x6 :: x7 :: x8 :: x9 :: t).length from rfl]; exact ok) H locs la' hW hS h2 T hT X
  refine ⟨t9, ?_, b⟩
  jvm_step X.here [X.here.top, ↓top_set X.here.top, hx, hb, hd, e']
  first | exact a | exact ⟨rfl, a⟩

theorem v_astore_9 {x0 x1 x2 x3 x4 x5 x6 x7 x8 x9 : Option Value} {t : List (Option Value)} {v : Nat} (hd : decode cc pc = .ok (.astore 9, 2)) (kk : V l g y cc rt tb L mc ms Po X M k n (pc + 2) (x0 :: x1 :: x2 :: x3 :: x4 :: x5 :: x6 :: x7 :: x8 :: some (.ref v) :: t) (rest)) : V l g y cc rt tb L mc ms Po X M k n (pc) (x0 :: x1 :: x2 :: x3 :: x4 :: x5 :: x6 :: x7 :: x8 :: x9 :: t) (.ref v :: rest) := by
  obtain ⟨p, e, s, m, args, below, meth, c, A⟩ := X
  intro ok H locs la hW hS hl
  have hx := ok.1
  have hb := ok.2.1
  obtain ⟨la', e', h'⟩ := hl.store (i := 9) (v := .ref v) (by simp only [List.length_cons]; omega) rfl
  have h2 : lok la' (x0 :: x1 :: x2 :: x3 :: x4 :: x5 :: x6 :: x7 :: x8 :: some (.ref v) :: t) := h'
  intro T hT X
  obtain ⟨t9, a, b⟩ := kk (by rw [show (x0 :: x1 :: x2 :: x3 :: x4 :: x5 :: x6 :: x7 :: x8 :: some (.ref v) :: t).length = (x0 :: x1 :: x2 :: x3 :: x4 :: x5 :: x6 :: x7 :: x8 :: x9 :: t).length from rfl]; exact ok) H locs la' hW hS h2 T hT X
  refine ⟨t9, ?_, b⟩
  jvm_step X.here [X.here.top, ↓top_set X.here.top, hx, hb, hd, e']
  first | exact a | exact ⟨rfl, a⟩

theorem v_aNstore_9 {x0 x1 x2 x3 x4 x5 x6 x7 x8 x9 : Option Value} {t : List (Option Value)}  (hd : decode cc pc = .ok (.astore 9, 2)) (kk : V l g y cc rt tb L mc ms Po X M k n (pc + 2) (x0 :: x1 :: x2 :: x3 :: x4 :: x5 :: x6 :: x7 :: x8 :: some (.null) :: t) (rest)) : V l g y cc rt tb L mc ms Po X M k n (pc) (x0 :: x1 :: x2 :: x3 :: x4 :: x5 :: x6 :: x7 :: x8 :: x9 :: t) (.null :: rest) := by
  obtain ⟨p, e, s, m, args, below, meth, c, A⟩ := X
  intro ok H locs la hW hS hl
  have hx := ok.1
  have hb := ok.2.1
  obtain ⟨la', e', h'⟩ := hl.store (i := 9) (v := .null) (by simp only [List.length_cons]; omega) rfl
  have h2 : lok la' (x0 :: x1 :: x2 :: x3 :: x4 :: x5 :: x6 :: x7 :: x8 :: some (.null) :: t) := h'
  intro T hT X
  obtain ⟨t9, a, b⟩ := kk (by rw [show (x0 :: x1 :: x2 :: x3 :: x4 :: x5 :: x6 :: x7 :: x8 :: some (.null) :: t).length = (x0 :: x1 :: x2 :: x3 :: x4 :: x5 :: x6 :: x7 :: x8 :: x9 :: t).length from rfl]; exact ok) H locs la' hW hS h2 T hT X
  refine ⟨t9, ?_, b⟩
  jvm_step X.here [X.here.top, ↓top_set X.here.top, hx, hb, hd, e']
  first | exact a | exact ⟨rfl, a⟩

theorem v_fstore_9 {x0 x1 x2 x3 x4 x5 x6 x7 x8 x9 : Option Value} {t : List (Option Value)} {v : UInt32} (hd : decode cc pc = .ok (.fstore 9, 2)) (kk : V l g y cc rt tb L mc ms Po X M k n (pc + 2) (x0 :: x1 :: x2 :: x3 :: x4 :: x5 :: x6 :: x7 :: x8 :: some (.float v) :: t) (rest)) : V l g y cc rt tb L mc ms Po X M k n (pc) (x0 :: x1 :: x2 :: x3 :: x4 :: x5 :: x6 :: x7 :: x8 :: x9 :: t) (.float v :: rest) := by
  obtain ⟨p, e, s, m, args, below, meth, c, A⟩ := X
  intro ok H locs la hW hS hl
  have hx := ok.1
  have hb := ok.2.1
  obtain ⟨la', e', h'⟩ := hl.store (i := 9) (v := .float v) (by simp only [List.length_cons]; omega) rfl
  have h2 : lok la' (x0 :: x1 :: x2 :: x3 :: x4 :: x5 :: x6 :: x7 :: x8 :: some (.float v) :: t) := h'
  intro T hT X
  obtain ⟨t9, a, b⟩ := kk (by rw [show (x0 :: x1 :: x2 :: x3 :: x4 :: x5 :: x6 :: x7 :: x8 :: some (.float v) :: t).length = (x0 :: x1 :: x2 :: x3 :: x4 :: x5 :: x6 :: x7 :: x8 :: x9 :: t).length from rfl]; exact ok) H locs la' hW hS h2 T hT X
  refine ⟨t9, ?_, b⟩
  jvm_step X.here [X.here.top, ↓top_set X.here.top, hx, hb, hd, e']
  first | exact a | exact ⟨rfl, a⟩

theorem v_iinc_9 {x0 x1 x2 x3 x4 x5 x6 x7 x8 : Option Value} {t : List (Option Value)} {v : Int32} {d : Int} (hd : decode cc pc = .ok (.iinc 9 d, 3)) {w : Int32} (hw : v + Int32.ofInt d = w) (kk : V l g y cc rt tb L mc ms Po X M k n (pc + 3) (x0 :: x1 :: x2 :: x3 :: x4 :: x5 :: x6 :: x7 :: x8 :: some (.int w) :: t) (rest)) : V l g y cc rt tb L mc ms Po X M k n (pc) (x0 :: x1 :: x2 :: x3 :: x4 :: x5 :: x6 :: x7 :: x8 :: some (.int v) :: t) (rest) := by
  obtain ⟨p, e, s, m, args, below, meth, c, A⟩ := X
  intro ok H locs la hW hS hl
  have hx := ok.1
  have hb := ok.2.1
  have hl9 := (hl.2.2 9 (.int v) rfl).1
  obtain ⟨la', e', h'⟩ := hl.store (i := 9) (v := .int w) (by simp only [List.length_cons]; omega) rfl
  have h2 : lok la' (x0 :: x1 :: x2 :: x3 :: x4 :: x5 :: x6 :: x7 :: x8 :: some (.int w) :: t) := h'
  subst hw
  intro T hT X
  obtain ⟨t9, a, b⟩ := kk (by rw [show (x0 :: x1 :: x2 :: x3 :: x4 :: x5 :: x6 :: x7 :: x8 :: some (.int (v + Int32.ofInt d)) :: t).length = (x0 :: x1 :: x2 :: x3 :: x4 :: x5 :: x6 :: x7 :: x8 :: some (.int v) :: t).length from rfl]; exact ok) H locs la' hW hS h2 T hT X
  refine ⟨t9, ?_, b⟩
  jvm_step X.here [X.here.top, ↓top_set X.here.top, hx, hb, hd, hl9, e']
  first | exact a | exact ⟨rfl, a⟩

theorem v_istore_10 {x0 x1 x2 x3 x4 x5 x6 x7 x8 x9 x10 : Option Value} {t : List (Option Value)} {v : Int32} (hd : decode cc pc = .ok (.istore 10, 2)) (kk : V l g y cc rt tb L mc ms Po X M k n (pc + 2) (x0 :: x1 :: x2 :: x3 :: x4 :: x5 :: x6 :: x7 :: x8 :: x9 :: some (.int v) :: t) (rest)) : V l g y cc rt tb L mc ms Po X M k n (pc) (x0 :: x1 :: x2 :: x3 :: x4 :: x5 :: x6 :: x7 :: x8 :: x9 :: x10 :: t) (.int v :: rest) := by
  obtain ⟨p, e, s, m, args, below, meth, c, A⟩ := X
  intro ok H locs la hW hS hl
  have hx := ok.1
  have hb := ok.2.1
  obtain ⟨la', e', h'⟩ := hl.store (i := 10) (v := .int v) (by simp only [List.length_cons]; omega) rfl
  have h2 : lok la' (x0 :: x1 :: x2 :: x3 :: x4 :: x5 :: x6 :: x7 :: x8 :: x9 :: some (.int v) :: t) := h'
  intro T hT X
  obtain ⟨t9, a, b⟩ := kk (by rw [show (x0 :: x1 :: x2 :: x3 :: x4 :: x5 :: x6 :: x7 :: x8 :: x9 :: some (.int v) :: t).length = (x0 :: x1 :: x2 :: x3 :: x4 :: x5 :: x6 :: x7 :: x8 :: x9 :: x10 :: t).length from rfl]; exact ok) H locs la' hW hS h2 T hT X
  refine ⟨t9, ?_, b⟩
  jvm_step X.here [X.here.top, ↓top_set X.here.top, hx, hb, hd, e']
  first | exact a | exact ⟨rfl, a⟩

theorem v_astore_10 {x0 x1 x2 x3 x4 x5 x6 x7 x8 x9 x10 : Option Value} {t : List (Option Value)} {v : Nat} (hd : decode cc pc = .ok (.astore 10, 2)) (kk : V l g y cc rt tb L mc ms Po X M k n (pc + 2) (x0 :: x1 :: x2 :: x3 :: x4 :: x5 :: x6 :: x7 :: x8 :: x9 :: some (.ref v) :: t) (rest)) : V l g y cc rt tb L mc ms Po X M k n (pc) (x0 :: x1 :: x2 :: x3 :: x4 :: x5 :: x6 :: x7 :: x8 :: x9 :: x10 :: t) (.ref v :: rest) := by
  obtain ⟨p, e, s, m, args, below, meth, c, A⟩ := X
  intro ok H locs la hW hS hl
  have hx := ok.1
  have hb := ok.2.1
  obtain ⟨la', e', h'⟩ := hl.store (i := 10) (v := .ref v) (by simp only [List.length_cons]; omega) rfl
  have h2 : lok la' (x0 :: x1 :: x2 :: x3 :: x4 :: x5 :: x6 :: x7 :: x8 :: x9 :: some (.ref v) :: t) := h'
  intro T hT X
  obtain ⟨t9, a, b⟩ := kk (by rw [show (x0 :: x1 :: x2 :: x3 :: x4 :: x5 :: x6 :: x7 :: x8 :: x9 :: some (.ref v) :: t).length = (x0 :: x1 :: x2 :: x3 :: x4 :: x5 :: x6 :: x7 :: x8 :: x9 :: x10 :: t).length from rfl]; exact ok) H locs la' hW hS h2 T hT X
  refine ⟨t9, ?_, b⟩
  jvm_step X.here [X.here.top, ↓top_set X.here.top, hx, hb, hd, e']
  first | exact a | exact ⟨rfl, a⟩

theorem v_aNstore_10 {x0 x1 x2 x3 x4 x5 x6 x7 x8 x9 x10 : Option Value} {t : List (Option Value)}  (hd : decode cc pc = .ok (.astore 10, 2)) (kk : V l g y cc rt tb L mc ms Po X M k n (pc + 2) (x0 :: x1 :: x2 :: x3 :: x4 :: x5 :: x6 :: x7 :: x8 :: x9 :: some (.null) :: t) (rest)) : V l g y cc rt tb L mc ms Po X M k n (pc) (x0 :: x1 :: x2 :: x3 :: x4 :: x5 :: x6 :: x7 :: x8 :: x9 :: x10 :: t) (.null :: rest) := by
  obtain ⟨p, e, s, m, args, below, meth, c, A⟩ := X
  intro ok H locs la hW hS hl
  have hx := ok.1
  have hb := ok.2.1
  obtain ⟨la', e', h'⟩ := hl.store (i := 10) (v := .null) (by simp only [List.length_cons]; omega) rfl
  have h2 : lok la' (x0 :: x1 :: x2 :: x3 :: x4 :: x5 :: x6 :: x7 :: x8 :: x9 :: some (.null) :: t) := h'
  intro T hT X
  obtain ⟨t9, a, b⟩ := kk (by rw [show (x0 :: x1 :: x2 :: x3 :: x4 :: x5 :: x6 :: x7 :: x8 :: x9 :: some (.null) :: t).length = (x0 :: x1 :: x2 :: x3 :: x4 :: x5 :: x6 :: x7 :: x8 :: x9 :: x10 :: t).length from rfl]; exact ok) H locs la' hW hS h2 T hT X
  refine ⟨t9, ?_, b⟩
  jvm_step X.here [X.here.top, ↓top_set X.here.top, hx, hb, hd, e']
  first | exact a | exact ⟨rfl, a⟩

theorem v_fstore_10 {x0 x1 x2 x3 x4 x5 x6 x7 x8 x9 x10 : Option Value} {t : List (Option Value)} {v : UInt32} (hd : decode cc pc = .ok (.fstore 10, 2)) (kk : V l g y cc rt tb L mc ms Po X M k n (pc + 2) (x0 :: x1 :: x2 :: x3 :: x4 :: x5 :: x6 :: x7 :: x8 :: x9 :: some (.float v) :: t) (rest)) : V l g y cc rt tb L mc ms Po X M k n (pc) (x0 :: x1 :: x2 :: x3 :: x4 :: x5 :: x6 :: x7 :: x8 :: x9 :: x10 :: t) (.float v :: rest) := by
  obtain ⟨p, e, s, m, args, below, meth, c, A⟩ := X
  intro ok H locs la hW hS hl
  have hx := ok.1
  have hb := ok.2.1
  obtain ⟨la', e', h'⟩ := hl.store (i := 10) (v := .float v) (by simp only [List.length_cons]; omega) rfl
  have h2 : lok la' (x0 :: x1 :: x2 :: x3 :: x4 :: x5 :: x6 :: x7 :: x8 :: x9 :: some (.float v) :: t) := h'
  intro T hT X
  obtain ⟨t9, a, b⟩ := kk (by rw [show (x0 :: x1 :: x2 :: x3 :: x4 :: x5 :: x6 :: x7 :: x8 :: x9 :: some (.float v) :: t).length = (x0 :: x1 :: x2 :: x3 :: x4 :: x5 :: x6 :: x7 :: x8 :: x9 :: x10 :: t).length from rfl]; exact ok) H locs la' hW hS h2 T hT X
  refine ⟨t9, ?_, b⟩
  jvm_step X.here [X.here.top, ↓top_set X.here.top, hx, hb, hd, e']
  first | exact a | exact ⟨rfl, a⟩

theorem v_iinc_10 {x0 x1 x2 x3 x4 x5 x6 x7 x8 x9 : Option Value} {t : List (Option Value)} {v : Int32} {d : Int} (hd : decode cc pc = .ok (.iinc 10 d, 3)) {w : Int32} (hw : v + Int32.ofInt d = w) (kk : V l g y cc rt tb L mc ms Po X M k n (pc + 3) (x0 :: x1 :: x2 :: x3 :: x4 :: x5 :: x6 :: x7 :: x8 :: x9 :: some (.int w) :: t) (rest)) : V l g y cc rt tb L mc ms Po X M k n (pc) (x0 :: x1 :: x2 :: x3 :: x4 :: x5 :: x6 :: x7 :: x8 :: x9 :: some (.int v) :: t) (rest) := by
  obtain ⟨p, e, s, m, args, below, meth, c, A⟩ := X
  intro ok H locs la hW hS hl
  have hx := ok.1
  have hb := ok.2.1
  have hl9 := (hl.2.2 10 (.int v) rfl).1
  obtain ⟨la', e', h'⟩ := hl.store (i := 10) (v := .int w) (by simp only [List.length_cons]; omega) rfl
  have h2 : lok la' (x0 :: x1 :: x2 :: x3 :: x4 :: x5 :: x6 :: x7 :: x8 :: x9 :: some (.int w) :: t) := h'
  subst hw
  intro T hT X
  obtain ⟨t9, a, b⟩ := kk (by rw [show (x0 :: x1 :: x2 :: x3 :: x4 :: x5 :: x6 :: x7 :: x8 :: x9 :: some (.int (v + Int32.ofInt d)) :: t).length = (x0 :: x1 :: x2 :: x3 :: x4 :: x5 :: x6 :: x7 :: x8 :: x9 :: some (.int v) :: t).length from rfl]; exact ok) H locs la' hW hS h2 T hT X
  refine ⟨t9, ?_, b⟩
  jvm_step X.here [X.here.top, ↓top_set X.here.top, hx, hb, hd, hl9, e']
  first | exact a | exact ⟨rfl, a⟩

theorem v_istore_11 {x0 x1 x2 x3 x4 x5 x6 x7 x8 x9 x10 x11 : Option Value} {t : List (Option Value)} {v : Int32} (hd : decode cc pc = .ok (.istore 11, 2)) (kk : V l g y cc rt tb L mc ms Po X M k n (pc + 2) (x0 :: x1 :: x2 :: x3 :: x4 :: x5 :: x6 :: x7 :: x8 :: x9 :: x10 :: some (.int v) :: t) (rest)) : V l g y cc rt tb L mc ms Po X M k n (pc) (x0 :: x1 :: x2 :: x3 :: x4 :: x5 :: x6 :: x7 :: x8 :: x9 :: x10 :: x11 :: t) (.int v :: rest) := by
  obtain ⟨p, e, s, m, args, below, meth, c, A⟩ := X
  intro ok H locs la hW hS hl
  have hx := ok.1
  have hb := ok.2.1
  obtain ⟨la', e', h'⟩ := hl.store (i := 11) (v := .int v) (by simp only [List.length_cons]; omega) rfl
  have h2 : lok la' (x0 :: x1 :: x2 :: x3 :: x4 :: x5 :: x6 :: x7 :: x8 :: x9 :: x10 :: some (.int v) :: t) := h'
  intro T hT X
  obtain ⟨t9, a, b⟩ := kk (by rw [show (x0 :: x1 :: x2 :: x3 :: x4 :: x5 :: x6 :: x7 :: x8 :: x9 :: x10 :: some (.int v) :: t).length = (x0 :: x1 :: x2 :: x3 :: x4 :: x5 :: x6 :: x7 :: x8 :: x9 :: x10 :: x11 :: t).length from rfl]; exact ok) H locs la' hW hS h2 T hT X
  refine ⟨t9, ?_, b⟩
  jvm_step X.here [X.here.top, ↓top_set X.here.top, hx, hb, hd, e']
  first | exact a | exact ⟨rfl, a⟩

theorem v_astore_11 {x0 x1 x2 x3 x4 x5 x6 x7 x8 x9 x10 x11 : Option Value} {t : List (Option Value)} {v : Nat} (hd : decode cc pc = .ok (.astore 11, 2)) (kk : V l g y cc rt tb L mc ms Po X M k n (pc + 2) (x0 :: x1 :: x2 :: x3 :: x4 :: x5 :: x6 :: x7 :: x8 :: x9 :: x10 :: some (.ref v) :: t) (rest)) : V l g y cc rt tb L mc ms Po X M k n (pc) (x0 :: x1 :: x2 :: x3 :: x4 :: x5 :: x6 :: x7 :: x8 :: x9 :: x10 :: x11 :: t) (.ref v :: rest) := by
  obtain ⟨p, e, s, m, args, below, meth, c, A⟩ := X
  intro ok H locs la hW hS hl
  have hx := ok.1
  have hb := ok.2.1
  obtain ⟨la', e', h'⟩ := hl.store (i := 11) (v := .ref v) (by simp only [List.length_cons]; omega) rfl
  have h2 : lok la' (x0 :: x1 :: x2 :: x3 :: x4 :: x5 :: x6 :: x7 :: x8 :: x9 :: x10 :: some (.ref v) :: t) := h'
  intro T hT X
  obtain ⟨t9, a, b⟩ := kk (by rw [show (x0 :: x1 :: x2 :: x3 :: x4 :: x5 :: x6 :: x7 :: x8 :: x9 :: x10 :: some (.ref v) :: t).length = (x0 :: x1 :: x2 :: x3 :: x4 :: x5 :: x6 :: x7 :: x8 :: x9 :: x10 :: x11 :: t).length from rfl]; exact ok) H locs la' hW hS h2 T hT X
  refine ⟨t9, ?_, b⟩
  jvm_step X.here [X.here.top, ↓top_set X.here.top, hx, hb, hd, e']
  first | exact a | exact ⟨rfl, a⟩

theorem v_aNstore_11 {x0 x1 x2 x3 x4 x5 x6 x7 x8 x9 x10 x11 : Option Value} {t : List (Option Value)}  (hd : decode cc pc = .ok (.astore 11, 2)) (kk : V l g y cc rt tb L mc ms Po X M k n (pc + 2) (x0 :: x1 :: x2 :: x3 :: x4 :: x5 :: x6 :: x7 :: x8 :: x9 :: x10 :: some (.null) :: t) (rest)) : V l g y cc rt tb L mc ms Po X M k n (pc) (x0 :: x1 :: x2 :: x3 :: x4 :: x5 :: x6 :: x7 :: x8 :: x9 :: x10 :: x11 :: t) (.null :: rest) := by
  obtain ⟨p, e, s, m, args, below, meth, c, A⟩ := X
  intro ok H locs la hW hS hl
  have hx := ok.1
  have hb := ok.2.1
  obtain ⟨la', e', h'⟩ := hl.store (i := 11) (v := .null) (by simp only [List.length_cons]; omega) rfl
  have h2 : lok la' (x0 :: x1 :: x2 :: x3 :: x4 :: x5 :: x6 :: x7 :: x8 :: x9 :: x10 :: some (.null) :: t) := h'
  intro T hT X
  obtain ⟨t9, a, b⟩ := kk (by rw [show (x0 :: x1 :: x2 :: x3 :: x4 :: x5 :: x6 :: x7 :: x8 :: x9 :: x10 :: some (.null) :: t).length = (x0 :: x1 :: x2 :: x3 :: x4 :: x5 :: x6 :: x7 :: x8 :: x9 :: x10 :: x11 :: t).length from rfl]; exact ok) H locs la' hW hS h2 T hT X
  refine ⟨t9, ?_, b⟩
  jvm_step X.here [X.here.top, ↓top_set X.here.top, hx, hb, hd, e']
  first | exact a | exact ⟨rfl, a⟩

theorem v_fstore_11 {x0 x1 x2 x3 x4 x5 x6 x7 x8 x9 x10 x11 : Option Value} {t : List (Option Value)} {v : UInt32} (hd : decode cc pc = .ok (.fstore 11, 2)) (kk : V l g y cc rt tb L mc ms Po X M k n (pc + 2) (x0 :: x1 :: x2 :: x3 :: x4 :: x5 :: x6 :: x7 :: x8 :: x9 :: x10 :: some (.float v) :: t) (rest)) : V l g y cc rt tb L mc ms Po X M k n (pc) (x0 :: x1 :: x2 :: x3 :: x4 :: x5 :: x6 :: x7 :: x8 :: x9 :: x10 :: x11 :: t) (.float v :: rest) := by
  obtain ⟨p, e, s, m, args, below, meth, c, A⟩ := X
  intro ok H locs la hW hS hl
  have hx := ok.1
  have hb := ok.2.1
  obtain ⟨la', e', h'⟩ := hl.store (i := 11) (v := .float v) (by simp only [List.length_cons]; omega) rfl
  have h2 : lok la' (x0 :: x1 :: x2 :: x3 :: x4 :: x5 :: x6 :: x7 :: x8 :: x9 :: x10 :: some (.float v) :: t) := h'
  intro T hT X
  obtain ⟨t9, a, b⟩ := kk (by rw [show (x0 :: x1 :: x2 :: x3 :: x4 :: x5 :: x6 :: x7 :: x8 :: x9 :: x10 :: some (.float v) :: t).length = (x0 :: x1 :: x2 :: x3 :: x4 :: x5 :: x6 :: x7 :: x8 :: x9 :: x10 :: x11 :: t).length from rfl]; exact ok) H locs la' hW hS h2 T hT X
  refine ⟨t9, ?_, b⟩
  jvm_step X.here [X.here.top, ↓top_set X.here.top, hx, hb, hd, e']
  first | exact a | exact ⟨rfl, a⟩

theorem v_iinc_11 {x0 x1 x2 x3 x4 x5 x6 x7 x8 x9 x10 : Option Value} {t : List (Option Value)} {v : Int32} {d : Int} (hd : decode cc pc = .ok (.iinc 11 d, 3)) {w : Int32} (hw : v + Int32.ofInt d = w) (kk : V l g y cc rt tb L mc ms Po X M k n (pc + 3) (x0 :: x1 :: x2 :: x3 :: x4 :: x5 :: x6 :: x7 :: x8 :: x9 :: x10 :: some (.int w) :: t) (rest)) : V l g y cc rt tb L mc ms Po X M k n (pc) (x0 :: x1 :: x2 :: x3 :: x4 :: x5 :: x6 :: x7 :: x8 :: x9 :: x10 :: some (.int v) :: t) (rest) := by
  obtain ⟨p, e, s, m, args, below, meth, c, A⟩ := X
  intro ok H locs la hW hS hl
  have hx := ok.1
  have hb := ok.2.1
  have hl9 := (hl.2.2 11 (.int v) rfl).1
  obtain ⟨la', e', h'⟩ := hl.store (i := 11) (v := .int w) (by simp only [List.length_cons]; omega) rfl
  have h2 : lok la' (x0 :: x1 :: x2 :: x3 :: x4 :: x5 :: x6 :: x7 :: x8 :: x9 :: x10 :: some (.int w) :: t) := h'
  subst hw
  intro T hT X
  obtain ⟨t9, a, b⟩ := kk (by rw [show (x0 :: x1 :: x2 :: x3 :: x4 :: x5 :: x6 :: x7 :: x8 :: x9 :: x10 :: some (.int (v + Int32.ofInt d)) :: t).length = (x0 :: x1 :: x2 :: x3 :: x4 :: x5 :: x6 :: x7 :: x8 :: x9 :: x10 :: some (.int v) :: t).length from rfl]; exact ok) H locs la' hW hS h2 T hT X
  refine ⟨t9, ?_, b⟩
  jvm_step X.here [X.here.top, ↓top_set X.here.top, hx, hb, hd, hl9, e']
  first | exact a | exact ⟨rfl, a⟩

theorem v_istore_12 {x0 x1 x2 x3 x4 x5 x6 x7 x8 x9 x10 x11 x12 : Option Value} {t : List (Option Value)} {v : Int32} (hd : decode cc pc = .ok (.istore 12, 2)) (kk : V l g y cc rt tb L mc ms Po X M k n (pc + 2) (x0 :: x1 :: x2 :: x3 :: x4 :: x5 :: x6 :: x7 :: x8 :: x9 :: x10 :: x11 :: some (.int v) :: t) (rest)) : V l g y cc rt tb L mc ms Po X M k n (pc) (x0 :: x1 :: x2 :: x3 :: x4 :: x5 :: x6 :: x7 :: x8 :: x9 :: x10 :: x11 :: x12 :: t) (.int v :: rest) := by
  obtain ⟨p, e, s, m, args, below, meth, c, A⟩ := X
  intro ok H locs la hW hS hl
  have hx := ok.1
  have hb := ok.2.1
  obtain ⟨la', e', h'⟩ := hl.store (i := 12) (v := .int v) (by simp only [List.length_cons]; omega) rfl
  have h2 : lok la' (x0 :: x1 :: x2 :: x3 :: x4 :: x5 :: x6 :: x7 :: x8 :: x9 :: x10 :: x11 :: some (.int v) :: t) := h'
  intro T hT X
  obtain ⟨t9, a, b⟩ := kk (by rw [show (x0 :: x1 :: x2 :: x3 :: x4 :: x5 :: x6 :: x7 :: x8 :: x9 :: x10 :: x11 :: some (.int v) :: t).length = (x0 :: x1 :: x2 :: x3 :: x4 :: x5 :: x6 :: x7 :: x8 :: x9 :: x10 :: x11 :: x12 :: t).length from rfl]; exact ok) H locs la' hW hS h2 T hT X
  refine ⟨t9, ?_, b⟩
  jvm_step X.here [X.here.top, ↓top_set X.here.top, hx, hb, hd, e']
  first | exact a | exact ⟨rfl, a⟩

theorem v_astore_12 {x0 x1 x2 x3 x4 x5 x6 x7 x8 x9 x10 x11 x12 : Option Value} {t : List (Option Value)} {v : Nat} (hd : decode cc pc = .ok (.astore 12, 2)) (kk : V l g y cc rt tb L mc ms Po X M k n (pc + 2) (x0 :: x1 :: x2 :: x3 :: x4 :: x5 :: x6 :: x7 :: x8 :: x9 :: x10 :: x11 :: some (.ref v) :: t) (rest)) : V l g y cc rt tb L mc ms Po X M k n (pc) (x0 :: x1 :: x2 :: x3 :: x4 :: x5 :: x6 :: x7 :: x8 :: x9 :: x10 :: x11 :: x12 :: t) (.ref v :: rest) := by
  obtain ⟨p, e, s, m, args, below, meth, c, A⟩ := X
  intro ok H locs la hW hS hl
  have hx := ok.1
  have hb := ok.2.1
  obtain ⟨la', e', h'⟩ := hl.store (i := 12) (v := .ref v) (by simp only [List.length_cons]; omega) rfl
  have h2 : lok la' (x0 :: x1 :: x2 :: x3 :: x4 :: x5 :: x6 :: x7 :: x8 :: x9 :: x10 :: x11 :: some (.ref v) :: t) := h'
  intro T hT X
  obtain ⟨t9, a, b⟩ := kk (by rw [show (x0 :: x1 :: x2 :: x3 :: x4 :: x5 :: x6 :: x7 :: x8 :: x9 :: x10 :: x11 :: some (.ref v) :: t).length = (x0 :: x1 :: x2 :: x3 :: x4 :: x5 :: x6 :: x7 :: x8 :: x9 :: x10 :: x11 :: x12 :: t).length from rfl]; exact ok) H locs la' hW hS h2 T hT X
  refine ⟨t9, ?_, b⟩
  jvm_step X.here [X.here.top, ↓top_set X.here.top, hx, hb, hd, e']
  first | exact a | exact ⟨rfl, a⟩

theorem v_aNstore_12 {x0 x1 x2 x3 x4 x5 x6 x7 x8 x9 x10 x11 x12 : Option Value} {t : List (Option Value)}  (hd : decode cc pc = .ok (.astore 12, 2)) (kk : V l g y cc rt tb L mc ms Po X M k n (pc + 2) (x0 :: x1 :: x2 :: x3 :: x4 :: x5 :: x6 :: x7 :: x8 :: x9 :: x10 :: x11 :: some (.null) :: t) (rest)) : V l g y cc rt tb L mc ms Po X M k n (pc) (x0 :: x1 :: x2 :: x3 :: x4 :: x5 :: x6 :: x7 :: x8 :: x9 :: x10 :: x11 :: x12 :: t) (.null :: rest) := by
  obtain ⟨p, e, s, m, args, below, meth, c, A⟩ := X
  intro ok H locs la hW hS hl
  have hx := ok.1
  have hb := ok.2.1
  obtain ⟨la', e', h'⟩ := hl.store (i := 12) (v := .null) (by simp only [List.length_cons]; omega) rfl
  have h2 : lok la' (x0 :: x1 :: x2 :: x3 :: x4 :: x5 :: x6 :: x7 :: x8 :: x9 :: x10 :: x11 :: some (.null) :: t) := h'
  intro T hT X
  obtain ⟨t9, a, b⟩ := kk (by rw [show (x0 :: x1 :: x2 :: x3 :: x4 :: x5 :: x6 :: x7 :: x8 :: x9 :: x10 :: x11 :: some (.null) :: t).length = (x0 :: x1 :: x2 :: x3 :: x4 :: x5 :: x6 :: x7 :: x8 :: x9 :: x10 :: x11 :: x12 :: t).length from rfl]; exact ok) H locs la' hW hS h2 T hT X
  refine ⟨t9, ?_, b⟩
  jvm_step X.here [X.here.top, ↓top_set X.here.top, hx, hb, hd, e']
  first | exact a | exact ⟨rfl, a⟩

theorem v_fstore_12 {x0 x1 x2 x3 x4 x5 x6 x7 x8 x9 x10 x11 x12 : Option Value} {t : List (Option Value)} {v : UInt32} (hd : decode cc pc = .ok (.fstore 12, 2)) (kk : V l g y cc rt tb L mc ms Po X M k n (pc + 2) (x0 :: x1 :: x2 :: x3 :: x4 :: x5 :: x6 :: x7 :: x8 :: x9 :: x10 :: x11 :: some (.float v) :: t) (rest)) : V l g y cc rt tb L mc ms Po X M k n (pc) (x0 :: x1 :: x2 :: x3 :: x4 :: x5 :: x6 :: x7 :: x8 :: x9 :: x10 :: x11 :: x12 :: t) (.float v :: rest) := by
  obtain ⟨p, e, s, m, args, below, meth, c, A⟩ := X
  intro ok H locs la hW hS hl
  have hx := ok.1
  have hb := ok.2.1
  obtain ⟨la', e', h'⟩ := hl.store (i := 12) (v := .float v) (by simp only [List.length_cons]; omega) rfl
  have h2 : lok la' (x0 :: x1 :: x2 :: x3 :: x4 :: x5 :: x6 :: x7 :: x8 :: x9 :: x10 :: x11 :: some (.float v) :: t) := h'
  intro T hT X
  obtain ⟨t9, a, b⟩ := kk (by rw [show (x0 :: x1 :: x2 :: x3 :: x4 :: x5 :: x6 :: x7 :: x8 :: x9 :: x10 :: x11 :: some (.float v) :: t).length = (x0 :: x1 :: x2 :: x3 :: x4 :: x5 :: x6 :: x7 :: x8 :: x9 :: x10 :: x11 :: x12 :: t).length from rfl]; exact ok) H locs la' hW hS h2 T hT X
  refine ⟨t9, ?_, b⟩
  jvm_step X.here [X.here.top, ↓top_set X.here.top, hx, hb, hd, e']
  first | exact a | exact ⟨rfl, a⟩

theorem v_iinc_12 {x0 x1 x2 x3 x4 x5 x6 x7 x8 x9 x10 x11 : Option Value} {t : List (Option Value)} {v : Int32} {d : Int} (hd : decode cc pc = .ok (.iinc 12 d, 3)) {w : Int32} (hw : v + Int32.ofInt d = w) (kk : V l g y cc rt tb L mc ms Po X M k n (pc + 3) (x0 :: x1 :: x2 :: x3 :: x4 :: x5 :: x6 :: x7 :: x8 :: x9 :: x10 :: x11 :: some (.int w) :: t) (rest)) : V l g y cc rt tb L mc ms Po X M k n (pc) (x0 :: x1 :: x2 :: x3 :: x4 :: x5 :: x6 :: x7 :: x8 :: x9 :: x10 :: x11 :: some (.int v) :: t) (rest) := by
  obtain ⟨p, e, s, m, args, below, meth, c, A⟩ := X
  intro ok H locs la hW hS hl
  have hx := ok.1
  have hb := ok.2.1
  have hl9 := (hl.2.2 12 (.int v) rfl).1
  obtain ⟨la', e', h'⟩ := hl.store (i := 12) (v := .int w) (by simp only [List.length_cons]; omega) rfl
  have h2 : lok la' (x0 :: x1 :: x2 :: x3 :: x4 :: x5 :: x6 :: x7 :: x8 :: x9 :: x10 :: x11 :: some (.int w) :: t) := h'
  subst hw
  intro T hT X
  obtain ⟨t9, a, b⟩ := kk (by rw [show (x0 :: x1 :: x2 :: x3 :: x4 :: x5 :: x6 :: x7 :: x8 :: x9 :: x10 :: x11 :: some (.int (v + Int32.ofInt d)) :: t).length = (x0 :: x1 :: x2 :: x3 :: x4 :: x5 :: x6 :: x7 :: x8 :: x9 :: x10 :: x11 :: some (.int v) :: t).length from rfl]; exact ok) H locs la' hW hS h2 T hT X
  refine ⟨t9, ?_, b⟩
  jvm_step X.here [X.here.top, ↓top_set X.here.top, hx, hb, hd, hl9, e']
  first | exact a | exact ⟨rfl, a⟩

theorem v_istore_13 {x0 x1 x2 x3 x4 x5 x6 x7 x8 x9 x10 x11 x12 x13 : Option Value} {t : List (Option Value)} {v : Int32} (hd : decode cc pc = .ok (.istore 13, 2)) (kk : V l g y cc rt tb L mc ms Po X M k n (pc + 2) (x0 :: x1 :: x2 :: x3 :: x4 :: x5 :: x6 :: x7 :: x8 :: x9 :: x10 :: x11 :: x12 :: some (.int v) :: t) (rest)) : V l g y cc rt tb L mc ms Po X M k n (pc) (x0 :: x1 :: x2 :: x3 :: x4 :: x5 :: x6 :: x7 :: x8 :: x9 :: x10 :: x11 :: x12 :: x13 :: t) (.int v :: rest) := by
  obtain ⟨p, e, s, m, args, below, meth, c, A⟩ := X
  intro ok H locs la hW hS hl
  have hx := ok.1
  have hb := ok.2.1
  obtain ⟨la', e', h'⟩ := hl.store (i := 13) (v := .int v) (by simp only [List.length_cons]; omega) rfl
  have h2 : lok la' (x0 :: x1 :: x2 :: x3 :: x4 :: x5 :: x6 :: x7 :: x8 :: x9 :: x10 :: x11 :: x12 :: some (.int v) :: t) := h'
  intro T hT X
  obtain ⟨t9, a, b⟩ := kk (by rw [show (x0 :: x1 :: x2 :: x3 :: x4 :: x5 :: x6 :: x7 :: x8 :: x9 :: x10 :: x11 :: x12 :: some (.int v) :: t).length = (x0 :: x1 :: x2 :: x3 :: x4 :: x5 :: x6 :: x7 :: x8 :: x9 :: x10 :: x11 :: x12 :: x13 :: t).length from rfl]; exact ok) H locs la' hW hS h2 T hT X
  refine ⟨t9, ?_, b⟩
  jvm_step X.here [X.here.top, ↓top_set X.here.top, hx, hb, hd, e']
  first | exact a | exact ⟨rfl, a⟩

theorem v_astore_13 {x0 x1 x2 x3 x4 x5 x6 x7 x8 x9 x10 x11 x12 x13 : Option Value} {t : List (Option Value)} {v : Nat} (hd : decode cc pc = .ok (.astore 13, 2)) (kk : V l g y cc rt tb L mc ms Po X M k n (pc + 2) (x0 :: x1 :: x2 :: x3 :: x4 :: x5 :: x6 :: x7 :: x8 :: x9 :: x10 :: x11 :: x12 :: some (.ref v) :: t) (rest)) : V l g y cc rt tb L mc ms Po X M k n (pc) (x0 :: x1 :: x2 :: x3 :: x4 :: x5 :: x6 :: x7 :: x8 :: x9 :: x10 :: x11 :: x12 :: x13 :: t) (.ref v :: rest) := by
  obtain ⟨p, e, s, m, args, below, meth, c, A⟩ := X
  intro ok H locs la hW hS hl
  have hx := ok.1
  have hb := ok.2.1
  obtain ⟨la', e', h'⟩ := hl.store (i := 13) (v := .ref v) (by simp only [List.length_cons]; omega) rfl
  have h2 : lok la' (x0 :: x1 :: x2 :: x3 :: x4 :: x5 :: x6 :: x7 :: x8 :: x9 :: x10 :: x11 :: x12 :: some (.ref v) :: t) := h'
  intro T hT X
  obtain ⟨t9, a, b⟩ := kk (by rw [show (x0 :: x1 :: x2 :: x3 :: x4 :: x5 :: x6 :: x7 :: x8 :: x9 :: x10 :: x11 :: x12 :: some (.ref v) :: t).length = (x0 :: x1 :: x2 :: x3 :: x4 :: x5 :: x6 :: x7 :: x8 :: x9 :: x10 :: x11 :: x12 :: x13 :: t).length from rfl]; exact ok) H locs la' hW hS h2 T hT X
  refine ⟨t9, ?_, b⟩
  jvm_step X.here [X.here.top, ↓top_set X.here.top, hx, hb, hd, e']
  first | exact a | exact ⟨rfl, a⟩

theorem v_aNstore_13 {x0 x1 x2 x3 x4 x5 x6 x7 x8 x9 x10 x11 x12 x13 : Option Value} {t : List (Option Value)}  (hd : decode cc pc = .ok (.astore 13, 2)) (kk : V l g y cc rt tb L mc ms Po X M k n (pc + 2) (x0 :: x1 :: x2 :: x3 :: x4 :: x5 :: x6 :: x7 :: x8 :: x9 :: x10 :: x11 :: x12 :: some (.null) :: t) (rest)) : V l g y cc rt tb L mc ms Po X M k n (pc) (x0 :: x1 :: x2 :: x3 :: x4 :: x5 :: x6 :: x7 :: x8 :: x9 :: x10 :: x11 :: x12 :: x13 :: t) (.null :: rest) := by
  obtain ⟨p, e, s, m, args, below, meth, c, A⟩ := X
  intro ok H locs la hW hS hl
  have hx := ok.1
  have hb := ok.2.1
  obtain ⟨la', e', h'⟩ := hl.store (i := 13) (v := .null) (by simp only [List.length_cons]; omega) rfl
  have h2 : lok la' (x0 :: x1 :: x2 :: x3 :: x4 :: x5 :: x6 :: x7 :: x8 :: x9 :: x10 :: x11 :: x12 :: some (.null) :: t) := h'
  intro T hT X
  obtain ⟨t9, a, b⟩ := kk (by rw [show (x0 :: x1 :: x2 :: x3 :: x4 :: x5 :: x6 :: x7 :: x8 :: x9 :: x10 :: x11 :: x12 :: some (.null) :: t).length = (x0 :: x1 :: x2 :: x3 :: x4 :: x5 :: x6 :: x7 :: x8 :: x9 :: x10 :: x11 :: x12 :: x13 :: t).length from rfl]; exact ok) H locs la' hW hS h2 T hT X
  refine ⟨t9, ?_, b⟩
  jvm_step X.here [X.here.top, ↓top_set X.here.top, hx, hb, hd, e']
  first | exact a | exact ⟨rfl, a⟩

theorem v_fstore_13 {x0 x1 x2 x3 x4 x5 x6 x7 x8 x9 x10 x11 x12 x13 : Option Value} {t : List (Option Value)} {v : UInt32} (hd : decode cc pc = .ok (.fstore 13, 2)) (kk : V l g y cc rt tb L mc ms Po X M k n (pc + 2) (x0 :: x1 :: x2 :: x3 :: x4 :: x5 :: x6 :: x7 :: x8 :: x9 :: x10 :: x11 :: x12 :: some (.float v) :: t) (rest)) : V l g y cc rt tb L mc ms Po X M k n (pc) (x0 :: x1 :: x2 :: x3 :: x4 :: x5 :: x6 :: x7 :: x8 :: x9 :: x10 :: x11 :: x12 :: x13 :: t) (.float v :: rest) := by
  obtain ⟨p, e, s, m, args, below, meth, c, A⟩ := X
  intro ok H locs la hW hS hl
  have hx := ok.1
  have hb := ok.2.1
  obtain ⟨la', e', h'⟩ := hl.store (i := 13) (v := .float v) (by simp only [List.length_cons]; omega) rfl
  have h2 : lok la' (x0 :: x1 :: x2 :: x3 :: x4 :: x5 :: x6 :: x7 :: x8 :: x9 :: x10 :: x11 :: x12 :: some (.float v) :: t) := h'
  intro T hT X
  obtain ⟨t9, a, b⟩ := kk (by rw [show (x0 :: x1 :: x2 :: x3 :: x4 :: x5 :: x6 :: x7 :: x8 :: x9 :: x10 :: x11 :: x12 :: some (.float v) :: t).length = (x0 :: x1 :: x2 :: x3 :: x4 :: x5 :: x6 :: x7 :: x8 :: x9 :: x10 :: x11 :: x12 :: x13 :: t).length from rfl]; exact ok) H locs la' hW hS h2 T hT X
  refine ⟨t9, ?_, b⟩
  jvm_step X.here [X.here.top, ↓top_set X.here.top, hx, hb, hd, e']
  first | exact a | exact ⟨rfl, a⟩

theorem v_iinc_13 {x0 x1 x2 x3 x4 x5 x6 x7 x8 x9 x10 x11 x12 : Option Value} {t : List (Option Value)} {v : Int32} {d : Int} (hd : decode cc pc = .ok (.iinc 13 d, 3)) {w : Int32} (hw : v + Int32.ofInt d = w) (kk : V l g y cc rt tb L mc ms Po X M k n (pc + 3) (x0 :: x1 :: x2 :: x3 :: x4 :: x5 :: x6 :: x7 :: x8 :: x9 :: x10 :: x11 :: x12 :: some (.int w) :: t) (rest)) : V l g y cc rt tb L mc ms Po X M k n (pc) (x0 :: x1 :: x2 :: x3 :: x4 :: x5 :: x6 :: x7 :: x8 :: x9 :: x10 :: x11 :: x12 :: some (.int v) :: t) (rest) := by
  obtain ⟨p, e, s, m, args, below, meth, c, A⟩ := X
  intro ok H locs la hW hS hl
  have hx := ok.1
  have hb := ok.2.1
  have hl9 := (hl.2.2 13 (.int v) rfl).1
  obtain ⟨la', e', h'⟩ := hl.store (i := 13) (v := .int w) (by simp only [List.length_cons]; omega) rfl
  have h2 : lok la' (x0 :: x1 :: x2 :: x3 :: x4 :: x5 :: x6 :: x7 :: x8 :: x9 :: x10 :: x11 :: x12 :: some (.int w) :: t) := h'
  subst hw
  intro T hT X
  obtain ⟨t9, a, b⟩ := kk (by rw [show (x0 :: x1 :: x2 :: x3 :: x4 :: x5 :: x6 :: x7 :: x8 :: x9 :: x10 :: x11 :: x12 :: some (.int (v + Int32.ofInt d)) :: t).length = (x0 :: x1 :: x2 :: x3 :: x4 :: x5 :: x6 :: x7 :: x8 :: x9 :: x10 :: x11 :: x12 :: some (.int v) :: t).length from rfl]; exact ok) H locs la' hW hS h2 T hT X
  refine ⟨t9, ?_, b⟩
  jvm_step X.here [X.here.top, ↓top_set X.here.top, hx, hb, hd, hl9, e']
  first | exact a | exact ⟨rfl, a⟩

theorem v_istore_14 {x0 x1 x2 x3 x4 x5 x6 x7 x8 x9 x10 x11 x12 x13 x14 : Option Value} {t : List (Option Value)} {v : Int32} (hd : decode cc pc = .ok (.istore 14, 2)) (kk : V l g y cc rt tb L mc ms Po X M k n (pc + 2) (x0 :: x1 :: x2 :: x3 :: x4 :: x5 :: x6 :: x7 :: x8 :: x9 :: x10 :: x11 :: x12 :: x13 :: some (.int v) :: t) (rest)) : V l g y cc rt tb L mc ms Po X M k n (pc) (x0 :: x1 :: x2 :: x3 :: x4 :: x5 :: x6 :: x7 :: x8 :: x9 :: x10 :: x11 :: x12 :: x13 :: x14 :: t) (.int v :: rest) := by
  obtain ⟨p, e, s, m, args, below, meth, c, A⟩ := X
  intro ok H locs la hW hS hl
  have hx := ok.1
  have hb := ok.2.1
  obtain ⟨la', e', h'⟩ := hl.store (i := 14) (v := .int v) (by simp only [List.length_cons]; omega) rfl
  have h2 : lok la' (x0 :: x1 :: x2 :: x3 :: x4 :: x5 :: x6 :: x7 :: x8 :: x9 :: x10 :: x11 :: x12 :: x13 :: some (.int v) :: t) := h'
  intro T hT X
  obtain ⟨t9, a, b⟩ := kk (by rw [show (x0 :: x1 :: x2 :: x3 :: x4 :: x5 :: x6 :: x7 :: x8 :: x9 :: x10 :: x11 :: x12 :: x13 :: some (.int v) :: t).length = (x0 :: x1 :: x2 :: x3 :: x4 :: x5 :: x6 :: x7 :: x8 :: x9 :: x10 :: x11 :: x12 :: x13 :: x14 :: t).length from rfl]; exact ok) H locs la' hW hS h2 T hT X
  refine ⟨t9, ?_, b⟩
  jvm_step X.here [X.here.top, ↓top_set X.here.top, hx, hb, hd, e']
  first | exact a | exact ⟨rfl, a⟩

theorem v_astore_14 {x0 x1 x2 x3 x4 x5 x6 x7 x8 x9 x10 x11 x12 x13 x14 : Option Value} {t : List (Option Value)} {v : Nat} (hd : decode cc pc = .ok (.astore 14, 2)) (kk : V l g y cc rt tb L mc ms Po X M k n (pc + 2) (x0 :: x1 :: x2 :: x3 :: x4 :: x5 :: x6 :: x7 :: x8 :: x9 :: x10 :: x11 :: x12 :: x13 :: some (.ref v) :: t) (rest)) : V l g y cc rt tb L mc ms Po X M k n (pc) (x0 :: x1 :: x2 :: x3 :: x4 :: x5 :: x6 :: x7 :: x8 :: x9 :: x10 :: x11 :: x12 :: x13 :: x14 :: t) (.ref v :: rest) := by
  obtain ⟨p, e, s, m, args, below, meth, c, A⟩ := X
  intro ok H locs la hW hS hl
  have hx := ok.1
  have hb := ok.2.1
  obtain ⟨la', e', h'⟩ := hl.store (i := 14) (v := .ref v) (by simp only [List.length_cons]; omega) rfl
  have h2 : lok la' (x0 :: x1 :: x2 :: x3 :: x4 :: x5 :: x6 :: x7 :: x8 :: x9 :: x10 :: x11 :: x12 :: x13 :: some (.ref v) :: t) := h'
  intro T hT X
  obtain ⟨t9, a, b⟩ := kk (by rw [show (x0 :: x1 :: x2 :: x3 :: x4 :: x5 :: x6 :: x7 :: x8 :: x9 :: x10 :: x11 :: x12 :: x13 :: some (.ref v) :: t).length = (x0 :: x1 :: x2 :: x3 :: x4 :: x5 :: x6 :: x7 :: x8 :: x9 :: x10 :: x11 :: x12 :: x13 :: x14 :: t).length from rfl]; exact ok) H locs la' hW hS h2 T hT X
  refine ⟨t9, ?_, b⟩
  jvm_step X.here [X.here.top, ↓top_set X.here.top, hx, hb, hd, e']
  first | exact a | exact ⟨rfl, a⟩

theorem v_aNstore_14 {x0 x1 x2 x3 x4 x5 x6 x7 x8 x9 x10 x11 x12 x13 x14 : Option Value} {t : List (Option Value)}  (hd : decode cc pc = .ok (.astore 14, 2)) (kk : V l g y cc rt tb L mc ms Po X M k n (pc + 2) (x0 :: x1 :: x2 :: x3 :: x4 :: x5 :: x6 :: x7 :: x8 :: x9 :: x10 :: x11 :: x12 :: x13 :: some (.null) :: t) (rest)) : V l g y cc rt tb L mc ms Po X M k n (pc) (x0 :: x1 :: x2 :: x3 :: x4 :: x5 :: x6 :: x7 :: x8 :: x9 :: x10 :: x11 :: x12 :: x13 :: x14 :: t) (.null :: rest) := by
  obtain ⟨p, e, s, m, args, below, meth, c, A⟩ := X
  intro ok H locs la hW hS hl
  have hx := ok.1
  have hb := ok.2.1
  obtain ⟨la', e', h'⟩ := hl.store (i := 14) (v := .null) (by simp only [List.length_cons]; omega) rfl
  have h2 : lok la' (x0 :: x1 :: x2 :: x3 :: x4 :: x5 :: x6 :: x7 :: x8 :: x9 :: x10 :: x11 :: x12 :: x13 :: some (.null) :: t) := h'
  intro T hT X
  obtain ⟨t9, a, b⟩ := kk (by rw [show (x0 :: x1 :: x2 :: x3 :: x4 :: x5 :: x6 :: x7 :: x8 :: x9 :: x10 :: x11 :: x12 :: x13 :: some (.null) :: t).length = (x0 :: x1 :: x2 :: x3 :: x4 :: x5 :: x6 :: x7 :: x8 :: x9 :: x10 :: x11 :: x12 :: x13 :: x14 :: t).length from rfl]; exact ok) H locs la' hW hS h2 T hT X
  refine ⟨t9, ?_, b⟩
  jvm_step X.here [X.here.top, ↓top_set X.here.top, hx, hb, hd, e']
  first | exact a | exact ⟨rfl, a⟩

theorem v_fstore_14 {x0 x1 x2 x3 x4 x5 x6 x7 x8 x9 x10 x11 x12 x13 x14 : Option Value} {t : List (Option Value)} {v : UInt32} (hd : decode cc pc = .ok (.fstore 14, 2)) (kk : V l g y cc rt tb L mc ms Po X M k n (pc + 2) (x0 :: x1 :: x2 :: x3 :: x4 :: x5 :: x6 :: x7 :: x8 :: x9 :: x10 :: x11 :: x12 :: x13 :: some (.float v) :: t) (rest)) : V l g y cc rt tb L mc ms Po X M k n (pc) (x0 :: x1 :: x2 :: x3 :: x4 :: x5 :: x6 :: x7 :: x8 :: x9 :: x10 :: x11 :: x12 :: x13 :: x14 :: t) (.float v :: rest) := by
  obtain ⟨p, e, s, m, args, below, meth, c, A⟩ := X
  intro ok H locs la hW hS hl
  have hx := ok.1
  have hb := ok.2.1
  obtain ⟨la', e', h'⟩ := hl.store (i := 14) (v := .float v) (by simp only [List.length_cons]; omega) rfl
  have h2 : lok la' (x0 :: x1 :: x2 :: x3 :: x4 :: x5 :: x6 :: x7 :: x8 :: x9 :: x10 :: x11 :: x12 :: x13 :: some (.float v) :: t) := h'
  intro T hT X
  obtain ⟨t9, a, b⟩ := kk (by rw [show (x0 :: x1 :: x2 :: x3 :: x4 :: x5 :: x6 :: x7 :: x8 :: x9 :: x10 :: x11 :: x12 :: x13 :: some (.float v) :: t).length = (x0 :: x1 :: x2 :: x3 :: x4 :: x5 :: x6 :: x7 :: x8 :: x9 :: x10 :: x11 :: x12 :: x13 :: x14 :: t).length from rfl]; exact ok) H locs la' hW hS h2 T hT X
  refine ⟨t9, ?_, b⟩
  jvm_step X.here [X.here.top, ↓top_set X.here.top, hx, hb, hd, e']
  first | exact a | exact ⟨rfl, a⟩

theorem v_iinc_14 {x0 x1 x2 x3 x4 x5 x6 x7 x8 x9 x10 x11 x12 x13 : Option Value} {t : List (Option Value)} {v : Int32} {d : Int} (hd : decode cc pc = .ok (.iinc 14 d, 3)) {w : Int32} (hw : v + Int32.ofInt d = w) (kk : V l g y cc rt tb L mc ms Po X M k n (pc + 3) (x0 :: x1 :: x2 :: x3 :: x4 :: x5 :: x6 :: x7 :: x8 :: x9 :: x10 :: x11 :: x12 :: x13 :: some (.int w) :: t) (rest)) : V l g y cc rt tb L mc ms Po X M k n (pc) (x0 :: x1 :: x2 :: x3 :: x4 :: x5 :: x6 :: x7 :: x8 :: x9 :: x10 :: x11 :: x12 :: x13 :: some (.int v) :: t) (rest) := by
  obtain ⟨p, e, s, m, args, below, meth, c, A⟩ := X
  intro ok H locs la hW hS hl
  have hx := ok.1
  have hb := ok.2.1
  have hl9 := (hl.2.2 14 (.int v) rfl).1
  obtain ⟨la', e', h'⟩ := hl.store (i := 14) (v := .int w) (by simp only [List.length_cons]; omega) rfl
  have h2 : lok la' (x0 :: x1 :: x2 :: x3 :: x4 :: x5 :: x6 :: x7 :: x8 :: x9 :: x10 :: x11 :: x12 :: x13 :: some (.int w) :: t) := h'
  subst hw
  intro T hT X
  obtain ⟨t9, a, b⟩ := kk (by rw [show (x0 :: x1 :: x2 :: x3 :: x4 :: x5 :: x6 :: x7 :: x8 :: x9 :: x10 :: x11 :: x12 :: x13 :: some (.int (v + Int32.ofInt d)) :: t).length = (x0 :: x1 :: x2 :: x3 :: x4 :: x5 :: x6 :: x7 :: x8 :: x9 :: x10 :: x11 :: x12 :: x13 :: some (.int v) :: t).length from rfl]; exact ok) H locs la' hW hS h2 T hT X
  refine ⟨t9, ?_, b⟩
  jvm_step X.here [X.here.top, ↓top_set X.here.top, hx, hb, hd, hl9, e']
  first | exact a | exact ⟨rfl, a⟩

theorem v_if_eq {x : Int32} {off : Int} {tgt : Nat} (hd : decode cc pc = .ok (.ifCond .eq off, 3)) (ht : (pc : Int) + off = (tgt : Int)) (kt : x = 0 → V l g y cc rt tb L mc ms Po X M k n (tgt) (ls) (rest)) (kf : ¬ x = 0 → V l g y cc rt tb L mc ms Po X M k n (pc + 3) (ls) (rest)) : V l g y cc rt tb L mc ms Po X M k n (pc) (ls) (.int x :: rest) := by
  obtain ⟨p, e, s, m, args, below, meth, c, A⟩ := X
  intro ok H locs la hW hS hl
  exact lv_if_eq ok.1 ok.2.1 hd ht (fun h => kt h ok H locs la hW hS hl) (fun h => kf h ok H locs la hW hS hl)

theorem v_if_ne {x : Int32} {off : Int} {tgt : Nat} (hd : decode cc pc = .ok (.ifCond .ne off, 3)) (ht : (pc : Int) + off = (tgt : Int)) (kt : ¬ x = 0 → V l g y cc rt tb L mc ms Po X M k n (tgt) (ls) (rest)) (kf : x = 0 → V l g y cc rt tb L mc ms Po X M k n (pc + 3) (ls) (rest)) : V l g y cc rt tb L mc ms Po X M k n (pc) (ls) (.int x :: rest) := by
  obtain ⟨p, e, s, m, args, below, meth, c, A⟩ := X
  intro ok H locs la hW hS hl
  exact lv_if_ne ok.1 ok.2.1 hd ht (fun h => kt h ok H locs la hW hS hl) (fun h => kf h ok H locs la hW hS hl)

theorem v_if_lt {x : Int32} {off : Int} {tgt : Nat} (hd : decode cc pc = .ok (.ifCond .lt off, 3)) (ht : (pc : Int) + off = (tgt : Int)) (kt : x < 0 → V l g y cc rt tb L mc ms Po X M k n (tgt) (ls) (rest)) (kf : ¬ x < 0 → V l g y cc rt tb L mc ms Po X M k n (pc + 3) (ls) (rest)) : V l g y cc rt tb L mc ms Po X M k n (pc) (ls) (.int x :: rest) := by
  obtain ⟨p, e, s, m, args, below, meth, c, A⟩ := X
  intro ok H locs la hW hS hl
  exact lv_if_lt ok.1 ok.2.1 hd ht (fun h => kt h ok H locs la hW hS hl) (fun h => kf h ok H locs la hW hS hl)

theorem v_if_ge {x : Int32} {off : Int} {tgt : Nat} (hd : decode cc pc = .ok (.ifCond .ge off, 3)) (ht : (pc : Int) + off = (tgt : Int)) (kt : 0 ≤ x → V l g y cc rt tb L mc ms Po X M k n (tgt) (ls) (rest)) (kf : ¬ 0 ≤ x → V l g y cc rt tb L mc ms Po X M k n (pc + 3) (ls) (rest)) : V l g y cc rt tb L mc ms Po X M k n (pc) (ls) (.int x :: rest) := by
  obtain ⟨p, e, s, m, args, below, meth, c, A⟩ := X
  intro ok H locs la hW hS hl
  exact lv_if_ge ok.1 ok.2.1 hd ht (fun h => kt h ok H locs la hW hS hl) (fun h => kf h ok H locs la hW hS hl)

theorem v_if_gt {x : Int32} {off : Int} {tgt : Nat} (hd : decode cc pc = .ok (.ifCond .gt off, 3)) (ht : (pc : Int) + off = (tgt : Int)) (kt : 0 < x → V l g y cc rt tb L mc ms Po X M k n (tgt) (ls) (rest)) (kf : ¬ 0 < x → V l g y cc rt tb L mc ms Po X M k n (pc + 3) (ls) (rest)) : V l g y cc rt tb L mc ms Po X M k n (pc) (ls) (.int x :: rest) := by
  obtain ⟨p, e, s, m, args, below, meth, c, A⟩ := X
  intro ok H locs la hW hS hl
  exact lv_if_gt ok.1 ok.2.1 hd ht (fun h => kt h ok H locs la hW hS hl) (fun h => kf h ok H locs la hW hS hl)

theorem v_if_le {x : Int32} {off : Int} {tgt : Nat} (hd : decode cc pc = .ok (.ifCond .le off, 3)) (ht : (pc : Int) + off = (tgt : Int)) (kt : x ≤ 0 → V l g y cc rt tb L mc ms Po X M k n (tgt) (ls) (rest)) (kf : ¬ x ≤ 0 → V l g y cc rt tb L mc ms Po X M k n (pc + 3) (ls) (rest)) : V l g y cc rt tb L mc ms Po X M k n (pc) (ls) (.int x :: rest) := by
  obtain ⟨p, e, s, m, args, below, meth, c, A⟩ := X
  intro ok H locs la hW hS hl
  exact lv_if_le ok.1 ok.2.1 hd ht (fun h => kt h ok H locs la hW hS hl) (fun h => kf h ok H locs la hW hS hl)

theorem v_icmp_eq {x z : Int32} {off : Int} {tgt : Nat} (hd : decode cc pc = .ok (.if_icmp .eq off, 3)) (ht : (pc : Int) + off = (tgt : Int)) (kt : x = z → V l g y cc rt tb L mc ms Po X M k n (tgt) (ls) (rest)) (kf : ¬ x = z → V l g y cc rt tb L mc ms Po X M k n (pc + 3) (ls) (rest)) : V l g y cc rt tb L mc ms Po X M k n (pc) (ls) (.int z :: .int x :: rest) := by
  obtain ⟨p, e, s, m, args, below, meth, c, A⟩ := X
  intro ok H locs la hW hS hl
  exact lv_icmp_eq ok.1 ok.2.1 hd ht (fun h => kt h ok H locs la hW hS hl) (fun h => kf h ok H locs la hW hS hl)

theorem v_icmp_ne {x z : Int32} {off : Int} {tgt : Nat} (hd : decode cc pc = .ok (.if_icmp .ne off, 3)) (ht : (pc : Int) + off = (tgt : Int)) (kt : ¬ x = z → V l g y cc rt tb L mc ms Po X M k n (tgt) (ls) (rest)) (kf : x = z → V l g y cc rt tb L mc ms Po X M k n (pc + 3) (ls) (rest)) : V l g y cc rt tb L mc ms Po X M k n (pc) (ls) (.int z :: .int x :: rest) := by
  obtain ⟨p, e, s, m, args, below, meth, c, A⟩ := X
  intro ok H locs la hW hS hl
  exact lv_icmp_ne ok.1 ok.2.1 hd ht (fun h => kt h ok H locs la hW hS hl) (fun h => kf h ok H locs la hW hS hl)

theorem v_icmp_lt {x z : Int32} {off : Int} {tgt : Nat} (hd : decode cc pc = .ok (.if_icmp .lt off, 3)) (ht : (pc : Int) + off = (tgt : Int)) (kt : x < z → V l g y cc rt tb L mc ms Po X M k n (tgt) (ls) (rest)) (kf : ¬ x < z → V l g y cc rt tb L mc ms Po X M k n (pc + 3) (ls) (rest)) : V l g y cc rt tb L mc ms Po X M k n (pc) (ls) (.int z :: .int x :: rest) := by
  obtain ⟨p, e, s, m, args, below, meth, c, A⟩ := X
  intro ok H locs la hW hS hl
  exact lv_icmp_lt ok.1 ok.2.1 hd ht (fun h => kt h ok H locs la hW hS hl) (fun h => kf h ok H locs la hW hS hl)

theorem v_icmp_ge {x z : Int32} {off : Int} {tgt : Nat} (hd : decode cc pc = .ok (.if_icmp .ge off, 3)) (ht : (pc : Int) + off = (tgt : Int)) (kt : z ≤ x → V l g y cc rt tb L mc ms Po X M k n (tgt) (ls) (rest)) (kf : ¬ z ≤ x → V l g y cc rt tb L mc ms Po X M k n (pc + 3) (ls) (rest)) : V l g y cc rt tb L mc ms Po X M k n (pc) (ls) (.int z :: .int x :: rest) := by
  obtain ⟨p, e, s, m, args, below, meth, c, A⟩ := X
  intro ok H locs la hW hS hl
  exact lv_icmp_ge ok.1 ok.2.1 hd ht (fun h => kt h ok H locs la hW hS hl) (fun h => kf h ok H locs la hW hS hl)

theorem v_icmp_gt {x z : Int32} {off : Int} {tgt : Nat} (hd : decode cc pc = .ok (.if_icmp .gt off, 3)) (ht : (pc : Int) + off = (tgt : Int)) (kt : z < x → V l g y cc rt tb L mc ms Po X M k n (tgt) (ls) (rest)) (kf : ¬ z < x → V l g y cc rt tb L mc ms Po X M k n (pc + 3) (ls) (rest)) : V l g y cc rt tb L mc ms Po X M k n (pc) (ls) (.int z :: .int x :: rest) := by
  obtain ⟨p, e, s, m, args, below, meth, c, A⟩ := X
  intro ok H locs la hW hS hl
  exact lv_icmp_gt ok.1 ok.2.1 hd ht (fun h => kt h ok H locs la hW hS hl) (fun h => kf h ok H locs la hW hS hl)

theorem v_icmp_le {x z : Int32} {off : Int} {tgt : Nat} (hd : decode cc pc = .ok (.if_icmp .le off, 3)) (ht : (pc : Int) + off = (tgt : Int)) (kt : x ≤ z → V l g y cc rt tb L mc ms Po X M k n (tgt) (ls) (rest)) (kf : ¬ x ≤ z → V l g y cc rt tb L mc ms Po X M k n (pc + 3) (ls) (rest)) : V l g y cc rt tb L mc ms Po X M k n (pc) (ls) (.int z :: .int x :: rest) := by
  obtain ⟨p, e, s, m, args, below, meth, c, A⟩ := X
  intro ok H locs la hW hS hl
  exact lv_icmp_le ok.1 ok.2.1 hd ht (fun h => kt h ok H locs la hW hS hl) (fun h => kf h ok H locs la hW hS hl)

theorem v_goto {off : Int} {tgt : Nat} (hd : decode cc pc = .ok (.goto off, 3)) (ht : (pc : Int) + off = (tgt : Int)) (kk : V l g y cc rt tb L mc ms Po X M k n (tgt) (ls) (rest)) : V l g y cc rt tb L mc ms Po X M k n (pc) (ls) (rest) := by
  obtain ⟨p, e, s, m, args, below, meth, c, A⟩ := X
  intro ok H locs la hW hS hl
  exact lv_goto ok.1 ok.2.1 hd ht (kk ok H locs la hW hS hl)

theorem v_ifnonnull {a : Nat} {off : Int} {tgt : Nat} (hd : decode cc pc = .ok (.ifnonnull off, 3)) (ht : (pc : Int) + off = (tgt : Int)) (kk : V l g y cc rt tb L mc ms Po X M k n (tgt) (ls) (rest)) : V l g y cc rt tb L mc ms Po X M k n (pc) (ls) (.ref a :: rest) := by
  obtain ⟨p, e, s, m, args, below, meth, c, A⟩ := X
  intro ok H locs la hW hS hl
  exact lv_ifnonnull ok.1 ok.2.1 hd ht (kk ok H locs la hW hS hl)

theorem v_ifnonnullN {off : Int} (hd : decode cc pc = .ok (.ifnonnull off, 3)) (kk : V l g y cc rt tb L mc ms Po X M k n (pc + 3) (ls) (rest)) : V l g y cc rt tb L mc ms Po X M k n (pc) (ls) (.null :: rest) := by
  obtain ⟨p, e, s, m, args, below, meth, c, A⟩ := X
  intro ok H locs la hW hS hl
  exact lv_ifnonnullN ok.1 ok.2.1 hd (kk ok H locs la hW hS hl)

theorem v_ifnull {a : Nat} {off : Int} (hd : decode cc pc = .ok (.ifnull off, 3)) (kk : V l g y cc rt tb L mc ms Po X M k n (pc + 3) (ls) (rest)) : V l g y cc rt tb L mc ms Po X M k n (pc) (ls) (.ref a :: rest) := by
  obtain ⟨p, e, s, m, args, below, meth, c, A⟩ := X
  intro ok H locs la hW hS hl
  exact lv_ifnull ok.1 ok.2.1 hd (kk ok H locs la hW hS hl)

theorem v_ifnullN {off : Int} {tgt : Nat} (hd : decode cc pc = .ok (.ifnull off, 3)) (ht : (pc : Int) + off = (tgt : Int)) (kk : V l g y cc rt tb L mc ms Po X M k n (tgt) (ls) (rest)) : V l g y cc rt tb L mc ms Po X M k n (pc) (ls) (.null :: rest) := by
  obtain ⟨p, e, s, m, args, below, meth, c, A⟩ := X
  intro ok H locs la hW hS hl
  exact lv_ifnullN ok.1 ok.2.1 hd ht (kk ok H locs la hW hS hl)

theorem v_acmp_ne {a b : Nat} {off : Int} {tgt : Nat} (hd : decode cc pc = .ok (.if_acmp .ne off, 3)) (ht : (pc : Int) + off = (tgt : Int)) (kt : ¬ a = b → V l g y cc rt tb L mc ms Po X M k n (tgt) (ls) (rest)) (kf : a = b → V l g y cc rt tb L mc ms Po X M k n (pc + 3) (ls) (rest)) : V l g y cc rt tb L mc ms Po X M k n (pc) (ls) (.ref b :: .ref a :: rest) := by
  obtain ⟨p, e, s, m, args, below, meth, c, A⟩ := X
  intro ok H locs la hW hS hl
  exact lv_acmp_ne (rx := some a) (ry := some b) ok.1 ok.2.1 hd ht (fun h => kt (fun e9 => h (by rw [e9])) ok H locs la hW hS hl) (fun h => kf (Option.some.inj h) ok H locs la hW hS hl)

theorem v_acmp_eq {a b : Nat} {off : Int} {tgt : Nat} (hd : decode cc pc = .ok (.if_acmp .eq off, 3)) (ht : (pc : Int) + off = (tgt : Int)) (kt : a = b → V l g y cc rt tb L mc ms Po X M k n (tgt) (ls) (rest)) (kf : ¬ a = b → V l g y cc rt tb L mc ms Po X M k n (pc + 3) (ls) (rest)) : V l g y cc rt tb L mc ms Po X M k n (pc) (ls) (.ref b :: .ref a :: rest) := by
  obtain ⟨p, e, s, m, args, below, meth, c, A⟩ := X
  intro ok H locs la hW hS hl
  exact lv_acmp_eq (rx := some a) (ry := some b) ok.1 ok.2.1 hd ht (fun h => kt (Option.some.inj h) ok H locs la hW hS hl) (fun h => kf (fun e9 => h (by rw [e9])) ok H locs la hW hS hl)

theorem v_tableIn {dflt lo hi : Int} {offs : Array Int} {len : Nat} {x : Int32} {off : Int} {tgt : Nat} (hd : decode cc pc = .ok (.tableswitch dflt lo hi offs, len)) (h1 : ¬ x.toInt < lo) (h2 : ¬ hi < x.toInt) (ho : offs[(x.toInt - lo).toNat]? = some off) (ht : (pc : Int) + off = (tgt : Int)) (kk : V l g y cc rt tb L mc ms Po X M k n (tgt) (ls) (rest)) : V l g y cc rt tb L mc ms Po X M k n (pc) (ls) (.int x :: rest) := by
  obtain ⟨p, e, s, m, args, below, meth, c, A⟩ := X
  intro ok H locs la hW hS hl
  exact lv_tableIn ok.1 ok.2.1 hd h1 h2 ho ht (kk ok H locs la hW hS hl)

theorem v_tableOut {dflt lo hi : Int} {offs : Array Int} {len : Nat} {x : Int32} {tgt : Nat} (hd : decode cc pc = .ok (.tableswitch dflt lo hi offs, len)) (h1 : x.toInt < lo ∨ hi < x.toInt) (ht : (pc : Int) + dflt = (tgt : Int)) (kk : V l g y cc rt tb L mc ms Po X M k n (tgt) (ls) (rest)) : V l g y cc rt tb L mc ms Po X M k n (pc) (ls) (.int x :: rest) := by
  obtain ⟨p, e, s, m, args, below, meth, c, A⟩ := X
  intro ok H locs la hW hS hl
  exact lv_tableOut ok.1 ok.2.1 hd h1 ht (kk ok H locs la hW hS hl)

theorem v_lookup {dflt : Int} {ps : Array (Int × Int)} {len : Nat} {x : Int32} {off : Int} {tgt : Nat} (hd : decode cc pc = .ok (.lookupswitch dflt ps, len)) (hp : (ps.toList.zip (ps.toList.drop 1)).all (fun (a, next) => a.1 < next.1) = true) (ho : Op.lookupswitch.offset ps.toList dflt x.toInt = off) (ht : (pc : Int) + off = (tgt : Int)) (kk : V l g y cc rt tb L mc ms Po X M k n (tgt) (ls) (rest)) : V l g y cc rt tb L mc ms Po X M k n (pc) (ls) (.int x :: rest) := by
  obtain ⟨p, e, s, m, args, below, meth, c, A⟩ := X
  intro ok H locs la hW hS hl
  exact lv_lookup ok.1 ok.2.1 hd hp ho ht (kk ok H locs la hW hS hl)

theorem v_ldc {own : String} {index : Nat} {v : Int32} (hd : decode cc pc = .ok (.ldc index, 2)) (ho : y.cls = own) (hw : Cond.constant own index v ∈ Ut) (kk : V l g y cc rt tb L mc ms Po X M k n (pc + 2) (ls) (.int v :: rest)) : V l g y cc rt tb L mc ms Po X M k n (pc) (ls) (rest) := by
  obtain ⟨p, e, s, m, args, below, meth, c, A⟩ := X
  intro ok H locs la hW hS hl
  subst ho
  exact lv_ldc ok.1 ok.2.1 ok.2.2.2.1 (ok.2.2.2.2.1 _ hw) hd (kk ok H locs la hW hS hl)

theorem v_ldcw {own : String} {index : Nat} {v : Int32} (hd : decode cc pc = .ok (.ldc_w index, 3)) (ho : y.cls = own) (hw : Cond.constant own index v ∈ Ut) (kk : V l g y cc rt tb L mc ms Po X M k n (pc + 3) (ls) (.int v :: rest)) : V l g y cc rt tb L mc ms Po X M k n (pc) (ls) (rest) := by
  obtain ⟨p, e, s, m, args, below, meth, c, A⟩ := X
  intro ok H locs la hW hS hl
  subst ho
  exact lv_ldcw ok.1 ok.2.1 ok.2.2.2.1 (ok.2.2.2.2.1 _ hw) hd (kk ok H locs la hW hS hl)

theorem v_iret {v : Int32} (hd : decode cc pc = .ok (.ireturn, 1)) (hr : rt = some .int)  (hq : Po (.inl (some (.int v))) M) (hk : k ≤ mc) (hn : n ≤ ms) : V l g y cc rt tb L mc ms Po X M k n (pc) (ls) ([.int v]) := by
  obtain ⟨p, e, s, m, args, below, meth, c, A⟩ := X
  intro ok H locs la hW hS hl
  have hr9 := ok.2.2.2.2.2.2.2.2.1
  have hlk := ok.2.2.2.2.2.2.2.1
  refine W.widen (k := mc) (n := ms) hk hn (vx_ret ?_)
  exact W.iret ok.1 ok.2.1 (hr9.trans hr) (fun t ht hW9 => ⟨⟨some (.int v), M, rfl, hq, by rw [ht]; exact Wd.moved hW9.alike hW⟩, hS.F ht⟩) hS.2.2 hd (hlocks := hlk)

theorem v_zret {v : Int32} {ty : FieldType} (hd : decode cc pc = .ok (.ireturn, 1)) (hr : rt = some ty) (hz : narrow ty (.int v) = .int v) (hq : Po (.inl (some (.int v))) M) (hk : k ≤ mc) (hn : n ≤ ms) : V l g y cc rt tb L mc ms Po X M k n (pc) (ls) ([.int v]) := by
  obtain ⟨p, e, s, m, args, below, meth, c, A⟩ := X
  intro ok H locs la hW hS hl
  have hr9 := ok.2.2.2.2.2.2.2.2.1
  have hlk := ok.2.2.2.2.2.2.2.1
  refine W.widen (k := mc) (n := ms) hk hn (vx_ret ?_)
  exact W.zret ok.1 ok.2.1 (hr9.trans hr) hz (fun t ht hW9 => ⟨⟨some (.int v), M, rfl, hq, by rw [ht]; exact Wd.moved hW9.alike hW⟩, hS.F ht⟩) hS.2.2 hd (hlocks := hlk)

theorem v_vret  (hd : decode cc pc = .ok (.return_, 1)) (hr : rt = none)  (hq : Po (.inl none) M) (hk : k ≤ mc) (hn : n ≤ ms) : V l g y cc rt tb L mc ms Po X M k n (pc) (ls) ([]) := by
  obtain ⟨p, e, s, m, args, below, meth, c, A⟩ := X
  intro ok H locs la hW hS hl
  have hr9 := ok.2.2.2.2.2.2.2.2.1
  have hlk := ok.2.2.2.2.2.2.2.1
  refine W.widen (k := mc) (n := ms) hk hn (vx_ret ?_)
  exact W.vret ok.1 ok.2.1 (hr9.trans hr) (fun t ht hW9 => ⟨⟨none, M, rfl, hq, by rw [ht]; exact Wd.moved hW9.alike hW⟩, hS.F ht⟩) hS.2.2 hd (hlocks := hlk)

theorem v_aret {a : Nat} {C : String} (hd : decode cc pc = .ok (.areturn, 1)) (hr : rt = some (.object C))  (hq : Po (.inl (some (.ref a))) M) (hk : k ≤ mc) (hn : n ≤ ms) : V l g y cc rt tb L mc ms Po X M k n (pc) (ls) ([.ref a]) := by
  obtain ⟨p, e, s, m, args, below, meth, c, A⟩ := X
  intro ok H locs la hW hS hl
  have hr9 := ok.2.2.2.2.2.2.2.2.1
  have hlk := ok.2.2.2.2.2.2.2.1
  refine W.widen (k := mc) (n := ms) hk hn (vx_ret ?_)
  exact W.aret ok.1 ok.2.1 (hr9.trans hr) (Or.inl ⟨_, rfl⟩) (Or.inr ⟨_, rfl⟩) (fun t ht hW9 => ⟨⟨some (.ref a), M, rfl, hq, by rw [ht]; exact Wd.moved hW9.alike hW⟩, hS.F ht⟩) hS.2.2 hd (hlocks := hlk)

theorem v_nret {C : String} (hd : decode cc pc = .ok (.areturn, 1)) (hr : rt = some (.object C))  (hq : Po (.inl (some .null)) M) (hk : k ≤ mc) (hn : n ≤ ms) : V l g y cc rt tb L mc ms Po X M k n (pc) (ls) ([.null]) := by
  obtain ⟨p, e, s, m, args, below, meth, c, A⟩ := X
  intro ok H locs la hW hS hl
  have hr9 := ok.2.2.2.2.2.2.2.2.1
  have hlk := ok.2.2.2.2.2.2.2.1
  refine W.widen (k := mc) (n := ms) hk hn (vx_ret ?_)
  exact W.aret ok.1 ok.2.1 (hr9.trans hr) (Or.inl ⟨_, rfl⟩) (Or.inl rfl) (fun t ht hW9 => ⟨⟨some .null, M, rfl, hq, by rw [ht]; exact Wd.moved hW9.alike hW⟩, hS.F ht⟩) hS.2.2 hd (hlocks := hlk)

theorem v_fret {v : UInt32} (hd : decode cc pc = .ok (.freturn, 1)) (hr : rt = some .float)  (hq : Po (.inl (some (.float v))) M) (hk : k ≤ mc) (hn : n ≤ ms) : V l g y cc rt tb L mc ms Po X M k n (pc) (ls) ([.float v]) := by
  obtain ⟨p, e, s, m, args, below, meth, c, A⟩ := X
  intro ok H locs la hW hS hl
  have hr9 := ok.2.2.2.2.2.2.2.2.1
  have hlk := ok.2.2.2.2.2.2.2.1
  refine W.widen (k := mc) (n := ms) hk hn (vx_ret ?_)
  exact W.fret ok.1 ok.2.1 (hr9.trans hr) (fun t ht hW9 => ⟨⟨some (.float v), M, rfl, hq, by rw [ht]; exact Wd.moved hW9.alike hW⟩, hS.F ht⟩) hS.2.2 hd (hlocks := hlk)

theorem v_dret {v : UInt64} (hd : decode cc pc = .ok (.dreturn, 1)) (hr : rt = some .double)  (hq : Po (.inl (some (.double v))) M) (hk : k ≤ mc) (hn : n ≤ ms) : V l g y cc rt tb L mc ms Po X M k n (pc) (ls) ([.double v]) := by
  obtain ⟨p, e, s, m, args, below, meth, c, A⟩ := X
  intro ok H locs la hW hS hl
  have hr9 := ok.2.2.2.2.2.2.2.2.1
  have hlk := ok.2.2.2.2.2.2.2.1
  refine W.widen (k := mc) (n := ms) hk hn (vx_ret ?_)
  exact W.dret ok.1 ok.2.1 (hr9.trans hr) (fun t ht hW9 => ⟨⟨some (.double v), M, rfl, hq, by rw [ht]; exact Wd.moved hW9.alike hW⟩, hS.F ht⟩) hS.2.2 hd (hlocks := hlk)

end VR
