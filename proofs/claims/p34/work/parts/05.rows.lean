/-! ROWS: an instruction a row, over WA. What a branch tells is told of toInt. -/
theorem Int32.eq_toInt {x y : Int32} : x = y ↔ x.toInt = y.toInt := Int32.toInt_inj.symm
theorem z32 : (0 : Int32).toInt = 0 := by decide
theorem shp_n {t k n : Nat} (h : shp t = .inl (k, n)) : n ≤ 576 := by
  unfold shp at h
  split at h
  · split at h
    · split at h <;> cases h <;> decide
    · split at h
      · split at h <;> cases h <;> decide
      · split at h
        · split at h <;> cases h <;> decide
        · cases h
          decide
  · cases h
    decide
section WAR
variable {k k' : MK} {d d' : Nat} {Q : QM} {pc : Nat} {lv : List (Option Value)} {st : List Value} {μ : Mem}
theorem wa_iadd {x y : Int32} (hd : decode k.2.1 pc = .ok (.iadd, 1)) (kk : WA k d Q (pc + 1) lv (.int (x + y) :: st) μ) : WA k d Q pc lv (.int y :: .int x :: st) μ :=
  fun G p l e s m args below meth c H locs ls C hP hS hl => lv_iadd C.1 C.2.1 hd (kk G p l e s m args below meth c H locs ls C hP hS hl)
theorem wa_isub {x y : Int32} (hd : decode k.2.1 pc = .ok (.isub, 1)) (kk : WA k d Q (pc + 1) lv (.int (x - y) :: st) μ) : WA k d Q pc lv (.int y :: .int x :: st) μ :=
  fun G p l e s m args below meth c H locs ls C hP hS hl => lv_isub C.1 C.2.1 hd (kk G p l e s m args below meth c H locs ls C hP hS hl)
theorem wa_imul {x y : Int32} (hd : decode k.2.1 pc = .ok (.imul, 1)) (kk : WA k d Q (pc + 1) lv (.int (x * y) :: st) μ) : WA k d Q pc lv (.int y :: .int x :: st) μ :=
  fun G p l e s m args below meth c H locs ls C hP hS hl => lv_imul C.1 C.2.1 hd (kk G p l e s m args below meth c H locs ls C hP hS hl)
theorem wa_iand {x y : Int32} (hd : decode k.2.1 pc = .ok (.iand, 1)) (kk : WA k d Q (pc + 1) lv (.int (x &&& y) :: st) μ) : WA k d Q pc lv (.int y :: .int x :: st) μ :=
  fun G p l e s m args below meth c H locs ls C hP hS hl => lv_iand C.1 C.2.1 hd (kk G p l e s m args below meth c H locs ls C hP hS hl)
theorem wa_ior {x y : Int32} (hd : decode k.2.1 pc = .ok (.ior, 1)) (kk : WA k d Q (pc + 1) lv (.int (x ||| y) :: st) μ) : WA k d Q pc lv (.int y :: .int x :: st) μ :=
  fun G p l e s m args below meth c H locs ls C hP hS hl => lv_ior C.1 C.2.1 hd (kk G p l e s m args below meth c H locs ls C hP hS hl)
theorem wa_ixor {x y : Int32} (hd : decode k.2.1 pc = .ok (.ixor, 1)) (kk : WA k d Q (pc + 1) lv (.int (x ^^^ y) :: st) μ) : WA k d Q pc lv (.int y :: .int x :: st) μ :=
  fun G p l e s m args below meth c H locs ls C hP hS hl => lv_ixor C.1 C.2.1 hd (kk G p l e s m args below meth c H locs ls C hP hS hl)
theorem wa_idiv {x y : Int32} (hd : decode k.2.1 pc = .ok (.idiv, 1)) (hne : ¬ y = 0) (kk : WA k d Q (pc + 1) lv (.int (x / y) :: st) μ) : WA k d Q pc lv (.int y :: .int x :: st) μ :=
  fun G p l e s m args below meth c H locs ls C hP hS hl => lv_idiv C.1 C.2.1 hd hne (kk G p l e s m args below meth c H locs ls C hP hS hl)
theorem wa_irem {x y : Int32} (hd : decode k.2.1 pc = .ok (.irem, 1)) (hne : ¬ y = 0) (kk : WA k d Q (pc + 1) lv (.int (x - x / y * y) :: st) μ) : WA k d Q pc lv (.int y :: .int x :: st) μ :=
  fun G p l e s m args below meth c H locs ls C hP hS hl => lv_irem C.1 C.2.1 hd hne (kk G p l e s m args below meth c H locs ls C hP hS hl)
theorem wa_ineg {x : Int32} (hd : decode k.2.1 pc = .ok (.ineg, 1)) (kk : WA k d Q (pc + 1) lv (.int (-x) :: st) μ) : WA k d Q pc lv (.int x :: st) μ :=
  fun G p l e s m args below meth c H locs ls C hP hS hl => lv_ineg C.1 C.2.1 hd (kk G p l e s m args below meth c H locs ls C hP hS hl)
theorem wa_ladd {x y : Int64} (hd : decode k.2.1 pc = .ok (.ladd, 1)) (kk : WA k d Q (pc + 1) lv (.long (x + y) :: st) μ) : WA k d Q pc lv (.long y :: .long x :: st) μ :=
  fun G p l e s m args below meth c H locs ls C hP hS hl => lv_ladd C.1 C.2.1 hd (kk G p l e s m args below meth c H locs ls C hP hS hl)
theorem wa_lsub {x y : Int64} (hd : decode k.2.1 pc = .ok (.lsub, 1)) (kk : WA k d Q (pc + 1) lv (.long (x - y) :: st) μ) : WA k d Q pc lv (.long y :: .long x :: st) μ :=
  fun G p l e s m args below meth c H locs ls C hP hS hl => lv_lsub C.1 C.2.1 hd (kk G p l e s m args below meth c H locs ls C hP hS hl)
theorem wa_lmul {x y : Int64} (hd : decode k.2.1 pc = .ok (.lmul, 1)) (kk : WA k d Q (pc + 1) lv (.long (x * y) :: st) μ) : WA k d Q pc lv (.long y :: .long x :: st) μ :=
  fun G p l e s m args below meth c H locs ls C hP hS hl => lv_lmul C.1 C.2.1 hd (kk G p l e s m args below meth c H locs ls C hP hS hl)
theorem wa_land {x y : Int64} (hd : decode k.2.1 pc = .ok (.land, 1)) (kk : WA k d Q (pc + 1) lv (.long (x &&& y) :: st) μ) : WA k d Q pc lv (.long y :: .long x :: st) μ :=
  fun G p l e s m args below meth c H locs ls C hP hS hl => lv_land C.1 C.2.1 hd (kk G p l e s m args below meth c H locs ls C hP hS hl)
theorem wa_lor {x y : Int64} (hd : decode k.2.1 pc = .ok (.lor, 1)) (kk : WA k d Q (pc + 1) lv (.long (x ||| y) :: st) μ) : WA k d Q pc lv (.long y :: .long x :: st) μ :=
  fun G p l e s m args below meth c H locs ls C hP hS hl => lv_lor C.1 C.2.1 hd (kk G p l e s m args below meth c H locs ls C hP hS hl)
theorem wa_lxor {x y : Int64} (hd : decode k.2.1 pc = .ok (.lxor, 1)) (kk : WA k d Q (pc + 1) lv (.long (x ^^^ y) :: st) μ) : WA k d Q pc lv (.long y :: .long x :: st) μ :=
  fun G p l e s m args below meth c H locs ls C hP hS hl => lv_lxor C.1 C.2.1 hd (kk G p l e s m args below meth c H locs ls C hP hS hl)
theorem wa_ldiv {x y : Int64} (hd : decode k.2.1 pc = .ok (.ldiv, 1)) (hne : ¬ y = 0) (kk : WA k d Q (pc + 1) lv (.long (x / y) :: st) μ) : WA k d Q pc lv (.long y :: .long x :: st) μ :=
  fun G p l e s m args below meth c H locs ls C hP hS hl => lv_ldiv C.1 C.2.1 hd hne (kk G p l e s m args below meth c H locs ls C hP hS hl)
theorem wa_lrem {x y : Int64} (hd : decode k.2.1 pc = .ok (.lrem, 1)) (hne : ¬ y = 0) (kk : WA k d Q (pc + 1) lv (.long (x - x / y * y) :: st) μ) : WA k d Q pc lv (.long y :: .long x :: st) μ :=
  fun G p l e s m args below meth c H locs ls C hP hS hl => lv_lrem C.1 C.2.1 hd hne (kk G p l e s m args below meth c H locs ls C hP hS hl)
theorem wa_lneg {x : Int64} (hd : decode k.2.1 pc = .ok (.lneg, 1)) (kk : WA k d Q (pc + 1) lv (.long (-x) :: st) μ) : WA k d Q pc lv (.long x :: st) μ :=
  fun G p l e s m args below meth c H locs ls C hP hS hl => lv_lneg C.1 C.2.1 hd (kk G p l e s m args below meth c H locs ls C hP hS hl)
theorem wa_ishl {x y : Int32} (hd : decode k.2.1 pc = .ok (.ishl, 1)) (kk : WA k d Q (pc + 1) lv (.int (x <<< (y &&& 31)) :: st) μ) : WA k d Q pc lv (.int y :: .int x :: st) μ :=
  fun G p l e s m args below meth c H locs ls C hP hS hl => lv_ishl C.1 C.2.1 hd (kk G p l e s m args below meth c H locs ls C hP hS hl)
theorem wa_ishr {x y : Int32} (hd : decode k.2.1 pc = .ok (.ishr, 1)) (kk : WA k d Q (pc + 1) lv (.int (x >>> (y &&& 31)) :: st) μ) : WA k d Q pc lv (.int y :: .int x :: st) μ :=
  fun G p l e s m args below meth c H locs ls C hP hS hl => lv_ishr C.1 C.2.1 hd (kk G p l e s m args below meth c H locs ls C hP hS hl)
theorem wa_iushr {x y : Int32} (hd : decode k.2.1 pc = .ok (.iushr, 1)) (kk : WA k d Q (pc + 1) lv (.int ((x.toUInt32 >>> (y.toUInt32 &&& Int32.toUInt32 31)).toInt32) :: st) μ) : WA k d Q pc lv (.int y :: .int x :: st) μ :=
  fun G p l e s m args below meth c H locs ls C hP hS hl => lv_iushr C.1 C.2.1 hd rfl (kk G p l e s m args below meth c H locs ls C hP hS hl)
theorem wa_lshr {x : Int64} {y : Int32} (hd : decode k.2.1 pc = .ok (.lshr, 1)) (kk : WA k d Q (pc + 1) lv (.long (x >>> (y.toInt64 &&& 63)) :: st) μ) : WA k d Q pc lv (.int y :: .long x :: st) μ :=
  fun G p l e s m args below meth c H locs ls C hP hS hl => lv_lshr C.1 C.2.1 hd rfl (kk G p l e s m args below meth c H locs ls C hP hS hl)
theorem wa_lshl {x : Int64} {y : Int32} (hd : decode k.2.1 pc = .ok (.lshl, 1)) (kk : WA k d Q (pc + 1) lv (.long (x <<< (y.toInt64 &&& 63)) :: st) μ) : WA k d Q pc lv (.int y :: .long x :: st) μ :=
  fun G p l e s m args below meth c H locs ls C hP hS hl => lv_lshl C.1 C.2.1 hd rfl (kk G p l e s m args below meth c H locs ls C hP hS hl)
theorem wa_i2l {x : Int32} (hd : decode k.2.1 pc = .ok (.i2l, 1)) (kk : WA k d Q (pc + 1) lv (.long x.toInt64 :: st) μ) : WA k d Q pc lv (.int x :: st) μ :=
  fun G p l e s m args below meth c H locs ls C hP hS hl => lv_i2l C.1 C.2.1 hd rfl (kk G p l e s m args below meth c H locs ls C hP hS hl)
theorem wa_l2i {x : Int64} (hd : decode k.2.1 pc = .ok (.l2i, 1)) (kk : WA k d Q (pc + 1) lv (.int x.toInt32 :: st) μ) : WA k d Q pc lv (.long x :: st) μ :=
  fun G p l e s m args below meth c H locs ls C hP hS hl => lv_l2i C.1 C.2.1 hd rfl (kk G p l e s m args below meth c H locs ls C hP hS hl)
theorem wa_lcmp {x y : Int64} (hd : decode k.2.1 pc = .ok (.lcmp, 1)) (kk : WA k d Q (pc + 1) lv (.int (lg_cmp x y) :: st) μ) : WA k d Q pc lv (.long y :: .long x :: st) μ :=
  fun G p l e s m args below meth c H locs ls C hP hS hl => W.lcmp C.1 C.2.1 hd (kk G p l e s m args below meth c H locs ls C hP hS hl)
theorem wa_dupr {t : Nat} (hd : decode k.2.1 pc = .ok (.dup, 1)) (kk : WA k d Q (pc + 1) lv (.ref t :: .ref t :: st) μ) : WA k d Q pc lv (.ref t :: st) μ :=
  fun G p l e s m args below meth c H locs ls C hP hS hl => lv_dup C.1 C.2.1 hd rfl (kk G p l e s m args below meth c H locs ls C hP hS hl)
theorem wa_dupi {x : Int32} (hd : decode k.2.1 pc = .ok (.dup, 1)) (kk : WA k d Q (pc + 1) lv (.int x :: .int x :: st) μ) : WA k d Q pc lv (.int x :: st) μ :=
  fun G p l e s m args below meth c H locs ls C hP hS hl => lv_dup C.1 C.2.1 hd rfl (kk G p l e s m args below meth c H locs ls C hP hS hl)
theorem wa_iconst {n : Int} (v : Int32) (hd : decode k.2.1 pc = .ok (.iconst n, 1)) (hv : Int32.ofInt n = v) (kk : WA k d Q (pc + 1) lv (.int v :: st) μ) : WA k d Q pc lv st μ :=
  fun G p l e s m args below meth c H locs ls C hP hS hl => lv_iconst C.1 C.2.1 hd hv (kk G p l e s m args below meth c H locs ls C hP hS hl)
theorem wa_bipush {n : Int} (v : Int32) (hd : decode k.2.1 pc = .ok (.bipush n, 2)) (hv : (Int8.ofInt n).toInt32 = v) (kk : WA k d Q (pc + 2) lv (.int v :: st) μ) : WA k d Q pc lv st μ :=
  fun G p l e s m args below meth c H locs ls C hP hS hl => lv_bipush C.1 C.2.1 hd hv (kk G p l e s m args below meth c H locs ls C hP hS hl)
theorem wa_sipush {n : Int} (v : Int32) (hd : decode k.2.1 pc = .ok (.sipush n, 3)) (hv : (Int16.ofInt n).toInt32 = v) (kk : WA k d Q (pc + 3) lv (.int v :: st) μ) : WA k d Q pc lv st μ :=
  fun G p l e s m args below meth c H locs ls C hP hS hl => lv_sipush C.1 C.2.1 hd hv (kk G p l e s m args below meth c H locs ls C hP hS hl)
theorem wa_lconst {n : Fin 2} (v : Int64) (hd : decode k.2.1 pc = .ok (.lconst n, 1)) (hv : Int64.ofNat (n : Nat) = v) (kk : WA k d Q (pc + 1) lv (.long v :: st) μ) : WA k d Q pc lv st μ :=
  fun G p l e s m args below meth c H locs ls C hP hS hl => lv_lconst C.1 C.2.1 hd hv (kk G p l e s m args below meth c H locs ls C hP hS hl)
theorem wa_ldc2 {index : Nat} (v : Int64) (hd : decode k.2.1 pc = .ok (.ldc2_w index, 3)) (hw : Cond.constantLong k.1.cls index v ∈ wT) (kk : WA k d Q (pc + 3) lv (.long v :: st) μ) : WA k d Q pc lv st μ :=
  fun G p l e s m args below meth c H locs ls C hP hS hl => lv_ldc2 C.1 C.2.1 C.2.2.2.2.1 (C.2.2.2.1 _ (List.mem_cons_of_mem _ hw)) hd (kk G p l e s m args below meth c H locs ls C hP hS hl)
theorem wa_ldc {index : Nat} (v : Int32) (hd : decode k.2.1 pc = .ok (.ldc index, 2)) (hw : Cond.constant k.1.cls index v ∈ wT) (kk : WA k d Q (pc + 2) lv (.int v :: st) μ) : WA k d Q pc lv st μ :=
  fun G p l e s m args below meth c H locs ls C hP hS hl => lv_ldc C.1 C.2.1 C.2.2.2.2.1 (C.2.2.2.1 _ (List.mem_cons_of_mem _ hw)) hd (kk G p l e s m args below meth c H locs ls C hP hS hl)
theorem wa_ldcw {index : Nat} (v : Int32) (hd : decode k.2.1 pc = .ok (.ldc_w index, 3)) (hw : Cond.constant k.1.cls index v ∈ wT) (kk : WA k d Q (pc + 3) lv (.int v :: st) μ) : WA k d Q pc lv st μ :=
  fun G p l e s m args below meth c H locs ls C hP hS hl => lv_ldcw C.1 C.2.1 C.2.2.2.2.1 (C.2.2.2.1 _ (List.mem_cons_of_mem _ hw)) hd (kk G p l e s m args below meth c H locs ls C hP hS hl)
theorem wa_iload_n {i : Fin 4} {x : Int32} (hd : decode k.2.1 pc = .ok (.iload_n i, 1)) (hx : lv[(i : Nat)]? = some (some (.int x))) (kk : WA k d Q (pc + 1) lv (.int x :: st) μ) : WA k d Q pc lv st μ :=
  fun G p l e s m args below meth c H locs ls C hP hS hl => lv_iload_n C.1 C.2.1 hd rfl (hl.at hx) (kk G p l e s m args below meth c H locs ls C hP hS hl)
theorem wa_iload {i : Nat} {x : Int32} (hd : decode k.2.1 pc = .ok (.iload i, 2)) (hx : lv[i]? = some (some (.int x))) (kk : WA k d Q (pc + 2) lv (.int x :: st) μ) : WA k d Q pc lv st μ :=
  fun G p l e s m args below meth c H locs ls C hP hS hl => lv_iload C.1 C.2.1 hd (hl.at hx) (kk G p l e s m args below meth c H locs ls C hP hS hl)
theorem wa_istore_n {i : Fin 4} {x : Int32} (hd : decode k.2.1 pc = .ok (.istore_n i, 1)) (hi : (i : Nat) < k.2.2.1) (kk : WA k d Q (pc + 1) (stV lv i (.int x)) st μ) : WA k d Q pc lv (.int x :: st) μ :=
  fun G p l e s m args below meth c H locs ls C hP hS hl => lv_istore_n C.1 C.2.1 hd rfl hl.has hi rfl (fun ls' hl' => kk G p l e s m args below meth c H locs ls' C hP hS (lvh_st (v := .int x) hl'))
theorem wa_istore {i : Nat} {x : Int32} (hd : decode k.2.1 pc = .ok (.istore i, 2)) (hi : i < k.2.2.1) (kk : WA k d Q (pc + 2) (stV lv i (.int x)) st μ) : WA k d Q pc lv (.int x :: st) μ :=
  fun G p l e s m args below meth c H locs ls C hP hS hl => lv_istore C.1 C.2.1 hd hl.has hi rfl (fun ls' hl' => kk G p l e s m args below meth c H locs ls' C hP hS (lvh_st (v := .int x) hl'))
theorem wa_lload_n {i : Fin 4} {x : Int64} (hd : decode k.2.1 pc = .ok (.lload_n i, 1)) (hx : lv[(i : Nat)]? = some (some (.long x))) (kk : WA k d Q (pc + 1) lv (.long x :: st) μ) : WA k d Q pc lv st μ :=
  fun G p l e s m args below meth c H locs ls C hP hS hl => lv_lload_n C.1 C.2.1 hd rfl (hl.at hx) (kk G p l e s m args below meth c H locs ls C hP hS hl)
theorem wa_lload {i : Nat} {x : Int64} (hd : decode k.2.1 pc = .ok (.lload i, 2)) (hx : lv[i]? = some (some (.long x))) (kk : WA k d Q (pc + 2) lv (.long x :: st) μ) : WA k d Q pc lv st μ :=
  fun G p l e s m args below meth c H locs ls C hP hS hl => lv_lload C.1 C.2.1 hd (hl.at hx) (kk G p l e s m args below meth c H locs ls C hP hS hl)
theorem wa_lstore_n {i : Fin 4} {x : Int64} (hd : decode k.2.1 pc = .ok (.lstore_n i, 1)) (hi : (i : Nat) + 1 < k.2.2.1) (kk : WA k d Q (pc + 1) (stW lv i (.long x)) st μ) : WA k d Q pc lv (.long x :: st) μ :=
  fun G p l e s m args below meth c H locs ls C hP hS hl => lv_lstore_n C.1 C.2.1 hd rfl hl.has hi rfl (fun ls' hl' => kk G p l e s m args below meth c H locs ls' C hP hS (lvh_sw (v := .long x) hl'))
theorem wa_lstore {i : Nat} {x : Int64} (hd : decode k.2.1 pc = .ok (.lstore i, 2)) (hi : i + 1 < k.2.2.1) (kk : WA k d Q (pc + 2) (stW lv i (.long x)) st μ) : WA k d Q pc lv (.long x :: st) μ :=
  fun G p l e s m args below meth c H locs ls C hP hS hl => lv_lstore C.1 C.2.1 hd hl.has hi rfl (fun ls' hl' => kk G p l e s m args below meth c H locs ls' C hP hS (lvh_sw (v := .long x) hl'))
theorem wa_aload_n {i : Fin 4} {x : Nat} (hd : decode k.2.1 pc = .ok (.aload_n i, 1)) (hx : lv[(i : Nat)]? = some (some (.ref x))) (kk : WA k d Q (pc + 1) lv (.ref x :: st) μ) : WA k d Q pc lv st μ :=
  fun G p l e s m args below meth c H locs ls C hP hS hl => lv_aload_n C.1 C.2.1 hd rfl (hl.at hx) (kk G p l e s m args below meth c H locs ls C hP hS hl)
theorem wa_aload {i : Nat} {x : Nat} (hd : decode k.2.1 pc = .ok (.aload i, 2)) (hx : lv[i]? = some (some (.ref x))) (kk : WA k d Q (pc + 2) lv (.ref x :: st) μ) : WA k d Q pc lv st μ :=
  fun G p l e s m args below meth c H locs ls C hP hS hl => lv_aload C.1 C.2.1 hd (hl.at hx) (kk G p l e s m args below meth c H locs ls C hP hS hl)
theorem wa_astore_n {i : Fin 4} {x : Nat} (hd : decode k.2.1 pc = .ok (.astore_n i, 1)) (hi : (i : Nat) < k.2.2.1) (kk : WA k d Q (pc + 1) (stV lv i (.ref x)) st μ) : WA k d Q pc lv (.ref x :: st) μ :=
  fun G p l e s m args below meth c H locs ls C hP hS hl => lv_astore_n C.1 C.2.1 hd rfl hl.has hi rfl (fun ls' hl' => kk G p l e s m args below meth c H locs ls' C hP hS (lvh_st (v := .ref x) hl'))
theorem wa_astore {i : Nat} {x : Nat} (hd : decode k.2.1 pc = .ok (.astore i, 2)) (hi : i < k.2.2.1) (kk : WA k d Q (pc + 2) (stV lv i (.ref x)) st μ) : WA k d Q pc lv (.ref x :: st) μ :=
  fun G p l e s m args below meth c H locs ls C hP hS hl => lv_astore C.1 C.2.1 hd hl.has hi rfl (fun ls' hl' => kk G p l e s m args below meth c H locs ls' C hP hS (lvh_st (v := .ref x) hl'))
theorem wa_iinc {i : Nat} {n : Int} {x : Int32} (v : Int32) (hd : decode k.2.1 pc = .ok (.iinc i n, 3)) (hx : lv[i]? = some (some (.int x))) (hv : Int32.ofInt n = v) (hi : i < k.2.2.1) (kk : WA k d Q (pc + 3) (stV lv i (.int (x + v))) st μ) : WA k d Q pc lv st μ := by
  intro G p l e s m args below meth c H locs ls C hP hS hl
  obtain ⟨j, hj⟩ := List.getElem?_of_mem (aslF_mem (G := G) hx)
  exact lv_iinc C.1 C.2.1 hd hl.has (k := j) hj (by rw [hv]) hi rfl (fun ls' hl' => kk G p l e s m args below meth c H locs ls' C hP hS (lvh_st (v := .int (x + v)) hl'))
theorem wa_goto {off : Int} (tgt : Nat) (hd : decode k.2.1 pc = .ok (.goto off, 3)) (ht : (pc : Int) + off = (tgt : Int)) (kk : WA k d Q tgt lv st μ) : WA k d Q pc lv st μ :=
  fun G p l e s m args below meth c H locs ls C hP hS hl => lv_goto C.1 C.2.1 hd ht (kk G p l e s m args below meth c H locs ls C hP hS hl)
theorem wa_if_eq {x : Int32} {off : Int} (tgt : Nat) (hd : decode k.2.1 pc = .ok (.ifCond .eq off, 3)) (ht : (pc : Int) + off = (tgt : Int)) (kt : x.toInt = 0 → WA k d Q tgt lv st μ) (kf : ¬ x.toInt = 0 → WA k d Q (pc + 3) lv st μ) : WA k d Q pc lv (.int x :: st) μ :=
  fun G p l e s m args below meth c H locs ls C hP hS hl => lv_if_eq C.1 C.2.1 hd ht (fun hh => kt (by first | simpa only [Int32.eq_toInt, z32] using hh | simpa [Int32.eq_toInt, z32] using hh) G p l e s m args below meth c H locs ls C hP hS hl) (fun hh => kf (by first | simpa only [Int32.eq_toInt, z32] using hh | simpa [Int32.eq_toInt, z32] using hh) G p l e s m args below meth c H locs ls C hP hS hl)
theorem wa_if_eqT {x : Int32} {off : Int} (tgt : Nat) (hd : decode k.2.1 pc = .ok (.ifCond .eq off, 3)) (ht : (pc : Int) + off = (tgt : Int)) (h : x.toInt = 0) (kt : WA k d Q tgt lv st μ) : WA k d Q pc lv (.int x :: st) μ := wa_if_eq tgt hd ht (fun _ => kt) (fun hh => absurd h hh)
theorem wa_if_eqF {x : Int32} {off : Int} (tgt : Nat) (hd : decode k.2.1 pc = .ok (.ifCond .eq off, 3)) (ht : (pc : Int) + off = (tgt : Int)) (h : ¬ x.toInt = 0) (kf : WA k d Q (pc + 3) lv st μ) : WA k d Q pc lv (.int x :: st) μ := wa_if_eq tgt hd ht (fun hh => absurd hh h) (fun _ => kf)
theorem wa_ic_eq {x y : Int32} {off : Int} (tgt : Nat) (hd : decode k.2.1 pc = .ok (.if_icmp .eq off, 3)) (ht : (pc : Int) + off = (tgt : Int)) (kt : x.toInt = y.toInt → WA k d Q tgt lv st μ) (kf : ¬ x.toInt = y.toInt → WA k d Q (pc + 3) lv st μ) : WA k d Q pc lv (.int y :: .int x :: st) μ :=
  fun G p l e s m args below meth c H locs ls C hP hS hl => lv_icmp_eq C.1 C.2.1 hd ht (fun hh => kt (by first | simpa only [Int32.eq_toInt, z32] using hh | simpa [Int32.eq_toInt, z32] using hh) G p l e s m args below meth c H locs ls C hP hS hl) (fun hh => kf (by first | simpa only [Int32.eq_toInt, z32] using hh | simpa [Int32.eq_toInt, z32] using hh) G p l e s m args below meth c H locs ls C hP hS hl)
theorem wa_ic_eqT {x y : Int32} {off : Int} (tgt : Nat) (hd : decode k.2.1 pc = .ok (.if_icmp .eq off, 3)) (ht : (pc : Int) + off = (tgt : Int)) (h : x.toInt = y.toInt) (kt : WA k d Q tgt lv st μ) : WA k d Q pc lv (.int y :: .int x :: st) μ := wa_ic_eq tgt hd ht (fun _ => kt) (fun hh => absurd h hh)
theorem wa_ic_eqF {x y : Int32} {off : Int} (tgt : Nat) (hd : decode k.2.1 pc = .ok (.if_icmp .eq off, 3)) (ht : (pc : Int) + off = (tgt : Int)) (h : ¬ x.toInt = y.toInt) (kf : WA k d Q (pc + 3) lv st μ) : WA k d Q pc lv (.int y :: .int x :: st) μ := wa_ic_eq tgt hd ht (fun hh => absurd hh h) (fun _ => kf)
theorem wa_if_ne {x : Int32} {off : Int} (tgt : Nat) (hd : decode k.2.1 pc = .ok (.ifCond .ne off, 3)) (ht : (pc : Int) + off = (tgt : Int)) (kt : ¬ x.toInt = 0 → WA k d Q tgt lv st μ) (kf : ¬ ¬ x.toInt = 0 → WA k d Q (pc + 3) lv st μ) : WA k d Q pc lv (.int x :: st) μ :=
  fun G p l e s m args below meth c H locs ls C hP hS hl => lv_if_ne C.1 C.2.1 hd ht (fun hh => kt (by first | simpa only [Int32.eq_toInt, z32] using hh | simpa [Int32.eq_toInt, z32] using hh) G p l e s m args below meth c H locs ls C hP hS hl) (fun hh => kf (by first | simpa only [Int32.eq_toInt, z32] using hh | simpa [Int32.eq_toInt, z32] using hh) G p l e s m args below meth c H locs ls C hP hS hl)
theorem wa_if_neT {x : Int32} {off : Int} (tgt : Nat) (hd : decode k.2.1 pc = .ok (.ifCond .ne off, 3)) (ht : (pc : Int) + off = (tgt : Int)) (h : ¬ x.toInt = 0) (kt : WA k d Q tgt lv st μ) : WA k d Q pc lv (.int x :: st) μ := wa_if_ne tgt hd ht (fun _ => kt) (fun hh => absurd h hh)
theorem wa_if_neF {x : Int32} {off : Int} (tgt : Nat) (hd : decode k.2.1 pc = .ok (.ifCond .ne off, 3)) (ht : (pc : Int) + off = (tgt : Int)) (h : ¬ ¬ x.toInt = 0) (kf : WA k d Q (pc + 3) lv st μ) : WA k d Q pc lv (.int x :: st) μ := wa_if_ne tgt hd ht (fun hh => absurd hh h) (fun _ => kf)
theorem wa_ic_ne {x y : Int32} {off : Int} (tgt : Nat) (hd : decode k.2.1 pc = .ok (.if_icmp .ne off, 3)) (ht : (pc : Int) + off = (tgt : Int)) (kt : ¬ x.toInt = y.toInt → WA k d Q tgt lv st μ) (kf : ¬ ¬ x.toInt = y.toInt → WA k d Q (pc + 3) lv st μ) : WA k d Q pc lv (.int y :: .int x :: st) μ :=
  fun G p l e s m args below meth c H locs ls C hP hS hl => lv_icmp_ne C.1 C.2.1 hd ht (fun hh => kt (by first | simpa only [Int32.eq_toInt, z32] using hh | simpa [Int32.eq_toInt, z32] using hh) G p l e s m args below meth c H locs ls C hP hS hl) (fun hh => kf (by first | simpa only [Int32.eq_toInt, z32] using hh | simpa [Int32.eq_toInt, z32] using hh) G p l e s m args below meth c H locs ls C hP hS hl)
theorem wa_ic_neT {x y : Int32} {off : Int} (tgt : Nat) (hd : decode k.2.1 pc = .ok (.if_icmp .ne off, 3)) (ht : (pc : Int) + off = (tgt : Int)) (h : ¬ x.toInt = y.toInt) (kt : WA k d Q tgt lv st μ) : WA k d Q pc lv (.int y :: .int x :: st) μ := wa_ic_ne tgt hd ht (fun _ => kt) (fun hh => absurd h hh)
theorem wa_ic_neF {x y : Int32} {off : Int} (tgt : Nat) (hd : decode k.2.1 pc = .ok (.if_icmp .ne off, 3)) (ht : (pc : Int) + off = (tgt : Int)) (h : ¬ ¬ x.toInt = y.toInt) (kf : WA k d Q (pc + 3) lv st μ) : WA k d Q pc lv (.int y :: .int x :: st) μ := wa_ic_ne tgt hd ht (fun hh => absurd hh h) (fun _ => kf)
theorem wa_if_lt {x : Int32} {off : Int} (tgt : Nat) (hd : decode k.2.1 pc = .ok (.ifCond .lt off, 3)) (ht : (pc : Int) + off = (tgt : Int)) (kt : x.toInt < 0 → WA k d Q tgt lv st μ) (kf : ¬ x.toInt < 0 → WA k d Q (pc + 3) lv st μ) : WA k d Q pc lv (.int x :: st) μ :=
  fun G p l e s m args below meth c H locs ls C hP hS hl => lv_if_lt C.1 C.2.1 hd ht (fun hh => kt (by first | simpa only [Int32.lt_iff_toInt_lt, z32] using hh | simpa [Int32.lt_iff_toInt_lt, z32] using hh) G p l e s m args below meth c H locs ls C hP hS hl) (fun hh => kf (by first | simpa only [Int32.lt_iff_toInt_lt, z32] using hh | simpa [Int32.lt_iff_toInt_lt, z32] using hh) G p l e s m args below meth c H locs ls C hP hS hl)
theorem wa_if_ltT {x : Int32} {off : Int} (tgt : Nat) (hd : decode k.2.1 pc = .ok (.ifCond .lt off, 3)) (ht : (pc : Int) + off = (tgt : Int)) (h : x.toInt < 0) (kt : WA k d Q tgt lv st μ) : WA k d Q pc lv (.int x :: st) μ := wa_if_lt tgt hd ht (fun _ => kt) (fun hh => absurd h hh)
theorem wa_if_ltF {x : Int32} {off : Int} (tgt : Nat) (hd : decode k.2.1 pc = .ok (.ifCond .lt off, 3)) (ht : (pc : Int) + off = (tgt : Int)) (h : ¬ x.toInt < 0) (kf : WA k d Q (pc + 3) lv st μ) : WA k d Q pc lv (.int x :: st) μ := wa_if_lt tgt hd ht (fun hh => absurd hh h) (fun _ => kf)
theorem wa_ic_lt {x y : Int32} {off : Int} (tgt : Nat) (hd : decode k.2.1 pc = .ok (.if_icmp .lt off, 3)) (ht : (pc : Int) + off = (tgt : Int)) (kt : x.toInt < y.toInt → WA k d Q tgt lv st μ) (kf : ¬ x.toInt < y.toInt → WA k d Q (pc + 3) lv st μ) : WA k d Q pc lv (.int y :: .int x :: st) μ :=
  fun G p l e s m args below meth c H locs ls C hP hS hl => lv_icmp_lt C.1 C.2.1 hd ht (fun hh => kt (by first | simpa only [Int32.lt_iff_toInt_lt, z32] using hh | simpa [Int32.lt_iff_toInt_lt, z32] using hh) G p l e s m args below meth c H locs ls C hP hS hl) (fun hh => kf (by first | simpa only [Int32.lt_iff_toInt_lt, z32] using hh | simpa [Int32.lt_iff_toInt_lt, z32] using hh) G p l e s m args below meth c H locs ls C hP hS hl)
theorem wa_ic_ltT {x y : Int32} {off : Int} (tgt : Nat) (hd : decode k.2.1 pc = .ok (.if_icmp .lt off, 3)) (ht : (pc : Int) + off = (tgt : Int)) (h : x.toInt < y.toInt) (kt : WA k d Q tgt lv st μ) : WA k d Q pc lv (.int y :: .int x :: st) μ := wa_ic_lt tgt hd ht (fun _ => kt) (fun hh => absurd h hh)
theorem wa_ic_ltF {x y : Int32} {off : Int} (tgt : Nat) (hd : decode k.2.1 pc = .ok (.if_icmp .lt off, 3)) (ht : (pc : Int) + off = (tgt : Int)) (h : ¬ x.toInt < y.toInt) (kf : WA k d Q (pc + 3) lv st μ) : WA k d Q pc lv (.int y :: .int x :: st) μ := wa_ic_lt tgt hd ht (fun hh => absurd hh h) (fun _ => kf)
theorem wa_if_ge {x : Int32} {off : Int} (tgt : Nat) (hd : decode k.2.1 pc = .ok (.ifCond .ge off, 3)) (ht : (pc : Int) + off = (tgt : Int)) (kt : 0 ≤ x.toInt → WA k d Q tgt lv st μ) (kf : ¬ 0 ≤ x.toInt → WA k d Q (pc + 3) lv st μ) : WA k d Q pc lv (.int x :: st) μ :=
  fun G p l e s m args below meth c H locs ls C hP hS hl => lv_if_ge C.1 C.2.1 hd ht (fun hh => kt (by first | simpa only [Int32.le_iff_toInt_le, z32] using hh | simpa [Int32.le_iff_toInt_le, z32] using hh) G p l e s m args below meth c H locs ls C hP hS hl) (fun hh => kf (by first | simpa only [Int32.le_iff_toInt_le, z32] using hh | simpa [Int32.le_iff_toInt_le, z32] using hh) G p l e s m args below meth c H locs ls C hP hS hl)
theorem wa_if_geT {x : Int32} {off : Int} (tgt : Nat) (hd : decode k.2.1 pc = .ok (.ifCond .ge off, 3)) (ht : (pc : Int) + off = (tgt : Int)) (h : 0 ≤ x.toInt) (kt : WA k d Q tgt lv st μ) : WA k d Q pc lv (.int x :: st) μ := wa_if_ge tgt hd ht (fun _ => kt) (fun hh => absurd h hh)
theorem wa_if_geF {x : Int32} {off : Int} (tgt : Nat) (hd : decode k.2.1 pc = .ok (.ifCond .ge off, 3)) (ht : (pc : Int) + off = (tgt : Int)) (h : ¬ 0 ≤ x.toInt) (kf : WA k d Q (pc + 3) lv st μ) : WA k d Q pc lv (.int x :: st) μ := wa_if_ge tgt hd ht (fun hh => absurd hh h) (fun _ => kf)
theorem wa_ic_ge {x y : Int32} {off : Int} (tgt : Nat) (hd : decode k.2.1 pc = .ok (.if_icmp .ge off, 3)) (ht : (pc : Int) + off = (tgt : Int)) (kt : y.toInt ≤ x.toInt → WA k d Q tgt lv st μ) (kf : ¬ y.toInt ≤ x.toInt → WA k d Q (pc + 3) lv st μ) : WA k d Q pc lv (.int y :: .int x :: st) μ :=
  fun G p l e s m args below meth c H locs ls C hP hS hl => lv_icmp_ge C.1 C.2.1 hd ht (fun hh => kt (by first | simpa only [Int32.le_iff_toInt_le, z32] using hh | simpa [Int32.le_iff_toInt_le, z32] using hh) G p l e s m args below meth c H locs ls C hP hS hl) (fun hh => kf (by first | simpa only [Int32.le_iff_toInt_le, z32] using hh | simpa [Int32.le_iff_toInt_le, z32] using hh) G p l e s m args below meth c H locs ls C hP hS hl)
theorem wa_ic_geT {x y : Int32} {off : Int} (tgt : Nat) (hd : decode k.2.1 pc = .ok (.if_icmp .ge off, 3)) (ht : (pc : Int) + off = (tgt : Int)) (h : y.toInt ≤ x.toInt) (kt : WA k d Q tgt lv st μ) : WA k d Q pc lv (.int y :: .int x :: st) μ := wa_ic_ge tgt hd ht (fun _ => kt) (fun hh => absurd h hh)
theorem wa_ic_geF {x y : Int32} {off : Int} (tgt : Nat) (hd : decode k.2.1 pc = .ok (.if_icmp .ge off, 3)) (ht : (pc : Int) + off = (tgt : Int)) (h : ¬ y.toInt ≤ x.toInt) (kf : WA k d Q (pc + 3) lv st μ) : WA k d Q pc lv (.int y :: .int x :: st) μ := wa_ic_ge tgt hd ht (fun hh => absurd hh h) (fun _ => kf)
theorem wa_if_gt {x : Int32} {off : Int} (tgt : Nat) (hd : decode k.2.1 pc = .ok (.ifCond .gt off, 3)) (ht : (pc : Int) + off = (tgt : Int)) (kt : 0 < x.toInt → WA k d Q tgt lv st μ) (kf : ¬ 0 < x.toInt → WA k d Q (pc + 3) lv st μ) : WA k d Q pc lv (.int x :: st) μ :=
  fun G p l e s m args below meth c H locs ls C hP hS hl => lv_if_gt C.1 C.2.1 hd ht (fun hh => kt (by first | simpa only [Int32.lt_iff_toInt_lt, z32] using hh | simpa [Int32.lt_iff_toInt_lt, z32] using hh) G p l e s m args below meth c H locs ls C hP hS hl) (fun hh => kf (by first | simpa only [Int32.lt_iff_toInt_lt, z32] using hh | simpa [Int32.lt_iff_toInt_lt, z32] using hh) G p l e s m args below meth c H locs ls C hP hS hl)
theorem wa_if_gtT {x : Int32} {off : Int} (tgt : Nat) (hd : decode k.2.1 pc = .ok (.ifCond .gt off, 3)) (ht : (pc : Int) + off = (tgt : Int)) (h : 0 < x.toInt) (kt : WA k d Q tgt lv st μ) : WA k d Q pc lv (.int x :: st) μ := wa_if_gt tgt hd ht (fun _ => kt) (fun hh => absurd h hh)
theorem wa_if_gtF {x : Int32} {off : Int} (tgt : Nat) (hd : decode k.2.1 pc = .ok (.ifCond .gt off, 3)) (ht : (pc : Int) + off = (tgt : Int)) (h : ¬ 0 < x.toInt) (kf : WA k d Q (pc + 3) lv st μ) : WA k d Q pc lv (.int x :: st) μ := wa_if_gt tgt hd ht (fun hh => absurd hh h) (fun _ => kf)
theorem wa_ic_gt {x y : Int32} {off : Int} (tgt : Nat) (hd : decode k.2.1 pc = .ok (.if_icmp .gt off, 3)) (ht : (pc : Int) + off = (tgt : Int)) (kt : y.toInt < x.toInt → WA k d Q tgt lv st μ) (kf : ¬ y.toInt < x.toInt → WA k d Q (pc + 3) lv st μ) : WA k d Q pc lv (.int y :: .int x :: st) μ :=
  fun G p l e s m args below meth c H locs ls C hP hS hl => lv_icmp_gt C.1 C.2.1 hd ht (fun hh => kt (by first | simpa only [Int32.lt_iff_toInt_lt, z32] using hh | simpa [Int32.lt_iff_toInt_lt, z32] using hh) G p l e s m args below meth c H locs ls C hP hS hl) (fun hh => kf (by first | simpa only [Int32.lt_iff_toInt_lt, z32] using hh | simpa [Int32.lt_iff_toInt_lt, z32] using hh) G p l e s m args below meth c H locs ls C hP hS hl)
theorem wa_ic_gtT {x y : Int32} {off : Int} (tgt : Nat) (hd : decode k.2.1 pc = .ok (.if_icmp .gt off, 3)) (ht : (pc : Int) + off = (tgt : Int)) (h : y.toInt < x.toInt) (kt : WA k d Q tgt lv st μ) : WA k d Q pc lv (.int y :: .int x :: st) μ := wa_ic_gt tgt hd ht (fun _ => kt) (fun hh => absurd h hh)
theorem wa_ic_gtF {x y : Int32} {off : Int} (tgt : Nat) (hd : decode k.2.1 pc = .ok (.if_icmp .gt off, 3)) (ht : (pc : Int) + off = (tgt : Int)) (h : ¬ y.toInt < x.toInt) (kf : WA k d Q (pc + 3) lv st μ) : WA k d Q pc lv (.int y :: .int x :: st) μ := wa_ic_gt tgt hd ht (fun hh => absurd hh h) (fun _ => kf)
theorem wa_if_le {x : Int32} {off : Int} (tgt : Nat) (hd : decode k.2.1 pc = .ok (.ifCond .le off, 3)) (ht : (pc : Int) + off = (tgt : Int)) (kt : x.toInt ≤ 0 → WA k d Q tgt lv st μ) (kf : ¬ x.toInt ≤ 0 → WA k d Q (pc + 3) lv st μ) : WA k d Q pc lv (.int x :: st) μ :=
  fun G p l e s m args below meth c H locs ls C hP hS hl => lv_if_le C.1 C.2.1 hd ht (fun hh => kt (by first | simpa only [Int32.le_iff_toInt_le, z32] using hh | simpa [Int32.le_iff_toInt_le, z32] using hh) G p l e s m args below meth c H locs ls C hP hS hl) (fun hh => kf (by first | simpa only [Int32.le_iff_toInt_le, z32] using hh | simpa [Int32.le_iff_toInt_le, z32] using hh) G p l e s m args below meth c H locs ls C hP hS hl)
theorem wa_if_leT {x : Int32} {off : Int} (tgt : Nat) (hd : decode k.2.1 pc = .ok (.ifCond .le off, 3)) (ht : (pc : Int) + off = (tgt : Int)) (h : x.toInt ≤ 0) (kt : WA k d Q tgt lv st μ) : WA k d Q pc lv (.int x :: st) μ := wa_if_le tgt hd ht (fun _ => kt) (fun hh => absurd h hh)
theorem wa_if_leF {x : Int32} {off : Int} (tgt : Nat) (hd : decode k.2.1 pc = .ok (.ifCond .le off, 3)) (ht : (pc : Int) + off = (tgt : Int)) (h : ¬ x.toInt ≤ 0) (kf : WA k d Q (pc + 3) lv st μ) : WA k d Q pc lv (.int x :: st) μ := wa_if_le tgt hd ht (fun hh => absurd hh h) (fun _ => kf)
theorem wa_ic_le {x y : Int32} {off : Int} (tgt : Nat) (hd : decode k.2.1 pc = .ok (.if_icmp .le off, 3)) (ht : (pc : Int) + off = (tgt : Int)) (kt : x.toInt ≤ y.toInt → WA k d Q tgt lv st μ) (kf : ¬ x.toInt ≤ y.toInt → WA k d Q (pc + 3) lv st μ) : WA k d Q pc lv (.int y :: .int x :: st) μ :=
  fun G p l e s m args below meth c H locs ls C hP hS hl => lv_icmp_le C.1 C.2.1 hd ht (fun hh => kt (by first | simpa only [Int32.le_iff_toInt_le, z32] using hh | simpa [Int32.le_iff_toInt_le, z32] using hh) G p l e s m args below meth c H locs ls C hP hS hl) (fun hh => kf (by first | simpa only [Int32.le_iff_toInt_le, z32] using hh | simpa [Int32.le_iff_toInt_le, z32] using hh) G p l e s m args below meth c H locs ls C hP hS hl)
theorem wa_ic_leT {x y : Int32} {off : Int} (tgt : Nat) (hd : decode k.2.1 pc = .ok (.if_icmp .le off, 3)) (ht : (pc : Int) + off = (tgt : Int)) (h : x.toInt ≤ y.toInt) (kt : WA k d Q tgt lv st μ) : WA k d Q pc lv (.int y :: .int x :: st) μ := wa_ic_le tgt hd ht (fun _ => kt) (fun hh => absurd h hh)
theorem wa_ic_leF {x y : Int32} {off : Int} (tgt : Nat) (hd : decode k.2.1 pc = .ok (.if_icmp .le off, 3)) (ht : (pc : Int) + off = (tgt : Int)) (h : ¬ x.toInt ≤ y.toInt) (kf : WA k d Q (pc + 3) lv st μ) : WA k d Q pc lv (.int y :: .int x :: st) μ := wa_ic_le tgt hd ht (fun hh => absurd hh h) (fun _ => kf)
theorem lgc_lt (x y : Int64) : (lg_cmp x y).toInt < 0 ↔ x.toInt < y.toInt := by
  unfold lg_cmp
  simp only [gt_iff_lt, Int64.lt_iff_toInt_lt, ← Int64.toInt_inj]
  have a1 : (1 : Int32).toInt = 1 := by decide
  have a2 : (-1 : Int32).toInt = -1 := by decide
  repeat' split
  all_goals first | rw [a1] | rw [a2] | rw [z32]
  all_goals omega
theorem lgc_eq (x y : Int64) : (lg_cmp x y).toInt = 0 ↔ x.toInt = y.toInt := by
  unfold lg_cmp
  simp only [gt_iff_lt, Int64.lt_iff_toInt_lt, ← Int64.toInt_inj]
  have a1 : (1 : Int32).toInt = 1 := by decide
  have a2 : (-1 : Int32).toInt = -1 := by decide
  repeat' split
  all_goals first | rw [a1] | rw [a2] | rw [z32]
  all_goals omega
theorem lgc_gt (x y : Int64) : 0 < (lg_cmp x y).toInt ↔ y.toInt < x.toInt := by
  unfold lg_cmp
  simp only [gt_iff_lt, Int64.lt_iff_toInt_lt, ← Int64.toInt_inj]
  have a1 : (1 : Int32).toInt = 1 := by decide
  have a2 : (-1 : Int32).toInt = -1 := by decide
  repeat' split
  all_goals first | rw [a1] | rw [a2] | rw [z32]
  all_goals omega
theorem lgc_ge (x y : Int64) : 0 ≤ (lg_cmp x y).toInt ↔ y.toInt ≤ x.toInt := by
  have := lgc_lt x y
  omega
theorem lgc_le (x y : Int64) : (lg_cmp x y).toInt ≤ 0 ↔ x.toInt ≤ y.toInt := by
  have := lgc_gt x y
  omega
theorem wa_lc_eq {x y : Int64} {off : Int} (tgt : Nat) (hd : decode k.2.1 pc = .ok (.lcmp, 1)) (hd2 : decode k.2.1 (pc + 1) = .ok (.ifCond .eq off, 3)) (ht : ((pc + 1 : Nat) : Int) + off = (tgt : Int)) (kt : x.toInt = y.toInt → WA k d Q tgt lv st μ) (kf : ¬ x.toInt = y.toInt → WA k d Q (pc + 4) lv st μ) : WA k d Q pc lv (.long y :: .long x :: st) μ :=
  wa_lcmp hd (wa_if_eq tgt hd2 ht (fun hh => kt (by rw [lgc_eq] at hh; exact hh)) (fun hh => kf (by rw [lgc_eq] at hh; exact hh)))
theorem wa_lc_eqT {x y : Int64} {off : Int} (tgt : Nat) (hd : decode k.2.1 pc = .ok (.lcmp, 1)) (hd2 : decode k.2.1 (pc + 1) = .ok (.ifCond .eq off, 3)) (ht : ((pc + 1 : Nat) : Int) + off = (tgt : Int)) (h : x.toInt = y.toInt) (kt : WA k d Q tgt lv st μ) : WA k d Q pc lv (.long y :: .long x :: st) μ := wa_lc_eq tgt hd hd2 ht (fun _ => kt) (fun hh => absurd h hh)
theorem wa_lc_eqF {x y : Int64} {off : Int} (tgt : Nat) (hd : decode k.2.1 pc = .ok (.lcmp, 1)) (hd2 : decode k.2.1 (pc + 1) = .ok (.ifCond .eq off, 3)) (ht : ((pc + 1 : Nat) : Int) + off = (tgt : Int)) (h : ¬ x.toInt = y.toInt) (kf : WA k d Q (pc + 4) lv st μ) : WA k d Q pc lv (.long y :: .long x :: st) μ := wa_lc_eq tgt hd hd2 ht (fun hh => absurd hh h) (fun _ => kf)
theorem wa_lc_ne {x y : Int64} {off : Int} (tgt : Nat) (hd : decode k.2.1 pc = .ok (.lcmp, 1)) (hd2 : decode k.2.1 (pc + 1) = .ok (.ifCond .ne off, 3)) (ht : ((pc + 1 : Nat) : Int) + off = (tgt : Int)) (kt : ¬ x.toInt = y.toInt → WA k d Q tgt lv st μ) (kf : ¬ ¬ x.toInt = y.toInt → WA k d Q (pc + 4) lv st μ) : WA k d Q pc lv (.long y :: .long x :: st) μ :=
  wa_lcmp hd (wa_if_ne tgt hd2 ht (fun hh => kt (by rw [lgc_eq] at hh; exact hh)) (fun hh => kf (by rw [lgc_eq] at hh; exact hh)))
theorem wa_lc_neT {x y : Int64} {off : Int} (tgt : Nat) (hd : decode k.2.1 pc = .ok (.lcmp, 1)) (hd2 : decode k.2.1 (pc + 1) = .ok (.ifCond .ne off, 3)) (ht : ((pc + 1 : Nat) : Int) + off = (tgt : Int)) (h : ¬ x.toInt = y.toInt) (kt : WA k d Q tgt lv st μ) : WA k d Q pc lv (.long y :: .long x :: st) μ := wa_lc_ne tgt hd hd2 ht (fun _ => kt) (fun hh => absurd h hh)
theorem wa_lc_neF {x y : Int64} {off : Int} (tgt : Nat) (hd : decode k.2.1 pc = .ok (.lcmp, 1)) (hd2 : decode k.2.1 (pc + 1) = .ok (.ifCond .ne off, 3)) (ht : ((pc + 1 : Nat) : Int) + off = (tgt : Int)) (h : ¬ ¬ x.toInt = y.toInt) (kf : WA k d Q (pc + 4) lv st μ) : WA k d Q pc lv (.long y :: .long x :: st) μ := wa_lc_ne tgt hd hd2 ht (fun hh => absurd hh h) (fun _ => kf)
theorem wa_lc_lt {x y : Int64} {off : Int} (tgt : Nat) (hd : decode k.2.1 pc = .ok (.lcmp, 1)) (hd2 : decode k.2.1 (pc + 1) = .ok (.ifCond .lt off, 3)) (ht : ((pc + 1 : Nat) : Int) + off = (tgt : Int)) (kt : x.toInt < y.toInt → WA k d Q tgt lv st μ) (kf : ¬ x.toInt < y.toInt → WA k d Q (pc + 4) lv st μ) : WA k d Q pc lv (.long y :: .long x :: st) μ :=
  wa_lcmp hd (wa_if_lt tgt hd2 ht (fun hh => kt (by rw [lgc_lt] at hh; exact hh)) (fun hh => kf (by rw [lgc_lt] at hh; exact hh)))
theorem wa_lc_ltT {x y : Int64} {off : Int} (tgt : Nat) (hd : decode k.2.1 pc = .ok (.lcmp, 1)) (hd2 : decode k.2.1 (pc + 1) = .ok (.ifCond .lt off, 3)) (ht : ((pc + 1 : Nat) : Int) + off = (tgt : Int)) (h : x.toInt < y.toInt) (kt : WA k d Q tgt lv st μ) : WA k d Q pc lv (.long y :: .long x :: st) μ := wa_lc_lt tgt hd hd2 ht (fun _ => kt) (fun hh => absurd h hh)
theorem wa_lc_ltF {x y : Int64} {off : Int} (tgt : Nat) (hd : decode k.2.1 pc = .ok (.lcmp, 1)) (hd2 : decode k.2.1 (pc + 1) = .ok (.ifCond .lt off, 3)) (ht : ((pc + 1 : Nat) : Int) + off = (tgt : Int)) (h : ¬ x.toInt < y.toInt) (kf : WA k d Q (pc + 4) lv st μ) : WA k d Q pc lv (.long y :: .long x :: st) μ := wa_lc_lt tgt hd hd2 ht (fun hh => absurd hh h) (fun _ => kf)
theorem wa_lc_ge {x y : Int64} {off : Int} (tgt : Nat) (hd : decode k.2.1 pc = .ok (.lcmp, 1)) (hd2 : decode k.2.1 (pc + 1) = .ok (.ifCond .ge off, 3)) (ht : ((pc + 1 : Nat) : Int) + off = (tgt : Int)) (kt : y.toInt ≤ x.toInt → WA k d Q tgt lv st μ) (kf : ¬ y.toInt ≤ x.toInt → WA k d Q (pc + 4) lv st μ) : WA k d Q pc lv (.long y :: .long x :: st) μ :=
  wa_lcmp hd (wa_if_ge tgt hd2 ht (fun hh => kt (by rw [lgc_ge] at hh; exact hh)) (fun hh => kf (by rw [lgc_ge] at hh; exact hh)))
theorem wa_lc_geT {x y : Int64} {off : Int} (tgt : Nat) (hd : decode k.2.1 pc = .ok (.lcmp, 1)) (hd2 : decode k.2.1 (pc + 1) = .ok (.ifCond .ge off, 3)) (ht : ((pc + 1 : Nat) : Int) + off = (tgt : Int)) (h : y.toInt ≤ x.toInt) (kt : WA k d Q tgt lv st μ) : WA k d Q pc lv (.long y :: .long x :: st) μ := wa_lc_ge tgt hd hd2 ht (fun _ => kt) (fun hh => absurd h hh)
theorem wa_lc_geF {x y : Int64} {off : Int} (tgt : Nat) (hd : decode k.2.1 pc = .ok (.lcmp, 1)) (hd2 : decode k.2.1 (pc + 1) = .ok (.ifCond .ge off, 3)) (ht : ((pc + 1 : Nat) : Int) + off = (tgt : Int)) (h : ¬ y.toInt ≤ x.toInt) (kf : WA k d Q (pc + 4) lv st μ) : WA k d Q pc lv (.long y :: .long x :: st) μ := wa_lc_ge tgt hd hd2 ht (fun hh => absurd hh h) (fun _ => kf)
theorem wa_lc_gt {x y : Int64} {off : Int} (tgt : Nat) (hd : decode k.2.1 pc = .ok (.lcmp, 1)) (hd2 : decode k.2.1 (pc + 1) = .ok (.ifCond .gt off, 3)) (ht : ((pc + 1 : Nat) : Int) + off = (tgt : Int)) (kt : y.toInt < x.toInt → WA k d Q tgt lv st μ) (kf : ¬ y.toInt < x.toInt → WA k d Q (pc + 4) lv st μ) : WA k d Q pc lv (.long y :: .long x :: st) μ :=
  wa_lcmp hd (wa_if_gt tgt hd2 ht (fun hh => kt (by rw [lgc_gt] at hh; exact hh)) (fun hh => kf (by rw [lgc_gt] at hh; exact hh)))
theorem wa_lc_gtT {x y : Int64} {off : Int} (tgt : Nat) (hd : decode k.2.1 pc = .ok (.lcmp, 1)) (hd2 : decode k.2.1 (pc + 1) = .ok (.ifCond .gt off, 3)) (ht : ((pc + 1 : Nat) : Int) + off = (tgt : Int)) (h : y.toInt < x.toInt) (kt : WA k d Q tgt lv st μ) : WA k d Q pc lv (.long y :: .long x :: st) μ := wa_lc_gt tgt hd hd2 ht (fun _ => kt) (fun hh => absurd h hh)
theorem wa_lc_gtF {x y : Int64} {off : Int} (tgt : Nat) (hd : decode k.2.1 pc = .ok (.lcmp, 1)) (hd2 : decode k.2.1 (pc + 1) = .ok (.ifCond .gt off, 3)) (ht : ((pc + 1 : Nat) : Int) + off = (tgt : Int)) (h : ¬ y.toInt < x.toInt) (kf : WA k d Q (pc + 4) lv st μ) : WA k d Q pc lv (.long y :: .long x :: st) μ := wa_lc_gt tgt hd hd2 ht (fun hh => absurd hh h) (fun _ => kf)
theorem wa_lc_le {x y : Int64} {off : Int} (tgt : Nat) (hd : decode k.2.1 pc = .ok (.lcmp, 1)) (hd2 : decode k.2.1 (pc + 1) = .ok (.ifCond .le off, 3)) (ht : ((pc + 1 : Nat) : Int) + off = (tgt : Int)) (kt : x.toInt ≤ y.toInt → WA k d Q tgt lv st μ) (kf : ¬ x.toInt ≤ y.toInt → WA k d Q (pc + 4) lv st μ) : WA k d Q pc lv (.long y :: .long x :: st) μ :=
  wa_lcmp hd (wa_if_le tgt hd2 ht (fun hh => kt (by rw [lgc_le] at hh; exact hh)) (fun hh => kf (by rw [lgc_le] at hh; exact hh)))
theorem wa_lc_leT {x y : Int64} {off : Int} (tgt : Nat) (hd : decode k.2.1 pc = .ok (.lcmp, 1)) (hd2 : decode k.2.1 (pc + 1) = .ok (.ifCond .le off, 3)) (ht : ((pc + 1 : Nat) : Int) + off = (tgt : Int)) (h : x.toInt ≤ y.toInt) (kt : WA k d Q tgt lv st μ) : WA k d Q pc lv (.long y :: .long x :: st) μ := wa_lc_le tgt hd hd2 ht (fun _ => kt) (fun hh => absurd h hh)
theorem wa_lc_leF {x y : Int64} {off : Int} (tgt : Nat) (hd : decode k.2.1 pc = .ok (.lcmp, 1)) (hd2 : decode k.2.1 (pc + 1) = .ok (.ifCond .le off, 3)) (ht : ((pc + 1 : Nat) : Int) + off = (tgt : Int)) (h : ¬ x.toInt ≤ y.toInt) (kf : WA k d Q (pc + 4) lv st μ) : WA k d Q pc lv (.long y :: .long x :: st) μ := wa_lc_le tgt hd hd2 ht (fun hh => absurd hh h) (fun _ => kf)
theorem wa_tsO {x : Int32} {dflt lo hi : Int} {offs : Array Int} {len : Nat} (tgt : Nat) (hd : decode k.2.1 pc = .ok (.tableswitch dflt lo hi offs, len)) (h : x.toInt < lo ∨ hi < x.toInt) (ht : (pc : Int) + dflt = (tgt : Int)) (kk : WA k d Q tgt lv st μ) : WA k d Q pc lv (.int x :: st) μ :=
  fun G p l e s m args below meth c H locs ls C hP hS hl => lv_tableOut C.1 C.2.1 hd h ht (kk G p l e s m args below meth c H locs ls C hP hS hl)
theorem wa_tsI {x : Int32} {dflt lo hi : Int} {offs : Array Int} {len : Nat} {off : Int} (tgt : Nat) (v : Int) (hd : decode k.2.1 pc = .ok (.tableswitch dflt lo hi offs, len)) (hv : x.toInt = v) (h1 : ¬ v < lo) (h2 : ¬ hi < v) (ho : offs[(v - lo).toNat]? = some off) (ht : (pc : Int) + off = (tgt : Int)) (kk : WA k d Q tgt lv st μ) : WA k d Q pc lv (.int x :: st) μ :=
  fun G p l e s m args below meth c H locs ls C hP hS hl => lv_tableIn C.1 C.2.1 hd (by rw [hv]; exact h1) (by rw [hv]; exact h2) (by rw [hv]; exact ho) ht (kk G p l e s m args below meth c H locs ls C hP hS hl)
theorem wa_ls {x : Int32} {dflt : Int} {ps : Array (Int × Int)} {len : Nat} {off : Int} (tgt : Nat) (hd : decode k.2.1 pc = .ok (.lookupswitch dflt ps, len)) (hp : (ps.toList.zip (ps.toList.drop 1)).all (fun (a, next) => a.1 < next.1) = true) (ho : Op.lookupswitch.offset ps.toList dflt x.toInt = off) (ht : (pc : Int) + off = (tgt : Int)) (kk : WA k d Q tgt lv st μ) : WA k d Q pc lv (.int x :: st) μ :=
  fun G p l e s m args below meth c H locs ls C hP hS hl => lv_lookup C.1 C.2.1 hd hp ho ht (kk G p l e s m args below meth c H locs ls C hP hS hl)
theorem wa_iret {x : Int32} {lvx : List (Option Value)} (hd : decode k.2.1 pc = .ok (.ireturn, 1)) (hr : k.2.2.2 = some .int) (hq : Q (some (.int x)) μ) : WA k d Q pc lvx [.int x] μ :=
  fun G p l e s m args below meth c H locs ls C hP hS hl => W.iret (v := x) C.1 C.2.1 (C.2.2.1.trans hr) (fun t ht hW => ⟨⟨some (.int x), μ, rfl, ⟨hq, by rw [hr]; exact ⟨x, rfl⟩⟩, by rw [ht]; exact hP⟩, hS.F ht⟩) hS.2.2 hd C.2.2.2.2.2.1
theorem wa_zret {x : Int32} {lvx : List (Option Value)} (hd : decode k.2.1 pc = .ok (.ireturn, 1)) (hr : k.2.2.2 = some .boolean) (hx : x &&& 1 = x) (hq : Q (some (.int x)) μ) : WA k d Q pc lvx [.int x] μ :=
  fun G p l e s m args below meth c H locs ls C hP hS hl => W.zret (v := x) C.1 C.2.1 (C.2.2.1.trans hr) (by show Value.int (x &&& 1) = _; rw [hx]) (fun t ht hW => ⟨⟨some (.int x), μ, rfl, ⟨hq, by rw [hr]; exact trivial⟩, by rw [ht]; exact hP⟩, hS.F ht⟩) hS.2.2 hd C.2.2.2.2.2.1
theorem wa_lret {x : Int64} {lvx : List (Option Value)} (hd : decode k.2.1 pc = .ok (.lreturn, 1)) (hr : k.2.2.2 = some .long) (hq : Q (some (.long x)) μ) : WA k d Q pc lvx [.long x] μ :=
  fun G p l e s m args below meth c H locs ls C hP hS hl => W.lret (v := x) C.1 C.2.1 (C.2.2.1.trans hr) (fun t ht hW => ⟨⟨some (.long x), μ, rfl, ⟨hq, by rw [hr]; exact ⟨x, rfl⟩⟩, by rw [ht]; exact hP⟩, hS.F ht⟩) hS.2.2 hd C.2.2.2.2.2.1
theorem wa_vret {lvx : List (Option Value)} (hd : decode k.2.1 pc = .ok (.return_, 1)) (hr : k.2.2.2 = none) (hq : Q none μ) : WA k d Q pc lvx [] μ :=
  fun G p l e s m args below meth c H locs ls C hP hS hl => W.vret C.1 C.2.1 (C.2.2.1.trans hr) (fun t ht hW => ⟨⟨none, μ, rfl, ⟨hq, by rw [hr]; exact trivial⟩, by rw [ht]; exact hP⟩, hS.F ht⟩) hS.2.2 hd C.2.2.2.2.2.1
/-- a field's words: read; written -/
def fG (own : String) (idx ci j : Nat) : Prop := ∃ (C : String) (T : u_T) (N : Nat), vwCl[ci]? = some (C, T, N) ∧ (∀ w ∈ u_ws C T N, w ∈ wT) ∧ j < N ∧ Cond.fieldLink own idx (T j).1 (T j).2.1 (T j).2.2.1 ∈ wT
def fW (ci j : Nat) (ty : FieldType) : Prop := ∃ (C : String) (T : u_T) (N : Nat) (ty0 : Nat → FieldType), vwCl[ci]? = some (C, T, N) ∧ (∀ i, i < N → parseFieldDescriptor (T i).2.2.1 = some (ty0 i)) ∧ (∀ a, a < N → ∀ b, b < N → a ≠ b → (T a).2.1 ≠ (T b).2.1) ∧ (T j).2.2.2 = false ∧ parseFieldDescriptor (T j).2.2.1 = some ty
theorem wa_getI {t ci j idx : Nat} {sl : List Value} {z : Int32} (hd : decode k.2.1 pc = .ok (.getfield idx, 3)) (hf : fG k.1.cls idx ci j) (hsh : shp t = .inr (ci, sl)) (hj : sl[j]? = some (.int z)) (kk : WA k d Q (pc + 3) lv (.int (μ.1 t j) :: st) μ) : WA k d Q pc lv (.ref t :: st) μ := by
  intro G p l e s m args below meth c H locs ls C hP hS hl
  obtain ⟨Cn, T, N, hc, hin, hjN, hlk⟩ := hf
  exact va_get (v := .int (μ.1 t j)) C.1 C.2.1 C.2.2.2.1 (fun w h => List.mem_cons_of_mem _ (hin w h)) C.2.2.2.2.1 C.2.2.2.2.2.2.2.2.1 hP t (ws_r hsh) hc j hjN (C.2.2.2.1 _ (List.mem_cons_of_mem _ hlk)) (fun _ h => h) (fsOf_get hj) hd (kk G p l e s m args below meth c H locs ls C hP hS hl)
theorem wa_getL {t ci j idx : Nat} {sl : List Value} {z : Int64} (hd : decode k.2.1 pc = .ok (.getfield idx, 3)) (hf : fG k.1.cls idx ci j) (hsh : shp t = .inr (ci, sl)) (hj : sl[j]? = some (.long z)) (kk : WA k d Q (pc + 3) lv (.long (μ.2 t j) :: st) μ) : WA k d Q pc lv (.ref t :: st) μ := by
  intro G p l e s m args below meth c H locs ls C hP hS hl
  obtain ⟨Cn, T, N, hc, hin, hjN, hlk⟩ := hf
  exact va_get (v := .long (μ.2 t j)) C.1 C.2.1 C.2.2.2.1 (fun w h => List.mem_cons_of_mem _ (hin w h)) C.2.2.2.2.1 C.2.2.2.2.2.2.2.2.1 hP t (ws_r hsh) hc j hjN (C.2.2.2.1 _ (List.mem_cons_of_mem _ hlk)) (fun _ h => h) (fsOf_get hj) hd (kk G p l e s m args below meth c H locs ls C hP hS hl)
theorem wa_getR {t ci j idx u : Nat} {sl : List Value} (hd : decode k.2.1 pc = .ok (.getfield idx, 3)) (hf : fG k.1.cls idx ci j) (hsh : shp t = .inr (ci, sl)) (hj : sl[j]? = some (.ref u)) (kk : WA k d Q (pc + 3) lv (.ref u :: st) μ) : WA k d Q pc lv (.ref t :: st) μ := by
  intro G p l e s m args below meth c H locs ls C hP hS hl
  obtain ⟨Cn, T, N, hc, hin, hjN, hlk⟩ := hf
  exact va_get (v := .ref (G.2.1 u)) C.1 C.2.1 C.2.2.2.1 (fun w h => List.mem_cons_of_mem _ (hin w h)) C.2.2.2.2.1 C.2.2.2.2.2.2.2.2.1 hP t (ws_r hsh) hc j hjN (C.2.2.2.1 _ (List.mem_cons_of_mem _ hlk)) (fun _ h => h) (fsOf_get hj) hd (kk G p l e s m args below meth c H locs ls C hP hS hl)
theorem wa_putX {t ci j idx : Nat} {sl : List Value} {x z : Int32} {ty : FieldType} (hd : decode k.2.1 pc = .ok (.putfield idx, 3)) (hf : fG k.1.cls idx ci j) (hw : fW ci j ty) (hn : narrow ty (.int x) = .int x) (hfit : fits ty (.int x) = true) (hsh : shp t = .inr (ci, sl)) (hj : sl[j]? = some (.int z)) (kk : WA k d Q (pc + 3) lv st (sI μ t j x)) : WA k d Q pc lv (.int x :: .ref t :: st) μ := by
  intro G p l e s m args below meth c H locs ls C hP hS hl
  obtain ⟨Cn, T, N, hc, hin, hjN, hlk⟩ := hf
  obtain ⟨Cn', T', N', ty0, hc', hty, hnm, hfin, hpt⟩ := hw
  cases hc.symm.trans hc'
  refine va_put (v := .int x) (ty := ty) C.1 C.2.1 C.2.2.2.1 (fun w h => List.mem_cons_of_mem _ (hin w h)) ty0 hty hnm C.2.2.2.2.1 C.2.2.2.2.2.2.2.2.1 hP C.2.2.2.2.2.2.2.1.D hS t (ws_r hsh) hc j hjN (C.2.2.2.1 _ (List.mem_cons_of_mem _ hlk)) (fun _ h => h) hfin hpt hn hfit (by rw [fsOf_len]; exact (List.getElem?_eq_some_iff.mp hj).1) hd (fun H1 locs1 hP1 _ hS1 => ?_)
  rw [ws_setI hsh hj] at hP1
  exact kk G p l e s m args below meth c H1 locs1 ls C hP1 hS1 hl
theorem wa_putI {t ci j idx : Nat} {sl : List Value} {x z : Int32} (hd : decode k.2.1 pc = .ok (.putfield idx, 3)) (hf : fG k.1.cls idx ci j) (hw : fW ci j .int) (hsh : shp t = .inr (ci, sl)) (hj : sl[j]? = some (.int z)) (kk : WA k d Q (pc + 3) lv st (sI μ t j x)) : WA k d Q pc lv (.int x :: .ref t :: st) μ := wa_putX hd hf hw rfl rfl hsh hj kk
theorem wa_putZ {t ci j idx : Nat} {sl : List Value} {x z : Int32} (hd : decode k.2.1 pc = .ok (.putfield idx, 3)) (hf : fG k.1.cls idx ci j) (hw : fW ci j .boolean) (hsh : shp t = .inr (ci, sl)) (hj : sl[j]? = some (.int z)) (hx : x = nI 0 ∨ x = nI 1) (kk : WA k d Q (pc + 3) lv st (sI μ t j x)) : WA k d Q pc lv (.int x :: .ref t :: st) μ := by
  refine wa_putX hd hf hw ?_ ?_ hsh hj kk <;> rcases hx with rfl | rfl <;> rfl
theorem wa_putL {t ci j idx : Nat} {sl : List Value} {x z : Int64} (hd : decode k.2.1 pc = .ok (.putfield idx, 3)) (hf : fG k.1.cls idx ci j) (hw : fW ci j .long) (hsh : shp t = .inr (ci, sl)) (hj : sl[j]? = some (.long z)) (kk : WA k d Q (pc + 3) lv st (sL μ t j x)) : WA k d Q pc lv (.long x :: .ref t :: st) μ := by
  intro G p l e s m args below meth c H locs ls C hP hS hl
  obtain ⟨Cn, T, N, hc, hin, hjN, hlk⟩ := hf
  obtain ⟨Cn', T', N', ty0, hc', hty, hnm, hfin, hpt⟩ := hw
  cases hc.symm.trans hc'
  refine va_put (v := .long x) (ty := .long) C.1 C.2.1 C.2.2.2.1 (fun w h => List.mem_cons_of_mem _ (hin w h)) ty0 hty hnm C.2.2.2.2.1 C.2.2.2.2.2.2.2.2.1 hP C.2.2.2.2.2.2.2.1.D hS t (ws_r hsh) hc j hjN (C.2.2.2.1 _ (List.mem_cons_of_mem _ hlk)) (fun _ h => h) hfin hpt rfl rfl (by rw [fsOf_len]; exact (List.getElem?_eq_some_iff.mp hj).1) hd (fun H1 locs1 hP1 _ hS1 => ?_)
  rw [ws_setL hsh hj] at hP1
  exact kk G p l e s m args below meth c H1 locs1 ls C hP1 hS1 hl
theorem wa_iald {t n : Nat} {i : Int32} (j : Nat) (hd : decode k.2.1 pc = .ok (.iaload, 1)) (hsh : shp t = .inl (1, n)) (hi : i = nI j) (hj : j < n) (kk : WA k d Q (pc + 1) lv (.int (μ.1 t j) :: st) μ) : WA k d Q pc lv (.int i :: .ref t :: st) μ := by
  intro G p l e s m args below meth c H locs ls C hP hS hl
  have hn := shp_n hsh
  have e2 : (nI j).toNatClampNeg = j := nI_clamp (by omega)
  subst hi
  refine va_iald C.1 C.2.1 C.2.2.2.2.2.2.2.2.1 hP t 1 (ws_aI hsh (by omega)) rfl (vp_in_nI hj (by omega)) hd ?_
  rw [e2]
  exact kk G p l e s m args below meth c H locs ls C hP hS hl
theorem wa_zald {t n : Nat} {i : Int32} (j : Nat) (hd : decode k.2.1 pc = .ok (.baload, 1)) (hsh : shp t = .inl (0, n)) (hi : i = nI j) (hj : j < n) (kk : WA k d Q (pc + 1) lv (.int (μ.1 t j) :: st) μ) : WA k d Q pc lv (.int i :: .ref t :: st) μ := by
  intro G p l e s m args below meth c H locs ls C hP hS hl
  have hn := shp_n hsh
  have e2 : (nI j).toNatClampNeg = j := nI_clamp (by omega)
  subst hi
  refine va_zald C.1 C.2.1 C.2.2.2.2.2.2.2.2.1 hP t 0 (ws_aI hsh (by omega)) rfl (vp_in_nI hj (by omega)) hd ?_
  rw [e2]
  exact kk G p l e s m args below meth c H locs ls C hP hS hl
theorem wa_lald {t n : Nat} {i : Int32} (j : Nat) (hd : decode k.2.1 pc = .ok (.laload, 1)) (hsh : shp t = .inl (2, n)) (hi : i = nI j) (hj : j < n) (kk : WA k d Q (pc + 1) lv (.long (μ.2 t j) :: st) μ) : WA k d Q pc lv (.int i :: .ref t :: st) μ := by
  intro G p l e s m args below meth c H locs ls C hP hS hl
  have hn := shp_n hsh
  have e2 : (nI j).toNatClampNeg = j := nI_clamp (by omega)
  subst hi
  refine va_lald C.1 C.2.1 C.2.2.2.2.2.2.2.2.1 hP t 2 (ws_aL hsh) rfl (vp_in_nI hj (by omega)) hd ?_
  rw [e2]
  exact kk G p l e s m args below meth c H locs ls C hP hS hl
theorem wa_aalS {t n : Nat} {i : Int32} (j : Nat) (hd : decode k.2.1 pc = .ok (.aaload, 1)) (hsh : shp t = .inl (3, n)) (hi : i = nI j) (hj : j < n) (kk : WA k d Q (pc + 1) lv (.ref (arf t j) :: st) μ) : WA k d Q pc lv (.int i :: .ref t :: st) μ := by
  intro G p l e s m args below meth c H locs ls C hP hS hl
  have hn := shp_n hsh
  have e2 : (nI j).toNatClampNeg = j := nI_clamp (by omega)
  subst hi
  refine va_aldq C.1 C.2.1 C.2.2.2.2.2.2.2.2.1 hP t 3 (ws_aR hsh (by omega) (by omega)) rfl (vp_in_nI hj (by omega)) hd ?_
  rw [e2]
  exact kk G p l e s m args below meth c H locs ls C hP hS hl
theorem wa_aalR {t n : Nat} {i : Int32} (j : Nat) (hd : decode k.2.1 pc = .ok (.aaload, 1)) (hsh : shp t = .inl (4, n)) (hi : i = nI j) (hj : j < n) (kk : WA k d Q (pc + 1) lv (.ref (arf t j) :: st) μ) : WA k d Q pc lv (.int i :: .ref t :: st) μ := by
  intro G p l e s m args below meth c H locs ls C hP hS hl
  have hn := shp_n hsh
  have e2 : (nI j).toNatClampNeg = j := nI_clamp (by omega)
  subst hi
  refine va_aldq C.1 C.2.1 C.2.2.2.2.2.2.2.2.1 hP t 4 (ws_aR hsh (by omega) (by omega)) rfl (vp_in_nI hj (by omega)) hd ?_
  rw [e2]
  exact kk G p l e s m args below meth c H locs ls C hP hS hl
theorem wa_iast {t n : Nat} {i : Int32} {x : Int32} (j : Nat) (hd : decode k.2.1 pc = .ok (.iastore, 1)) (hsh : shp t = .inl (1, n)) (hi : i = nI j) (hj : j < n) (kk : WA k d Q (pc + 1) lv st (sI μ t j x)) : WA k d Q pc lv (.int x :: .int i :: .ref t :: st) μ := by
  intro G p l e s m args below meth c H locs ls C hP hS hl
  have hn := shp_n hsh
  have e2 : (nI j).toNatClampNeg = j := nI_clamp (by omega)
  subst hi
  refine va_iast C.1 C.2.1 C.2.2.2.2.2.2.2.2.1 hP C.2.2.2.2.2.2.2.1.D hS t 1 (ws_aI hsh (by omega)) rfl (vp_in_nI hj (by omega)) hd (fun H1 locs1 hP1 _ hS1 => ?_)
  rw [e2, ws_bI hsh (by omega), sI_bI] at hP1
  exact kk G p l e s m args below meth c H1 locs1 ls C hP1 hS1 hl
theorem wa_zast {t n : Nat} {i : Int32} {x : Int32} (j : Nat) (hd : decode k.2.1 pc = .ok (.bastore, 1)) (hsh : shp t = .inl (0, n)) (hi : i = nI j) (hj : j < n) (hx : x = nI 0 ∨ x = nI 1) (kk : WA k d Q (pc + 1) lv st (sI μ t j x)) : WA k d Q pc lv (.int x :: .int i :: .ref t :: st) μ := by
  intro G p l e s m args below meth c H locs ls C hP hS hl
  have hn := shp_n hsh
  have e2 : (nI j).toNatClampNeg = j := nI_clamp (by omega)
  subst hi
  refine va_zast C.1 C.2.1 C.2.2.2.2.2.2.2.2.1 hP C.2.2.2.2.2.2.2.1.D hS t 0 (ws_aI hsh (by omega)) rfl (vp_in_nI hj (by omega)) hd (fun H1 locs1 hP1 _ hS1 => ?_)
  rw [e2, show vp_nar .boolean x = x by rcases hx with rfl | rfl <;> rfl, ws_bI hsh (by omega), sI_bI] at hP1
  exact kk G p l e s m args below meth c H1 locs1 ls C hP1 hS1 hl
theorem wa_last {t n : Nat} {i : Int32} {x : Int64} (j : Nat) (hd : decode k.2.1 pc = .ok (.lastore, 1)) (hsh : shp t = .inl (2, n)) (hi : i = nI j) (hj : j < n) (kk : WA k d Q (pc + 1) lv st (sL μ t j x)) : WA k d Q pc lv (.long x :: .int i :: .ref t :: st) μ := by
  intro G p l e s m args below meth c H locs ls C hP hS hl
  have hn := shp_n hsh
  have e2 : (nI j).toNatClampNeg = j := nI_clamp (by omega)
  subst hi
  refine va_last C.1 C.2.1 C.2.2.2.2.2.2.2.2.1 hP C.2.2.2.2.2.2.2.1.D hS t 2 (ws_aL hsh) rfl (vp_in_nI hj (by omega)) hd (fun H1 locs1 hP1 _ hS1 => ?_)
  rw [e2, ws_bL hsh, sL_bL] at hP1
  exact kk G p l e s m args below meth c H1 locs1 ls C hP1 hS1 hl
theorem wa_alenI {t n : Nat} (hd : decode k.2.1 pc = .ok (.arraylength, 1)) (hsh : shp t = .inl (1, n)) (kk : WA k d Q (pc + 1) lv (.int (nI n) :: st) μ) : WA k d Q pc lv (.ref t :: st) μ := by
  intro G p l e s m args below meth c H locs ls C hP hS hl
  exact va_alen C.1 C.2.1 C.2.2.2.2.2.2.2.2.1 hP t 1 (ws_aI hsh (by omega)) rfl rfl hd (kk G p l e s m args below meth c H locs ls C hP hS hl)
/-- a call's words -/
def lkC (k' : MK) (n : Nat) : Prop := Cond.initialized k'.1.cls ∈ wT ∧ Cond.code k'.1 k'.2.1 k'.2.2.1 k'.2.2.2 ∈ wT ∧ k'.1.cls ≠ "java/lang/invoke/MethodHandle" ∧ k'.1.cls ≠ "java/lang/invoke/VarHandle" ∧ (parseMethodDescriptor k'.1.desc).map (fun q => q.parameters.length) = some n
def lkV (k' : MK) (n : Nat) : Prop := lkC k' n ∧ Cond.instanceMethod k'.1 ∈ wT ∧ Cond.selects k'.1.cls k'.1 k'.1 ∈ wT
def lkS (k' : MK) (n : Nat) : Prop := lkC k' n ∧ Cond.static k'.1 ∈ wT
theorem wT_good {w : Cond} (h : w ∈ wT) : (w.onTables && w.keeps) = true ∨ ∃ ty, w = .arrayClass ty := good_of_word (List.mem_filter.mp h).2
theorem wsM_good (h : Cond.code k'.1 k'.2.1 k'.2.2.1 k'.2.2.2 ∈ wT) : GoodIn (wsM k) (wsM k') := by
  intro w hw
  rcases List.mem_cons.mp hw with rfl | hw
  · exact ⟨List.mem_cons_of_mem _ h, wT_good h⟩
  · exact ⟨List.mem_cons_of_mem _ hw, wT_good hw⟩
theorem good_app {big a b : List Cond} (ha : ∀ w ∈ a, w ∈ wT) (hw : ∀ w ∈ wT, w ∈ big) (hb : GoodIn big b) : GoodIn big (a ++ b) := by
  intro w h
  rcases List.mem_append.mp h with h | h
  · exact ⟨hw w (ha w h), wT_good (ha w h)⟩
  · exact hb w h
theorem wa_run {G : WG} {p : Program} {l : Launch} {e : Env} {R : Room} {s : State} {m : MethodId} {args : Array Value} {below : List Frame} {meth : Method} {c : Code} {H : Heap} {locs : List Loc} {cells slots : Nat} {QQ : State → Prop} {ls : Array Slot} {st0 rest : List Value} {a : Array Value} {Q' : QM} {pc : Nat}
    (hr : va_Run p l e R s m args below meth c H locs cells slots 0 0 (F0 m pc ls st0) rest (wQ G Q' H.size a) (wA G H.size)) (hS : va_S (wA G s.heap.size) s.heap H locs)
    (kk : ∀ (r : Option Value) (μ' : Mem) (H1 : Heap) (locs1 : List Loc), Q' r μ' → wP G μ' H1 → va_S (wA G s.heap.size) s.heap H1 locs1 → W p l e R s m args below meth c H1 locs1 cells slots QQ (F0 m (pc + 3) ls ((r.map (trV G)).toList ++ rest))) : W p l e R s m args below meth c H locs cells slots QQ (F0 m pc ls st0) := by
  intro T hT X
  obtain ⟨v, st₀, t, T', L, h0, X', hL, e1, e2, ⟨⟨r, μ', hv, hq, hp⟩, hz, hk⟩, st⟩ := hr T hT X
  cases hv
  rw [h0] at hz hk
  have hm : ∀ q, wA G H.size q → wA G s.heap.size q := fun q h => wA_mono hS.1 h
  obtain ⟨t2, a1, b1⟩ := kk r μ' T'.heap (locs ++ L) hq (by rw [e1]; exact hp)
    ⟨Nat.le_trans hS.1 (by rw [e1]; exact hz), fun q h1 h2 => by rw [e1, hk q (Nat.lt_of_lt_of_le h1 hS.1) (fun z => h2 (hm q z))]; exact hS.2.1 q h1 h2, fun q hq => by
      rcases List.mem_append.mp hq with h | h
      · exact hS.2.2 q h
      · exact hm _ (hL q h)⟩ T' rfl X'
  exact ⟨t2, st t2 a1, b1⟩
theorem toL_map (G : WG) (r : Option Value) (rest : List Value) : (r.map (trV G)).toList ++ rest.map (trV G) = (r.toList ++ rest).map (trV G) := by cases r <;> rfl
def catS : List Value → Nat
  | [] => 0
  | v :: vs => v.category + catS vs
theorem catS_eq (G : WG) : ∀ (vs : List Value), ((vs.map (trV G)).map fun v => v.category).sum = catS vs
  | [] => rfl
  | v :: vs => by
    have := catS_eq G vs
    simp only [List.map_cons, List.sum_cons, trV_cat, catS]
    omega
theorem blind_pc {G : WG} {vs : List Value} {sz : Nat} : FrameBlind (va_Pc (vs.map (trV G)) (fun U => U.heap.size = sz ∧ wP G μ U.heap ∧ wK G U)) := fun a U g mk q => by
  obtain ⟨q0, q1, q2, q3⟩ := q
  exact ⟨q0, q1, q2, q3.calling⟩
theorem wa_callV {t ci n idx : Nat} {as rest : List Value} {sl : List Value} {stk : List Value} (hd : decode k.2.1 pc = .ok (.invokevirtual idx, 3)) (hlink : Cond.methodLink k.1.cls idx k'.1 ∈ wT) (hk : lkV k' n) (hsh : shp t = .inr (ci, sl)) (hcl : (vwCl[ci]?).map (fun q => q.1) = some k'.1.cls) (hml : k'.2.2.1 ≤ 21) (hdd : d' + 1 ≤ d) (hst : stk = as.reverse ++ .ref t :: rest) (hlen : as.length = n) (hcat : catS rest ≤ 8) (hM : MW k' d' (.ref t :: as) μ (fun r μ' => WA k d Q (pc + 3) lv (r.toList ++ rest) μ')) : WA k d Q pc lv stk μ := by
  intro G p l e s m args below meth c H locs ls C hP hS hl
  obtain ⟨⟨h1, h2, h3, h4, h5⟩, h6, h7⟩ := hk
  have hts := C.2.2.2.1
  have hK := C.2.2.2.2.2.2.2.2
  subst hst
  have hbig : ∀ w ∈ wT, w ∈ wsM k := fun w h => List.mem_cons_of_mem _ h
  have hG : GoodIn (wsM k) (wsV k.1.cls idx k'.1.cls k'.1 (wsM k')) := good_app (fun w hw => by
    simp only [List.mem_cons, List.not_mem_nil, or_false] at hw
    rcases hw with rfl | rfl | rfl | rfl <;> assumption) hbig (wsM_good h2)
  obtain ⟨qc, hqc, hqn⟩ : ∃ qc : vw_C, vwCl[ci]? = some qc ∧ qc.1 = k'.1.cls := by
    cases hv : vwCl[ci]? with
    | none => rw [hv] at hcl; cases hcl
    | some qc => rw [hv] at hcl; exact ⟨qc, rfl, Option.some.inj hcl⟩
  have hrun := va_runV (l := l) (e := e) (below := below) (meth := meth) (locs := locs) (cells := 0) (slots := 0) (R := rmD d) (ret := k'.2.2.2) (As := as.map (trV G)) (rest := rest.map (trV G)) (g := F0 m pc ls ((as.reverse ++ .ref t :: rest).map (trV G))) (b := G.2.1 t) ⟨C.1, C.2.1, C.2.2.2.2.2.2.1, C.2.2.2.2.1, hts⟩ (hM l G H.size C.2.2.2.2.2.2.2.1)
    (cwV n hts hG rfl rfl rfl ⟨rfl, h3, h4, h5⟩ ⟨hdd, by show 8 + (k'.2.2.1 + 11) + 40 * d' ≤ 40 * d; omega⟩)
    ⟨blind_pc, by have := va_recv hK.1 hP hqc (ws_r hsh); rw [hqn] at this; exact this, fun U hU hW => ⟨rfl, by rw [hU], by rw [hU]; exact hP, hK.warm hW⟩⟩
    rfl (by rw [List.length_map]; exact hlen) hl.1 (by simp [trV]) (lv_room (by rw [catS_eq]; exact hcat)) hd ⟨Nat.zero_le _, Nat.zero_le _⟩
  refine wa_run hrun hS (fun r μ' H1 locs1 hq hP1 hS1 => ?_)
  rw [toL_map]
  exact hq.1 G p l e s m args below meth c H1 locs1 ls C hP1 hS1 hl
theorem wa_callS {n idx : Nat} {as rest : List Value} {stk : List Value} (hd : decode k.2.1 pc = .ok (.invokestatic idx, 3)) (hlink : Cond.methodLink k.1.cls idx k'.1 ∈ wT) (hk : lkS k' n) (hml : k'.2.2.1 ≤ 21) (hdd : d' + 1 ≤ d) (hst : stk = as.reverse ++ rest) (hlen : as.length = n) (hcat : catS rest ≤ 8) (hM : MW k' d' as μ (fun r μ' => WA k d Q (pc + 3) lv (r.toList ++ rest) μ')) : WA k d Q pc lv stk μ := by
  intro G p l e s m args below meth c H locs ls C hP hS hl
  obtain ⟨⟨h1, h2, h3, h4, h5⟩, h6⟩ := hk
  have hts := C.2.2.2.1
  have hK := C.2.2.2.2.2.2.2.2
  subst hst
  have hbig : ∀ w ∈ wT, w ∈ wsM k := fun w h => List.mem_cons_of_mem _ h
  have hG : GoodIn (wsM k) (va_wsS k.1.cls idx k'.1 (wsM k')) := good_app (fun w hw => by
    simp only [List.mem_cons, List.not_mem_nil, or_false] at hw
    rcases hw with rfl | rfl | rfl <;> assumption) hbig (wsM_good h2)
  have hrun := va_runS (l := l) (e := e) (below := below) (meth := meth) (locs := locs) (cells := 0) (slots := 0) (R := rmD d) (ret := k'.2.2.2) (As := as.map (trV G)) (rest := rest.map (trV G)) (g := F0 m pc ls ((as.reverse ++ rest).map (trV G))) ⟨C.1, C.2.1, C.2.2.2.2.2.2.1, C.2.2.2.2.1, hts⟩ (hM l G H.size C.2.2.2.2.2.2.2.1)
    (va_cwS n hts hG rfl rfl rfl ⟨h3, h4, h5⟩ ⟨hdd, by show 8 + (k'.2.2.1 + 11) + 40 * d' ≤ 40 * d; omega⟩)
    ⟨blind_pc, fun U hU hW => ⟨rfl, by rw [hU], by rw [hU]; exact hP, hK.warm hW⟩⟩
    rfl (by rw [List.length_map]; exact hlen) hl.1 (by simp) (lv_room (by rw [catS_eq]; exact hcat)) hd ⟨Nat.zero_le _, Nat.zero_le _⟩
  refine wa_run hrun hS (fun r μ' H1 locs1 hq hP1 hS1 => ?_)
  rw [toL_map]
  exact hq.1 G p l e s m args below meth c H1 locs1 ls C hP1 hS1 hl
/-- the one private static across the nest -/
theorem wa_callN {as rest : List Value} {stk : List Value} (hown : k.1.cls = RX2) (hd : decode k.2.1 pc = .ok (.invokestatic 79, 3)) (hy : k'.1 = yX5_isWithin) (hk : lkS k' 2) (hml : k'.2.2.1 ≤ 21) (hdd : d' + 1 ≤ d) (hst : stk = as.reverse ++ rest) (hlen : as.length = 2) (hcat : catS rest ≤ 8) (hM : MW k' d' as μ (fun r μ' => WA k d Q (pc + 3) lv (r.toList ++ rest) μ')) : WA k d Q pc lv stk μ := by
  intro G p l e s m args below meth c H locs ls C hP hS hl
  obtain ⟨⟨h1, h2, h3, h4, h5⟩, h6⟩ := hk
  have hts := C.2.2.2.1
  have hK := C.2.2.2.2.2.2.2.2
  subst hst
  have hn : va_Nw (.methodLinkNest k.1.cls 79 k'.1 RX5) s := by rw [hown, hy]; exact hK.2
  have hrun := va_runSN (l := l) (e := e) (below := below) (meth := meth) (locs := locs) (cells := 0) (slots := 0) (R := rmD d) (ret := k'.2.2.2) (As := as.map (trV G)) (rest := rest.map (trV G)) (g := F0 m pc ls ((as.reverse ++ rest).map (trV G))) ⟨C.1, C.2.1, C.2.2.2.2.2.2.1, C.2.2.2.2.1, hts⟩ (hM l G H.size C.2.2.2.2.2.2.2.1)
    ⟨va_cnB 2 hts (wsM_good h2) rfl rfl rfl hn (hts _ (List.mem_cons_of_mem _ h1)) ⟨h3, h4, h5⟩ ⟨hdd, by show 8 + (k'.2.2.1 + 11) + 40 * d' ≤ 40 * d; omega⟩, hts _ (List.mem_cons_of_mem _ h6), trivial⟩
    ⟨blind_pc, fun U hU hW => ⟨rfl, by rw [hU], by rw [hU]; exact hP, hK.warm hW⟩⟩
    rfl (by rw [List.length_map]; exact hlen) hl.1 (by simp) (lv_room (by rw [catS_eq]; exact hcat)) hd ⟨Nat.zero_le _, Nat.zero_le _⟩
  refine wa_run hrun hS (fun r μ' H1 locs1 hq hP1 hS1 => ?_)
  rw [toL_map]
  exact hq.1 G p l e s m args below meth c H1 locs1 ls C hP1 hS1 hl
def lkA (own : String) (idx : Nat) : Prop := Cond.methodLink own idx arraycopyName ∈ wT ∧ Cond.native arraycopyName ∈ wT ∧ Cond.static arraycopyName ∈ wT ∧ Cond.initialized "java/lang/System" ∈ wT
theorem wa_copyI {t0 t1 n0 n1 idx : Nat} {i0 i1 im : Int32} (a b n : Nat) (hd : decode k.2.1 pc = .ok (.invokestatic idx, 3)) (hk : lkA k.1.cls idx) (h0 : shp t0 = .inl (1, n0)) (h1 : shp t1 = .inl (1, n1)) (e0 : i0 = nI a) (e1 : i1 = nI b) (e2 : im = nI n) (ha : a + n ≤ n0) (hb : b + n ≤ n1) (hdd : 1 ≤ d) (kk : WA k d Q (pc + 3) lv [] (bI μ t1 (va_cpy (μ.1 t0) (μ.1 t1) a b n))) : WA k d Q pc lv [.int im, .int i1, .ref t1, .int i0, .ref t0] μ := by
  intro G p l e s m args below meth c H locs ls C hP hS hl
  obtain ⟨k1, k2, k3, k4⟩ := hk
  have hn0 := shp_n h0
  have hn1 := shp_n h1
  have hts := C.2.2.2.1
  have z0 : (nI a).toNatClampNeg = a := nI_clamp (by omega)
  have z1 : (nI b).toNatClampNeg = b := nI_clamp (by omega)
  have z2 : (nI n).toNatClampNeg = n := nI_clamp (by omega)
  subst e0 e1 e2
  have hroom : (([] : List Value).map fun v => v.category).sum + (nativeFrameWords "java/lang/System" "arraycopy" 5 + 11) ≤ (rmD d).locals := by
    have hw : nativeFrameWords "java/lang/System" "arraycopy" 5 + 11 ≤ 40 := by decide +kernel
    show 0 + (nativeFrameWords "java/lang/System" "arraycopy" 5 + 11) ≤ 40 * d
    omega
  refine va_copyi (ty := .int) C.1 C.2.1 (C.2.2.2.2.2.2.1.trans hl.1.symm) C.2.2.2.2.1 (hts _ (List.mem_cons_of_mem _ k1)) (hts _ (List.mem_cons_of_mem _ k2)) (hts _ (List.mem_cons_of_mem _ k3)) (hts _ (List.mem_cons_of_mem _ k4)) C.2.2.2.2.2.2.2.2.1 hP C.2.2.2.2.2.2.2.1.D hS t0 t1 1 1 (ws_aI h0 (by omega)) (ws_aI h1 (by omega)) rfl rfl rfl (nI_pos (n := a) (by omega)) (nI_pos (n := b) (by omega)) (nI_pos (n := n) (by omega)) (by rw [z0, z2]; exact ha) (by rw [z1, z2]; exact hb) (fun _ _ => rfl) hdd hroom hd (fun H1 locs1 hP1 _ hS1 => ?_)
  rw [z0, z1, z2, ws_bI h1 (by omega)] at hP1
  exact kk G p l e s m args below meth c H1 locs1 ls C hP1 hS1 hl
theorem wa_copyL {t0 t1 n0 n1 idx : Nat} {i0 i1 im : Int32} (a b n : Nat) (hd : decode k.2.1 pc = .ok (.invokestatic idx, 3)) (hk : lkA k.1.cls idx) (h0 : shp t0 = .inl (2, n0)) (h1 : shp t1 = .inl (2, n1)) (e0 : i0 = nI a) (e1 : i1 = nI b) (e2 : im = nI n) (ha : a + n ≤ n0) (hb : b + n ≤ n1) (hdd : 1 ≤ d) (kk : WA k d Q (pc + 3) lv [] (bL μ t1 (va_cpy (μ.2 t0) (μ.2 t1) a b n))) : WA k d Q pc lv [.int im, .int i1, .ref t1, .int i0, .ref t0] μ := by
  intro G p l e s m args below meth c H locs ls C hP hS hl
  obtain ⟨k1, k2, k3, k4⟩ := hk
  have hn0 := shp_n h0
  have hn1 := shp_n h1
  have hts := C.2.2.2.1
  have z0 : (nI a).toNatClampNeg = a := nI_clamp (by omega)
  have z1 : (nI b).toNatClampNeg = b := nI_clamp (by omega)
  have z2 : (nI n).toNatClampNeg = n := nI_clamp (by omega)
  subst e0 e1 e2
  have hroom : (([] : List Value).map fun v => v.category).sum + (nativeFrameWords "java/lang/System" "arraycopy" 5 + 11) ≤ (rmD d).locals := by
    have hw : nativeFrameWords "java/lang/System" "arraycopy" 5 + 11 ≤ 40 := by decide +kernel
    show 0 + (nativeFrameWords "java/lang/System" "arraycopy" 5 + 11) ≤ 40 * d
    omega
  refine va_copyl (ty := .long) C.1 C.2.1 (C.2.2.2.2.2.2.1.trans hl.1.symm) C.2.2.2.2.1 (hts _ (List.mem_cons_of_mem _ k1)) (hts _ (List.mem_cons_of_mem _ k2)) (hts _ (List.mem_cons_of_mem _ k3)) (hts _ (List.mem_cons_of_mem _ k4)) C.2.2.2.2.2.2.2.2.1 hP C.2.2.2.2.2.2.2.1.D hS t0 t1 2 2 (ws_aL h0) (ws_aL h1) rfl rfl rfl (nI_pos (n := a) (by omega)) (nI_pos (n := b) (by omega)) (nI_pos (n := n) (by omega)) (by rw [z0, z2]; exact ha) (by rw [z1, z2]; exact hb) (fun _ _ => rfl) hdd hroom hd (fun H1 locs1 hP1 _ hS1 => ?_)
  rw [z0, z1, z2, ws_bL h1] at hP1
  exact kk G p l e s m args below meth c H1 locs1 ls C hP1 hS1 hl
end WAR
