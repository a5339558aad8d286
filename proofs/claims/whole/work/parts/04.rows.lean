section
variable {cc : ByteArray} {nL : Nat} {ret : Option FieldType} {own nm : String} {d mc ms : Nat} {Post : Option Value → List va_E → Prop} {cells slots pc q : Nat} {l l' : List (Option Value)} {st : List Value} {G : List va_E}
theorem fv_iconst {n : Int} {v : Int32} (hd : decode cc pc = .ok (.iconst n, 1)) (hv : Int32.ofInt n = v) (hq : pc + 1 = q) (k : FV cc nL ret own nm d mc ms Post cells slots q l (.int v :: st) G) : FV cc nL ret own nm d mc ms Post cells slots pc l (st) G := by
  subst hq
  intro p la e s m args below meth c D b0 kk H locs ls C w hl
  exact lv_iconst C.1 C.2.1 hd hv (k p la e s m args below meth c D b0 kk H locs ls C w hl)
theorem fv_bipush {n : Int} {v : Int32} (hd : decode cc pc = .ok (.bipush n, 2)) (hv : (Int8.ofInt n).toInt32 = v) (hq : pc + 2 = q) (k : FV cc nL ret own nm d mc ms Post cells slots q l (.int v :: st) G) : FV cc nL ret own nm d mc ms Post cells slots pc l (st) G := by
  subst hq
  intro p la e s m args below meth c D b0 kk H locs ls C w hl
  exact lv_bipush C.1 C.2.1 hd hv (k p la e s m args below meth c D b0 kk H locs ls C w hl)
theorem fv_sipush {n : Int} {v : Int32} (hd : decode cc pc = .ok (.sipush n, 3)) (hv : (Int16.ofInt n).toInt32 = v) (hq : pc + 3 = q) (k : FV cc nL ret own nm d mc ms Post cells slots q l (.int v :: st) G) : FV cc nL ret own nm d mc ms Post cells slots pc l (st) G := by
  subst hq
  intro p la e s m args below meth c D b0 kk H locs ls C w hl
  exact lv_sipush C.1 C.2.1 hd hv (k p la e s m args below meth c D b0 kk H locs ls C w hl)
theorem fv_lconst {n : Fin 2} {v : Int64} (hd : decode cc pc = .ok (.lconst n, 1)) (hv : Int64.ofNat (n : Nat) = v) (hq : pc + 1 = q) (k : FV cc nL ret own nm d mc ms Post cells slots q l (.long v :: st) G) : FV cc nL ret own nm d mc ms Post cells slots pc l (st) G := by
  subst hq
  intro p la e s m args below meth c D b0 kk H locs ls C w hl
  exact lv_lconst C.1 C.2.1 hd hv (k p la e s m args below meth c D b0 kk H locs ls C w hl)
theorem fv_ldc {i : Nat} {v : Int32} (hd : decode cc pc = .ok (.ldc i, 2)) (hc : Cond.constant own i v ∈ lw_ok) (hq : pc + 2 = q) (k : FV cc nL ret own nm d mc ms Post cells slots q l (.int v :: st) G) : FV cc nL ret own nm d mc ms Post cells slots pc l (st) G := by
  subst hq
  intro p la e s m args below meth c D b0 kk H locs ls C w hl
  exact lv_ldc C.1 C.2.1 C.2.2.2.2.1 (C.2.2.2.2.2.1 _ hc) hd (k p la e s m args below meth c D b0 kk H locs ls C w hl)
theorem fv_ldc2 {i : Nat} {v : Int64} (hd : decode cc pc = .ok (.ldc2_w i, 3)) (hc : Cond.constantLong own i v ∈ lw_ok) (hq : pc + 3 = q) (k : FV cc nL ret own nm d mc ms Post cells slots q l (.long v :: st) G) : FV cc nL ret own nm d mc ms Post cells slots pc l (st) G := by
  subst hq
  intro p la e s m args below meth c D b0 kk H locs ls C w hl
  exact lv_ldc2 C.1 C.2.1 C.2.2.2.2.1 (C.2.2.2.2.2.1 _ hc) hd (k p la e s m args below meth c D b0 kk H locs ls C w hl)
theorem fv_iload_n {n : Fin 4} {x : Int32} (hd : decode cc pc = .ok (.iload_n n, 1)) (hv : l[(n : Nat)]? = some (some (.int x))) (hq : pc + 1 = q) (k : FV cc nL ret own nm d mc ms Post cells slots q l (.int x :: st) G) : FV cc nL ret own nm d mc ms Post cells slots pc l (st) G := by
  subst hq
  intro p la e s m args below meth c D b0 kk H locs ls C w hl
  exact lv_iload_n C.1 C.2.1 hd rfl (hl.2.2 _ _ hv) (k p la e s m args below meth c D b0 kk H locs ls C w hl)
theorem fv_iload {n : Nat} {x : Int32} (hd : decode cc pc = .ok (.iload n, 2)) (hv : l[n]? = some (some (.int x))) (hq : pc + 2 = q) (k : FV cc nL ret own nm d mc ms Post cells slots q l (.int x :: st) G) : FV cc nL ret own nm d mc ms Post cells slots pc l (st) G := by
  subst hq
  intro p la e s m args below meth c D b0 kk H locs ls C w hl
  exact lv_iload C.1 C.2.1 hd (hl.2.2 _ _ hv) (k p la e s m args below meth c D b0 kk H locs ls C w hl)
theorem fv_lload_n {n : Fin 4} {x : Int64} (hd : decode cc pc = .ok (.lload_n n, 1)) (hv : l[(n : Nat)]? = some (some (.long x))) (hq : pc + 1 = q) (k : FV cc nL ret own nm d mc ms Post cells slots q l (.long x :: st) G) : FV cc nL ret own nm d mc ms Post cells slots pc l (st) G := by
  subst hq
  intro p la e s m args below meth c D b0 kk H locs ls C w hl
  exact lv_lload_n C.1 C.2.1 hd rfl (hl.2.2 _ _ hv) (k p la e s m args below meth c D b0 kk H locs ls C w hl)
theorem fv_aload_n {n : Fin 4} {x : Nat} (hd : decode cc pc = .ok (.aload_n n, 1)) (hv : l[(n : Nat)]? = some (some (.ref x))) (hq : pc + 1 = q) (k : FV cc nL ret own nm d mc ms Post cells slots q l (.ref x :: st) G) : FV cc nL ret own nm d mc ms Post cells slots pc l (st) G := by
  subst hq
  intro p la e s m args below meth c D b0 kk H locs ls C w hl
  exact lv_aload_n C.1 C.2.1 hd rfl (hl.2.2 _ _ hv) (k p la e s m args below meth c D b0 kk H locs ls C w hl)
theorem fv_iadd {x y : Int32} (hd : decode cc pc = .ok (.iadd, 1))  (hq : pc + 1 = q) (k : FV cc nL ret own nm d mc ms Post cells slots q l (.int (x + y) :: st) G) : FV cc nL ret own nm d mc ms Post cells slots pc l (.int y :: .int x :: st) G := by
  subst hq
  intro p la e s m args below meth c D b0 kk H locs ls C w hl
  exact lv_iadd C.1 C.2.1 hd (k p la e s m args below meth c D b0 kk H locs ls C w hl)
theorem fv_isub {x y : Int32} (hd : decode cc pc = .ok (.isub, 1))  (hq : pc + 1 = q) (k : FV cc nL ret own nm d mc ms Post cells slots q l (.int (x - y) :: st) G) : FV cc nL ret own nm d mc ms Post cells slots pc l (.int y :: .int x :: st) G := by
  subst hq
  intro p la e s m args below meth c D b0 kk H locs ls C w hl
  exact lv_isub C.1 C.2.1 hd (k p la e s m args below meth c D b0 kk H locs ls C w hl)
theorem fv_imul {x y : Int32} (hd : decode cc pc = .ok (.imul, 1))  (hq : pc + 1 = q) (k : FV cc nL ret own nm d mc ms Post cells slots q l (.int (x * y) :: st) G) : FV cc nL ret own nm d mc ms Post cells slots pc l (.int y :: .int x :: st) G := by
  subst hq
  intro p la e s m args below meth c D b0 kk H locs ls C w hl
  exact lv_imul C.1 C.2.1 hd (k p la e s m args below meth c D b0 kk H locs ls C w hl)
theorem fv_iand {x y : Int32} (hd : decode cc pc = .ok (.iand, 1))  (hq : pc + 1 = q) (k : FV cc nL ret own nm d mc ms Post cells slots q l (.int (x &&& y) :: st) G) : FV cc nL ret own nm d mc ms Post cells slots pc l (.int y :: .int x :: st) G := by
  subst hq
  intro p la e s m args below meth c D b0 kk H locs ls C w hl
  exact lv_iand C.1 C.2.1 hd (k p la e s m args below meth c D b0 kk H locs ls C w hl)
theorem fv_ior {x y : Int32} (hd : decode cc pc = .ok (.ior, 1))  (hq : pc + 1 = q) (k : FV cc nL ret own nm d mc ms Post cells slots q l (.int (x ||| y) :: st) G) : FV cc nL ret own nm d mc ms Post cells slots pc l (.int y :: .int x :: st) G := by
  subst hq
  intro p la e s m args below meth c D b0 kk H locs ls C w hl
  exact lv_ior C.1 C.2.1 hd (k p la e s m args below meth c D b0 kk H locs ls C w hl)
theorem fv_ishl {x y : Int32} (hd : decode cc pc = .ok (.ishl, 1))  (hq : pc + 1 = q) (k : FV cc nL ret own nm d mc ms Post cells slots q l (.int (x <<< (y &&& 31)) :: st) G) : FV cc nL ret own nm d mc ms Post cells slots pc l (.int y :: .int x :: st) G := by
  subst hq
  intro p la e s m args below meth c D b0 kk H locs ls C w hl
  exact lv_ishl C.1 C.2.1 hd (k p la e s m args below meth c D b0 kk H locs ls C w hl)
theorem fv_ishr {x y : Int32} (hd : decode cc pc = .ok (.ishr, 1))  (hq : pc + 1 = q) (k : FV cc nL ret own nm d mc ms Post cells slots q l (.int (x >>> (y &&& 31)) :: st) G) : FV cc nL ret own nm d mc ms Post cells slots pc l (.int y :: .int x :: st) G := by
  subst hq
  intro p la e s m args below meth c D b0 kk H locs ls C w hl
  exact lv_ishr C.1 C.2.1 hd (k p la e s m args below meth c D b0 kk H locs ls C w hl)
theorem fv_idiv {x y : Int32} (hd : decode cc pc = .ok (.idiv, 1)) (hne : ¬ y = 0) (hq : pc + 1 = q) (k : FV cc nL ret own nm d mc ms Post cells slots q l (.int (x / y) :: st) G) : FV cc nL ret own nm d mc ms Post cells slots pc l (.int y :: .int x :: st) G := by
  subst hq
  intro p la e s m args below meth c D b0 kk H locs ls C w hl
  exact lv_idiv C.1 C.2.1 hd hne (k p la e s m args below meth c D b0 kk H locs ls C w hl)
theorem fv_irem {x y : Int32} (hd : decode cc pc = .ok (.irem, 1)) (hne : ¬ y = 0) (hq : pc + 1 = q) (k : FV cc nL ret own nm d mc ms Post cells slots q l (.int (x - x / y * y) :: st) G) : FV cc nL ret own nm d mc ms Post cells slots pc l (.int y :: .int x :: st) G := by
  subst hq
  intro p la e s m args below meth c D b0 kk H locs ls C w hl
  exact lv_irem C.1 C.2.1 hd hne (k p la e s m args below meth c D b0 kk H locs ls C w hl)
theorem fv_ladd {x y : Int64} (hd : decode cc pc = .ok (.ladd, 1))  (hq : pc + 1 = q) (k : FV cc nL ret own nm d mc ms Post cells slots q l (.long (x + y) :: st) G) : FV cc nL ret own nm d mc ms Post cells slots pc l (.long y :: .long x :: st) G := by
  subst hq
  intro p la e s m args below meth c D b0 kk H locs ls C w hl
  exact lv_ladd C.1 C.2.1 hd (k p la e s m args below meth c D b0 kk H locs ls C w hl)
theorem fv_lmul {x y : Int64} (hd : decode cc pc = .ok (.lmul, 1))  (hq : pc + 1 = q) (k : FV cc nL ret own nm d mc ms Post cells slots q l (.long (x * y) :: st) G) : FV cc nL ret own nm d mc ms Post cells slots pc l (.long y :: .long x :: st) G := by
  subst hq
  intro p la e s m args below meth c D b0 kk H locs ls C w hl
  exact lv_lmul C.1 C.2.1 hd (k p la e s m args below meth c D b0 kk H locs ls C w hl)
theorem fv_land {x y : Int64} (hd : decode cc pc = .ok (.land, 1))  (hq : pc + 1 = q) (k : FV cc nL ret own nm d mc ms Post cells slots q l (.long (x &&& y) :: st) G) : FV cc nL ret own nm d mc ms Post cells slots pc l (.long y :: .long x :: st) G := by
  subst hq
  intro p la e s m args below meth c D b0 kk H locs ls C w hl
  exact lv_land C.1 C.2.1 hd (k p la e s m args below meth c D b0 kk H locs ls C w hl)
theorem fv_lor {x y : Int64} (hd : decode cc pc = .ok (.lor, 1))  (hq : pc + 1 = q) (k : FV cc nL ret own nm d mc ms Post cells slots q l (.long (x ||| y) :: st) G) : FV cc nL ret own nm d mc ms Post cells slots pc l (.long y :: .long x :: st) G := by
  subst hq
  intro p la e s m args below meth c D b0 kk H locs ls C w hl
  exact lv_lor C.1 C.2.1 hd (k p la e s m args below meth c D b0 kk H locs ls C w hl)
theorem fv_lrem {x y : Int64} (hd : decode cc pc = .ok (.lrem, 1)) (hne : ¬ y = 0) (hq : pc + 1 = q) (k : FV cc nL ret own nm d mc ms Post cells slots q l (.long (x - x / y * y) :: st) G) : FV cc nL ret own nm d mc ms Post cells slots pc l (.long y :: .long x :: st) G := by
  subst hq
  intro p la e s m args below meth c D b0 kk H locs ls C w hl
  exact lv_lrem C.1 C.2.1 hd hne (k p la e s m args below meth c D b0 kk H locs ls C w hl)
theorem fv_lshl {x : Int64} {y : Int32} (hd : decode cc pc = .ok (.lshl, 1))  (hq : pc + 1 = q) (k : FV cc nL ret own nm d mc ms Post cells slots q l (.long (x <<< (y.toInt64 &&& 63)) :: st) G) : FV cc nL ret own nm d mc ms Post cells slots pc l (.int y :: .long x :: st) G := by
  subst hq
  intro p la e s m args below meth c D b0 kk H locs ls C w hl
  exact lv_lshl C.1 C.2.1 hd rfl (k p la e s m args below meth c D b0 kk H locs ls C w hl)
theorem fv_i2l {x : Int32} (hd : decode cc pc = .ok (.i2l, 1))  (hq : pc + 1 = q) (k : FV cc nL ret own nm d mc ms Post cells slots q l (.long x.toInt64 :: st) G) : FV cc nL ret own nm d mc ms Post cells slots pc l (.int x :: st) G := by
  subst hq
  intro p la e s m args below meth c D b0 kk H locs ls C w hl
  exact lv_i2l C.1 C.2.1 hd rfl (k p la e s m args below meth c D b0 kk H locs ls C w hl)
theorem fv_l2i {x : Int64} (hd : decode cc pc = .ok (.l2i, 1))  (hq : pc + 1 = q) (k : FV cc nL ret own nm d mc ms Post cells slots q l (.int x.toInt32 :: st) G) : FV cc nL ret own nm d mc ms Post cells slots pc l (.long x :: st) G := by
  subst hq
  intro p la e s m args below meth c D b0 kk H locs ls C w hl
  exact lv_l2i C.1 C.2.1 hd rfl (k p la e s m args below meth c D b0 kk H locs ls C w hl)
theorem fv_lcmp {x y : Int64} (hd : decode cc pc = .ok (.lcmp, 1))  (hq : pc + 1 = q) (k : FV cc nL ret own nm d mc ms Post cells slots q l (.int (lg_cmp x y) :: st) G) : FV cc nL ret own nm d mc ms Post cells slots pc l (.long y :: .long x :: st) G := by
  subst hq
  intro p la e s m args below meth c D b0 kk H locs ls C w hl
  exact W.lcmp C.1 C.2.1 hd (k p la e s m args below meth c D b0 kk H locs ls C w hl)
theorem fv_dup {v : Value} (hd : decode cc pc = .ok (.dup, 1)) (hc : v.category = 1) (hq : pc + 1 = q) (k : FV cc nL ret own nm d mc ms Post cells slots q l (v :: v :: st) G) : FV cc nL ret own nm d mc ms Post cells slots pc l (v :: st) G := by
  subst hq
  intro p la e s m args below meth c D b0 kk H locs ls C w hl
  exact lv_dup C.1 C.2.1 hd (by rw [rv_cat]; exact hc) (k p la e s m args below meth c D b0 kk H locs ls C w hl)
theorem fv_dup2 {v u : Value} (hd : decode cc pc = .ok (.dup2, 1)) (hc : v.category = 1) (hu : u.category = 1) (hq : pc + 1 = q) (k : FV cc nL ret own nm d mc ms Post cells slots q l (v :: u :: v :: u :: st) G) : FV cc nL ret own nm d mc ms Post cells slots pc l (v :: u :: st) G := by
  subst hq
  intro p la e s m args below meth c D b0 kk H locs ls C w hl
  exact lv_dup2_11 C.1 C.2.1 hd (by rw [rv_cat]; exact hc) (by rw [rv_cat]; exact hu) (k p la e s m args below meth c D b0 kk H locs ls C w hl)

theorem fv_istore_n {n : Fin 4} {i : Nat} {x : Int32} (hd : decode cc pc = .ok (.istore_n n, 1)) (hi : (n : Nat) = i) (hn : i < nL) (hok : okst l i = true) (hl' : l.set i (some (.int x)) = l') (hq : pc + 1 = q) (k : FV cc nL ret own nm d mc ms Post cells slots q l' st G) : FV cc nL ret own nm d mc ms Post cells slots pc l (.int x :: st) G := by
  subst hq
  subst hl'
  intro p la e s m args below meth c D b0 kk H locs ls C w hl
  exact lv_istore_n C.1 C.2.1 hd hi (lh_has hl) hn rfl (fun ls' hl' => k p la e s m args below meth c D b0 kk H locs ls' C w (lh_set (v := .int x) hok hl'))
theorem fv_istore {i : Nat} {x : Int32} (hd : decode cc pc = .ok (.istore i, 2)) (hn : i < nL) (hok : okst l i = true) (hl' : l.set i (some (.int x)) = l') (hq : pc + 2 = q) (k : FV cc nL ret own nm d mc ms Post cells slots q l' st G) : FV cc nL ret own nm d mc ms Post cells slots pc l (.int x :: st) G := by
  subst hq
  subst hl'
  intro p la e s m args below meth c D b0 kk H locs ls C w hl
  exact lv_istore C.1 C.2.1 hd (lh_has hl) hn rfl (fun ls' hl' => k p la e s m args below meth c D b0 kk H locs ls' C w (lh_set (v := .int x) hok hl'))
theorem fv_lstore_n {n : Fin 4} {i : Nat} {x : Int64} (hd : decode cc pc = .ok (.lstore_n n, 1)) (hi : (n : Nat) = i) (hn : i + 1 < nL) (hok : okst l i = true) (hl' : (l.set i (some (.long x))).set (i + 1) none = l') (hq : pc + 1 = q) (k : FV cc nL ret own nm d mc ms Post cells slots q l' st G) : FV cc nL ret own nm d mc ms Post cells slots pc l (.long x :: st) G := by
  subst hq
  subst hl'
  intro p la e s m args below meth c D b0 kk H locs ls C w hl
  exact lv_lstore_n C.1 C.2.1 hd hi (lh_has hl) hn rfl (fun ls' hl' => k p la e s m args below meth c D b0 kk H locs ls' C w (lh_set2 (v := .long x) hok hl'))
theorem fv_iinc {i : Nat} {n : Int} {x v : Int32} (hd : decode cc pc = .ok (.iinc i n, 3)) (hx : l[i]? = some (some (.int x))) (hv : x + Int32.ofInt n = v) (hn : i < nL) (hok : okst l i = true) (hl' : l.set i (some (.int v)) = l') (hq : pc + 3 = q) (k : FV cc nL ret own nm d mc ms Post cells slots q l' st G) : FV cc nL ret own nm d mc ms Post cells slots pc l st G := by
  subst hq
  subst hl'
  intro p la e s m args below meth c D b0 kk H locs ls C w hl
  obtain ⟨j, hj⟩ := List.getElem?_of_mem (la_mem (b0 := b0) (q := (i, .int x)).mpr ⟨_, hx, rfl⟩)
  exact lv_iinc C.1 C.2.1 hd (lh_has hl) hj hv hn rfl (fun ls' hl' => k p la e s m args below meth c D b0 kk H locs ls' C w (lh_set (v := .int v) hok hl'))
theorem fv_if_eq {x : Int32} {off : Int} (tgt : Nat) (hd : decode cc pc = .ok (.ifCond .eq off, 3)) (ht : (pc : Int) + off = (tgt : Int)) (hq : pc + 3 = q) (kt : x = 0 → FV cc nL ret own nm d mc ms Post cells slots tgt l st G) (kf : ¬ x = 0 → FV cc nL ret own nm d mc ms Post cells slots q l st G) : FV cc nL ret own nm d mc ms Post cells slots pc l (.int x :: st) G := by
  subst hq
  intro p la e s m args below meth c D b0 kk H locs ls C w hl
  exact lv_if_eq C.1 C.2.1 hd ht (fun h => kt h p la e s m args below meth c D b0 kk H locs ls C w hl) (fun h => kf h p la e s m args below meth c D b0 kk H locs ls C w hl)
theorem fv_icmp_eq {x y : Int32} {off : Int} (tgt : Nat) (hd : decode cc pc = .ok (.if_icmp .eq off, 3)) (ht : (pc : Int) + off = (tgt : Int)) (hq : pc + 3 = q) (kt : x = y → FV cc nL ret own nm d mc ms Post cells slots tgt l st G) (kf : ¬ x = y → FV cc nL ret own nm d mc ms Post cells slots q l st G) : FV cc nL ret own nm d mc ms Post cells slots pc l (.int y :: .int x :: st) G := by
  subst hq
  intro p la e s m args below meth c D b0 kk H locs ls C w hl
  exact lv_icmp_eq C.1 C.2.1 hd ht (fun h => kt h p la e s m args below meth c D b0 kk H locs ls C w hl) (fun h => kf h p la e s m args below meth c D b0 kk H locs ls C w hl)
theorem fv_if_ne {x : Int32} {off : Int} (tgt : Nat) (hd : decode cc pc = .ok (.ifCond .ne off, 3)) (ht : (pc : Int) + off = (tgt : Int)) (hq : pc + 3 = q) (kt : ¬ x = 0 → FV cc nL ret own nm d mc ms Post cells slots tgt l st G) (kf : x = 0 → FV cc nL ret own nm d mc ms Post cells slots q l st G) : FV cc nL ret own nm d mc ms Post cells slots pc l (.int x :: st) G := by
  subst hq
  intro p la e s m args below meth c D b0 kk H locs ls C w hl
  exact lv_if_ne C.1 C.2.1 hd ht (fun h => kt h p la e s m args below meth c D b0 kk H locs ls C w hl) (fun h => kf h p la e s m args below meth c D b0 kk H locs ls C w hl)
theorem fv_icmp_ne {x y : Int32} {off : Int} (tgt : Nat) (hd : decode cc pc = .ok (.if_icmp .ne off, 3)) (ht : (pc : Int) + off = (tgt : Int)) (hq : pc + 3 = q) (kt : ¬ x = y → FV cc nL ret own nm d mc ms Post cells slots tgt l st G) (kf : x = y → FV cc nL ret own nm d mc ms Post cells slots q l st G) : FV cc nL ret own nm d mc ms Post cells slots pc l (.int y :: .int x :: st) G := by
  subst hq
  intro p la e s m args below meth c D b0 kk H locs ls C w hl
  exact lv_icmp_ne C.1 C.2.1 hd ht (fun h => kt h p la e s m args below meth c D b0 kk H locs ls C w hl) (fun h => kf h p la e s m args below meth c D b0 kk H locs ls C w hl)
theorem fv_if_lt {x : Int32} {off : Int} (tgt : Nat) (hd : decode cc pc = .ok (.ifCond .lt off, 3)) (ht : (pc : Int) + off = (tgt : Int)) (hq : pc + 3 = q) (kt : x < 0 → FV cc nL ret own nm d mc ms Post cells slots tgt l st G) (kf : ¬ x < 0 → FV cc nL ret own nm d mc ms Post cells slots q l st G) : FV cc nL ret own nm d mc ms Post cells slots pc l (.int x :: st) G := by
  subst hq
  intro p la e s m args below meth c D b0 kk H locs ls C w hl
  exact lv_if_lt C.1 C.2.1 hd ht (fun h => kt h p la e s m args below meth c D b0 kk H locs ls C w hl) (fun h => kf h p la e s m args below meth c D b0 kk H locs ls C w hl)
theorem fv_icmp_lt {x y : Int32} {off : Int} (tgt : Nat) (hd : decode cc pc = .ok (.if_icmp .lt off, 3)) (ht : (pc : Int) + off = (tgt : Int)) (hq : pc + 3 = q) (kt : x < y → FV cc nL ret own nm d mc ms Post cells slots tgt l st G) (kf : ¬ x < y → FV cc nL ret own nm d mc ms Post cells slots q l st G) : FV cc nL ret own nm d mc ms Post cells slots pc l (.int y :: .int x :: st) G := by
  subst hq
  intro p la e s m args below meth c D b0 kk H locs ls C w hl
  exact lv_icmp_lt C.1 C.2.1 hd ht (fun h => kt h p la e s m args below meth c D b0 kk H locs ls C w hl) (fun h => kf h p la e s m args below meth c D b0 kk H locs ls C w hl)
theorem fv_if_ge {x : Int32} {off : Int} (tgt : Nat) (hd : decode cc pc = .ok (.ifCond .ge off, 3)) (ht : (pc : Int) + off = (tgt : Int)) (hq : pc + 3 = q) (kt : 0 ≤ x → FV cc nL ret own nm d mc ms Post cells slots tgt l st G) (kf : ¬ 0 ≤ x → FV cc nL ret own nm d mc ms Post cells slots q l st G) : FV cc nL ret own nm d mc ms Post cells slots pc l (.int x :: st) G := by
  subst hq
  intro p la e s m args below meth c D b0 kk H locs ls C w hl
  exact lv_if_ge C.1 C.2.1 hd ht (fun h => kt h p la e s m args below meth c D b0 kk H locs ls C w hl) (fun h => kf h p la e s m args below meth c D b0 kk H locs ls C w hl)
theorem fv_icmp_ge {x y : Int32} {off : Int} (tgt : Nat) (hd : decode cc pc = .ok (.if_icmp .ge off, 3)) (ht : (pc : Int) + off = (tgt : Int)) (hq : pc + 3 = q) (kt : y ≤ x → FV cc nL ret own nm d mc ms Post cells slots tgt l st G) (kf : ¬ y ≤ x → FV cc nL ret own nm d mc ms Post cells slots q l st G) : FV cc nL ret own nm d mc ms Post cells slots pc l (.int y :: .int x :: st) G := by
  subst hq
  intro p la e s m args below meth c D b0 kk H locs ls C w hl
  exact lv_icmp_ge C.1 C.2.1 hd ht (fun h => kt h p la e s m args below meth c D b0 kk H locs ls C w hl) (fun h => kf h p la e s m args below meth c D b0 kk H locs ls C w hl)
theorem fv_if_gt {x : Int32} {off : Int} (tgt : Nat) (hd : decode cc pc = .ok (.ifCond .gt off, 3)) (ht : (pc : Int) + off = (tgt : Int)) (hq : pc + 3 = q) (kt : 0 < x → FV cc nL ret own nm d mc ms Post cells slots tgt l st G) (kf : ¬ 0 < x → FV cc nL ret own nm d mc ms Post cells slots q l st G) : FV cc nL ret own nm d mc ms Post cells slots pc l (.int x :: st) G := by
  subst hq
  intro p la e s m args below meth c D b0 kk H locs ls C w hl
  exact lv_if_gt C.1 C.2.1 hd ht (fun h => kt h p la e s m args below meth c D b0 kk H locs ls C w hl) (fun h => kf h p la e s m args below meth c D b0 kk H locs ls C w hl)
theorem fv_icmp_gt {x y : Int32} {off : Int} (tgt : Nat) (hd : decode cc pc = .ok (.if_icmp .gt off, 3)) (ht : (pc : Int) + off = (tgt : Int)) (hq : pc + 3 = q) (kt : y < x → FV cc nL ret own nm d mc ms Post cells slots tgt l st G) (kf : ¬ y < x → FV cc nL ret own nm d mc ms Post cells slots q l st G) : FV cc nL ret own nm d mc ms Post cells slots pc l (.int y :: .int x :: st) G := by
  subst hq
  intro p la e s m args below meth c D b0 kk H locs ls C w hl
  exact lv_icmp_gt C.1 C.2.1 hd ht (fun h => kt h p la e s m args below meth c D b0 kk H locs ls C w hl) (fun h => kf h p la e s m args below meth c D b0 kk H locs ls C w hl)
theorem fv_if_le {x : Int32} {off : Int} (tgt : Nat) (hd : decode cc pc = .ok (.ifCond .le off, 3)) (ht : (pc : Int) + off = (tgt : Int)) (hq : pc + 3 = q) (kt : x ≤ 0 → FV cc nL ret own nm d mc ms Post cells slots tgt l st G) (kf : ¬ x ≤ 0 → FV cc nL ret own nm d mc ms Post cells slots q l st G) : FV cc nL ret own nm d mc ms Post cells slots pc l (.int x :: st) G := by
  subst hq
  intro p la e s m args below meth c D b0 kk H locs ls C w hl
  exact lv_if_le C.1 C.2.1 hd ht (fun h => kt h p la e s m args below meth c D b0 kk H locs ls C w hl) (fun h => kf h p la e s m args below meth c D b0 kk H locs ls C w hl)
theorem fv_icmp_le {x y : Int32} {off : Int} (tgt : Nat) (hd : decode cc pc = .ok (.if_icmp .le off, 3)) (ht : (pc : Int) + off = (tgt : Int)) (hq : pc + 3 = q) (kt : x ≤ y → FV cc nL ret own nm d mc ms Post cells slots tgt l st G) (kf : ¬ x ≤ y → FV cc nL ret own nm d mc ms Post cells slots q l st G) : FV cc nL ret own nm d mc ms Post cells slots pc l (.int y :: .int x :: st) G := by
  subst hq
  intro p la e s m args below meth c D b0 kk H locs ls C w hl
  exact lv_icmp_le C.1 C.2.1 hd ht (fun h => kt h p la e s m args below meth c D b0 kk H locs ls C w hl) (fun h => kf h p la e s m args below meth c D b0 kk H locs ls C w hl)
theorem fv_goto {off : Int} (tgt : Nat) (hd : decode cc pc = .ok (.goto off, 3)) (ht : (pc : Int) + off = (tgt : Int)) (k : FV cc nL ret own nm d mc ms Post cells slots tgt l st G) : FV cc nL ret own nm d mc ms Post cells slots pc l st G := by
  intro p la e s m args below meth c D b0 kk H locs ls C w hl
  exact lv_goto C.1 C.2.1 hd ht (k p la e s m args below meth c D b0 kk H locs ls C w hl)
theorem fv_tableIn {dflt lo hi : Int} {offs : Array Int} {len : Nat} {x : Int32} {off : Int} (tgt : Nat) (hd : decode cc pc = .ok (.tableswitch dflt lo hi offs, len)) (h1 : ¬ x.toInt < lo) (h2 : ¬ hi < x.toInt) (ho : offs[(x.toInt - lo).toNat]? = some off) (ht : (pc : Int) + off = (tgt : Int)) (k : FV cc nL ret own nm d mc ms Post cells slots tgt l st G) : FV cc nL ret own nm d mc ms Post cells slots pc l (.int x :: st) G := by
  intro p la e s m args below meth c D b0 kk H locs ls C w hl
  exact lv_tableIn C.1 C.2.1 hd h1 h2 ho ht (k p la e s m args below meth c D b0 kk H locs ls C w hl)
theorem fv_tableOut {dflt lo hi : Int} {offs : Array Int} {len : Nat} {x : Int32} (tgt : Nat) (hd : decode cc pc = .ok (.tableswitch dflt lo hi offs, len)) (h : x.toInt < lo ∨ hi < x.toInt) (ht : (pc : Int) + dflt = (tgt : Int)) (k : FV cc nL ret own nm d mc ms Post cells slots tgt l st G) : FV cc nL ret own nm d mc ms Post cells slots pc l (.int x :: st) G := by
  intro p la e s m args below meth c D b0 kk H locs ls C w hl
  exact lv_tableOut C.1 C.2.1 hd h ht (k p la e s m args below meth c D b0 kk H locs ls C w hl)
theorem fv_lookup {dflt : Int} {ps : Array (Int × Int)} {len : Nat} {x : Int32} {off : Int} (tgt : Nat) (hd : decode cc pc = .ok (.lookupswitch dflt ps, len)) (hp : (ps.toList.zip (ps.toList.drop 1)).all (fun (a, next) => a.1 < next.1) = true) (ho : Op.lookupswitch.offset ps.toList dflt x.toInt = off) (ht : (pc : Int) + off = (tgt : Int)) (k : FV cc nL ret own nm d mc ms Post cells slots tgt l st G) : FV cc nL ret own nm d mc ms Post cells slots pc l (.int x :: st) G := by
  intro p la e s m args below meth c D b0 kk H locs ls C w hl
  exact lv_lookup C.1 C.2.1 hd hp ho ht (k p la e s m args below meth c D b0 kk H locs ls C w hl)
theorem fv_iret {v : Int32} (hd : decode cc pc = .ok (.ireturn, 1)) (hr : ret = some .int)  (h1 : cells = mc) (h2 : slots ≤ ms) (hP : Post (some (.int v)) G) : FV cc nL ret own nm d mc ms Post cells slots pc l ([.int v]) G := by
  subst hr
  intro p la e s m args below meth c D b0 kk H locs ls C w hl
  subst h1
  intro T hT X
  subst hT
  have hz := w.size X
  refine W.widen (Nat.le_refl _) h2 (W.iret C.1 C.2.1 C.2.2.1 (fun t ht hW => ⟨⟨some (.int v), G, rfl, hP, by rw [ht]; exact w.2.1, by rw [ht]; exact hz, w.2.2.1⟩, w.2.2.2.1.F ht⟩) w.2.2.2.1.2.2 hd (hlocks := C.2.2.2.2.2.2.1)) T rfl X
theorem fv_zret {v : Int32} {ty : FieldType} (hd : decode cc pc = .ok (.ireturn, 1)) (hr : ret = some ty) (hnw : narrow ty (.int v) = .int v) (h1 : cells = mc) (h2 : slots ≤ ms) (hP : Post (some (.int v)) G) : FV cc nL ret own nm d mc ms Post cells slots pc l ([.int v]) G := by
  subst hr
  intro p la e s m args below meth c D b0 kk H locs ls C w hl
  subst h1
  intro T hT X
  subst hT
  have hz := w.size X
  refine W.widen (Nat.le_refl _) h2 (W.zret C.1 C.2.1 C.2.2.1 hnw (fun t ht hW => ⟨⟨some (.int v), G, rfl, hP, by rw [ht]; exact w.2.1, by rw [ht]; exact hz, w.2.2.1⟩, w.2.2.2.1.F ht⟩) w.2.2.2.1.2.2 hd (hlocks := C.2.2.2.2.2.2.1)) T rfl X
theorem fv_lret {v : Int64} (hd : decode cc pc = .ok (.lreturn, 1)) (hr : ret = some .long)  (h1 : cells = mc) (h2 : slots ≤ ms) (hP : Post (some (.long v)) G) : FV cc nL ret own nm d mc ms Post cells slots pc l ([.long v]) G := by
  subst hr
  intro p la e s m args below meth c D b0 kk H locs ls C w hl
  subst h1
  intro T hT X
  subst hT
  have hz := w.size X
  refine W.widen (Nat.le_refl _) h2 (W.lret C.1 C.2.1 C.2.2.1 (fun t ht hW => ⟨⟨some (.long v), G, rfl, hP, by rw [ht]; exact w.2.1, by rw [ht]; exact hz, w.2.2.1⟩, w.2.2.2.1.F ht⟩) w.2.2.2.1.2.2 hd (hlocks := C.2.2.2.2.2.2.1)) T rfl X
theorem fv_vret  (hd : decode cc pc = .ok (.return_, 1)) (hr : ret = none)  (h1 : cells = mc) (h2 : slots ≤ ms) (hP : Post (none) G) : FV cc nL ret own nm d mc ms Post cells slots pc l ([]) G := by
  subst hr
  intro p la e s m args below meth c D b0 kk H locs ls C w hl
  subst h1
  intro T hT X
  subst hT
  have hz := w.size X
  refine W.widen (Nat.le_refl _) h2 (W.vret C.1 C.2.1 C.2.2.1 (fun t ht hW => ⟨⟨none, G, rfl, hP, by rw [ht]; exact w.2.1, by rw [ht]; exact hz, w.2.2.1⟩, w.2.2.2.1.F ht⟩) w.2.2.2.1.2.2 hd (hlocks := C.2.2.2.2.2.2.1)) T rfl X
end
