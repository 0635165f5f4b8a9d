section Rows
variable {θ : Kt} {κ : Kx} {cc : ByteArray} {nL : Nat} {ret : Option FieldType} {own : String} {R : Room} {Q : State → Prop} {L : List Nat} {f : Nat → wE} {k n pc : Nat} {lv : List (Nat × Value)} {st : List Value}
theorem k_iconst {z : Int} (d : decode cc pc = .ok (.iconst z, 1)) (kk : k_G θ κ cc nL ret own R Q L f k n (pc + 1) lv (.int (iI z) :: st)) : k_G θ κ cc nL ret own R Q L f k n pc lv st :=
  fun E H locs ls hH hS hl => lv_iconst E.1 E.2.1 d rfl (kk E H locs ls hH hS hl)
theorem k_bipush {z : Int} (d : decode cc pc = .ok (.bipush z, 2)) (hz : (Int8.ofInt z).toInt32 = iI z) (kk : k_G θ κ cc nL ret own R Q L f k n (pc + 2) lv (.int (iI z) :: st)) : k_G θ κ cc nL ret own R Q L f k n pc lv st :=
  fun E H locs ls hH hS hl => lv_bipush E.1 E.2.1 d hz (kk E H locs ls hH hS hl)
theorem k_sipush {z : Int} (d : decode cc pc = .ok (.sipush z, 3)) (hz : (Int16.ofInt z).toInt32 = iI z) (kk : k_G θ κ cc nL ret own R Q L f k n (pc + 3) lv (.int (iI z) :: st)) : k_G θ κ cc nL ret own R Q L f k n pc lv st :=
  fun E H locs ls hH hS hl => lv_sipush E.1 E.2.1 d hz (kk E H locs ls hH hS hl)
theorem k_lconst {z : Fin 2} (w : Int) (d : decode cc pc = .ok (.lconst z, 1)) (hz : Int64.ofNat (z : Nat) = lI w) (kk : k_G θ κ cc nL ret own R Q L f k n (pc + 1) lv (.long (lI w) :: st)) : k_G θ κ cc nL ret own R Q L f k n pc lv st :=
  fun E H locs ls hH hS hl => lv_lconst E.1 E.2.1 d hz (kk E H locs ls hH hS hl)
theorem k_ldc {i : Nat} {v : Int32} (z : Int) (hq : Cond.constant own i v ∈ lw_tbl) (hz : v = iI z) (d : decode cc pc = .ok (.ldc i, 2)) (kk : k_G θ κ cc nL ret own R Q L f k n (pc + 2) lv (.int (iI z) :: st)) : k_G θ κ cc nL ret own R Q L f k n pc lv st :=
  fun E H locs ls hH hS hl => lv_ldc E.1 E.2.1 E.2.2.2.1 (E.word hq rfl) d (by rw [hz]; exact kk E H locs ls hH hS hl)
theorem k_ldc2 {i : Nat} {v : Int64} (z : Int) (hq : Cond.constantLong own i v ∈ lw_tbl) (hz : v = lI z) (d : decode cc pc = .ok (.ldc2_w i, 3)) (kk : k_G θ κ cc nL ret own R Q L f k n (pc + 3) lv (.long (lI z) :: st)) : k_G θ κ cc nL ret own R Q L f k n pc lv st :=
  fun E H locs ls hH hS hl => lv_ldc2 E.1 E.2.1 E.2.2.2.1 (E.word hq rfl) d (by rw [hz]; exact kk E H locs ls hH hS hl)
theorem k_iload_n {z : Fin 4} {x : Int32} (j i : Nat) (d : decode cc pc = .ok (.iload_n z, 1)) (hi : (z : Nat) = i) (hj : lv[j]? = some (i, .int x)) (kk : k_G θ κ cc nL ret own R Q L f k n (pc + 1) lv (.int x :: st)) : k_G θ κ cc nL ret own R Q L f k n pc lv st :=
  fun E H locs ls hH hS hl => lv_iload_n E.1 E.2.1 d hi (lv_at hl j hj) (kk E H locs ls hH hS hl)
theorem k_iload {x : Int32} {i : Nat} (j : Nat) (d : decode cc pc = .ok (.iload i, 2)) (hj : lv[j]? = some (i, .int x)) (kk : k_G θ κ cc nL ret own R Q L f k n (pc + 2) lv (.int x :: st)) : k_G θ κ cc nL ret own R Q L f k n pc lv st :=
  fun E H locs ls hH hS hl => lv_iload E.1 E.2.1 d (lv_at hl j hj) (kk E H locs ls hH hS hl)
theorem k_lload_n {z : Fin 4} {x : Int64} (j i : Nat) (d : decode cc pc = .ok (.lload_n z, 1)) (hi : (z : Nat) = i) (hj : lv[j]? = some (i, .long x)) (kk : k_G θ κ cc nL ret own R Q L f k n (pc + 1) lv (.long x :: st)) : k_G θ κ cc nL ret own R Q L f k n pc lv st :=
  fun E H locs ls hH hS hl => lv_lload_n E.1 E.2.1 d hi (lv_at hl j hj) (kk E H locs ls hH hS hl)
theorem k_lload {x : Int64} {i : Nat} (j : Nat) (d : decode cc pc = .ok (.lload i, 2)) (hj : lv[j]? = some (i, .long x)) (kk : k_G θ κ cc nL ret own R Q L f k n (pc + 2) lv (.long x :: st)) : k_G θ κ cc nL ret own R Q L f k n pc lv st :=
  fun E H locs ls hH hS hl => lv_lload E.1 E.2.1 d (lv_at hl j hj) (kk E H locs ls hH hS hl)
theorem k_aload_n {z : Fin 4} {x : Nat} (j i : Nat) (d : decode cc pc = .ok (.aload_n z, 1)) (hi : (z : Nat) = i) (hj : lv[j]? = some (i, .ref x)) (kk : k_G θ κ cc nL ret own R Q L f k n (pc + 1) lv (.ref x :: st)) : k_G θ κ cc nL ret own R Q L f k n pc lv st :=
  fun E H locs ls hH hS hl => lv_aload_n E.1 E.2.1 d hi (lv_at hl j hj) (kk E H locs ls hH hS hl)
theorem k_aload {x : Nat} {i : Nat} (j : Nat) (d : decode cc pc = .ok (.aload i, 2)) (hj : lv[j]? = some (i, .ref x)) (kk : k_G θ κ cc nL ret own R Q L f k n (pc + 2) lv (.ref x :: st)) : k_G θ κ cc nL ret own R Q L f k n pc lv st :=
  fun E H locs ls hH hS hl => lv_aload E.1 E.2.1 d (lv_at hl j hj) (kk E H locs ls hH hS hl)
theorem k_istore_n {z : Fin 4} {x : Int32} (i : Nat) (lv' : List (Nat × Value)) (d : decode cc pc = .ok (.istore_n z, 1)) (hi : (z : Nat) = i) (hn : i < nL) (he : (i, Value.int x) :: lv.filter (fun q => !(q.1 == i) && !(q.1 + 1 == i && q.2.category == 2)) = lv') (kk : k_G θ κ cc nL ret own R Q L f k n (pc + 1) lv' st) : k_G θ κ cc nL ret own R Q L f k n pc lv (.int x :: st) :=
  fun E H locs ls hH hS hl => lv_istore_n E.1 E.2.1 d hi hl hn he (fun ls' hl' => kk E H locs ls' hH hS hl')
theorem k_istore {x : Int32} {i : Nat} (lv' : List (Nat × Value)) (d : decode cc pc = .ok (.istore i, 2)) (hn : i < nL) (he : (i, Value.int x) :: lv.filter (fun q => !(q.1 == i) && !(q.1 + 1 == i && q.2.category == 2)) = lv') (kk : k_G θ κ cc nL ret own R Q L f k n (pc + 2) lv' st) : k_G θ κ cc nL ret own R Q L f k n pc lv (.int x :: st) :=
  fun E H locs ls hH hS hl => lv_istore E.1 E.2.1 d hl hn he (fun ls' hl' => kk E H locs ls' hH hS hl')
theorem k_lstore_n {z : Fin 4} {x : Int64} (i : Nat) (lv' : List (Nat × Value)) (d : decode cc pc = .ok (.lstore_n z, 1)) (hi : (z : Nat) = i) (hn : i + 1 < nL) (he : (i, Value.long x) :: lv.filter (fun q => !(q.1 == i) && (!(q.1 == i + 1) && !(q.1 + 1 == i && q.2.category == 2))) = lv') (kk : k_G θ κ cc nL ret own R Q L f k n (pc + 1) lv' st) : k_G θ κ cc nL ret own R Q L f k n pc lv (.long x :: st) :=
  fun E H locs ls hH hS hl => lv_lstore_n E.1 E.2.1 d hi hl hn he (fun ls' hl' => kk E H locs ls' hH hS hl')
theorem k_lstore {x : Int64} {i : Nat} (lv' : List (Nat × Value)) (d : decode cc pc = .ok (.lstore i, 2)) (hn : i + 1 < nL) (he : (i, Value.long x) :: lv.filter (fun q => !(q.1 == i) && (!(q.1 == i + 1) && !(q.1 + 1 == i && q.2.category == 2))) = lv') (kk : k_G θ κ cc nL ret own R Q L f k n (pc + 2) lv' st) : k_G θ κ cc nL ret own R Q L f k n pc lv (.long x :: st) :=
  fun E H locs ls hH hS hl => lv_lstore E.1 E.2.1 d hl hn he (fun ls' hl' => kk E H locs ls' hH hS hl')
theorem k_astore_n {z : Fin 4} {x : Nat} (i : Nat) (lv' : List (Nat × Value)) (d : decode cc pc = .ok (.astore_n z, 1)) (hi : (z : Nat) = i) (hn : i < nL) (he : (i, Value.ref x) :: lv.filter (fun q => !(q.1 == i) && !(q.1 + 1 == i && q.2.category == 2)) = lv') (kk : k_G θ κ cc nL ret own R Q L f k n (pc + 1) lv' st) : k_G θ κ cc nL ret own R Q L f k n pc lv (.ref x :: st) :=
  fun E H locs ls hH hS hl => lv_astore_n E.1 E.2.1 d hi hl hn he (fun ls' hl' => kk E H locs ls' hH hS hl')
theorem k_astore {x : Nat} {i : Nat} (lv' : List (Nat × Value)) (d : decode cc pc = .ok (.astore i, 2)) (hn : i < nL) (he : (i, Value.ref x) :: lv.filter (fun q => !(q.1 == i) && !(q.1 + 1 == i && q.2.category == 2)) = lv') (kk : k_G θ κ cc nL ret own R Q L f k n (pc + 2) lv' st) : k_G θ κ cc nL ret own R Q L f k n pc lv (.ref x :: st) :=
  fun E H locs ls hH hS hl => lv_astore E.1 E.2.1 d hl hn he (fun ls' hl' => kk E H locs ls' hH hS hl')
theorem k_iinc {i : Nat} {z x : Int} (j : Nat) (lv' : List (Nat × Value)) (d : decode cc pc = .ok (.iinc i z, 3)) (hj : lv[j]? = some (i, .int (iI x))) (hn : i < nL) (he : (i, Value.int (iI (x + z))) :: lv.filter (fun q => !(q.1 == i) && !(q.1 + 1 == i && q.2.category == 2)) = lv') (kk : k_G θ κ cc nL ret own R Q L f k n (pc + 3) lv' st) : k_G θ κ cc nL ret own R Q L f k n pc lv st :=
  fun E H locs ls hH hS hl => lv_iinc E.1 E.2.1 d hl hj (iI_add x z) hn he (fun ls' hl' => kk E H locs ls' hH hS hl')
theorem k_perm (ks : List Nat) (lv' : List (Nat × Value)) (he : lv_pick lv ks = lv') (kk : k_G θ κ cc nL ret own R Q L f k n pc lv' st) : k_G θ κ cc nL ret own R Q L f k n pc lv st :=
  fun E H locs ls hH hS hl => kk E H locs ls hH hS (lv_sub hl ks he)
theorem k_iadd {x y : Int} (d : decode cc pc = .ok (.iadd, 1)) (kk : k_G θ κ cc nL ret own R Q L f k n (pc + 1) lv (.int (iI (x + y)) :: st)) : k_G θ κ cc nL ret own R Q L f k n pc lv (.int (iI y) :: .int (iI x) :: st) :=
  fun E H locs ls hH hS hl => lv_iadd E.1 E.2.1 d (by rw [iI_add]; exact kk E H locs ls hH hS hl)
theorem k_isub {x y : Int} (d : decode cc pc = .ok (.isub, 1)) (kk : k_G θ κ cc nL ret own R Q L f k n (pc + 1) lv (.int (iI (x - y)) :: st)) : k_G θ κ cc nL ret own R Q L f k n pc lv (.int (iI y) :: .int (iI x) :: st) :=
  fun E H locs ls hH hS hl => lv_isub E.1 E.2.1 d (by rw [iI_sub]; exact kk E H locs ls hH hS hl)
theorem k_imul {x y : Int} (d : decode cc pc = .ok (.imul, 1)) (kk : k_G θ κ cc nL ret own R Q L f k n (pc + 1) lv (.int (iI (x * y)) :: st)) : k_G θ κ cc nL ret own R Q L f k n pc lv (.int (iI y) :: .int (iI x) :: st) :=
  fun E H locs ls hH hS hl => lv_imul E.1 E.2.1 d (by rw [iI_mul]; exact kk E H locs ls hH hS hl)
theorem k_idiv {x y : Int} (d : decode cc pc = .ok (.idiv, 1)) (hx : inI x) (hy : inI y) (h0 : y ≠ 0) (kk : k_G θ κ cc nL ret own R Q L f k n (pc + 1) lv (.int (iI (x.tdiv y)) :: st)) : k_G θ κ cc nL ret own R Q L f k n pc lv (.int (iI y) :: .int (iI x) :: st) :=
  fun E H locs ls hH hS hl => lv_idiv E.1 E.2.1 d (iI_ne0 hy h0) (by rw [iI_div hx hy]; exact kk E H locs ls hH hS hl)
theorem k_irem {x y : Int} (d : decode cc pc = .ok (.irem, 1)) (hx : inI x) (hy : inI y) (h0 : y ≠ 0) (kk : k_G θ κ cc nL ret own R Q L f k n (pc + 1) lv (.int (iI (x.tmod y)) :: st)) : k_G θ κ cc nL ret own R Q L f k n pc lv (.int (iI y) :: .int (iI x) :: st) :=
  fun E H locs ls hH hS hl => lv_irem E.1 E.2.1 d (iI_ne0 hy h0) (by rw [iI_rem hx hy]; exact kk E H locs ls hH hS hl)
theorem k_ineg {x : Int} (d : decode cc pc = .ok (.ineg, 1)) (kk : k_G θ κ cc nL ret own R Q L f k n (pc + 1) lv (.int (iI (-x)) :: st)) : k_G θ κ cc nL ret own R Q L f k n pc lv (.int (iI x) :: st) :=
  fun E H locs ls hH hS hl => lv_ineg E.1 E.2.1 d (by rw [iI_neg]; exact kk E H locs ls hH hS hl)
theorem k_ladd {x y : Int} (d : decode cc pc = .ok (.ladd, 1)) (kk : k_G θ κ cc nL ret own R Q L f k n (pc + 1) lv (.long (lI (x + y)) :: st)) : k_G θ κ cc nL ret own R Q L f k n pc lv (.long (lI y) :: .long (lI x) :: st) :=
  fun E H locs ls hH hS hl => lv_ladd E.1 E.2.1 d (by rw [lI_add]; exact kk E H locs ls hH hS hl)
theorem k_lsub {x y : Int} (d : decode cc pc = .ok (.lsub, 1)) (kk : k_G θ κ cc nL ret own R Q L f k n (pc + 1) lv (.long (lI (x - y)) :: st)) : k_G θ κ cc nL ret own R Q L f k n pc lv (.long (lI y) :: .long (lI x) :: st) :=
  fun E H locs ls hH hS hl => lv_lsub E.1 E.2.1 d (by rw [lI_sub]; exact kk E H locs ls hH hS hl)
theorem k_lmul {x y : Int} (d : decode cc pc = .ok (.lmul, 1)) (kk : k_G θ κ cc nL ret own R Q L f k n (pc + 1) lv (.long (lI (x * y)) :: st)) : k_G θ κ cc nL ret own R Q L f k n pc lv (.long (lI y) :: .long (lI x) :: st) :=
  fun E H locs ls hH hS hl => lv_lmul E.1 E.2.1 d (by rw [lI_mul]; exact kk E H locs ls hH hS hl)
theorem k_ldiv {x y : Int} (d : decode cc pc = .ok (.ldiv, 1)) (hx : inL x) (hy : inL y) (h0 : y ≠ 0) (kk : k_G θ κ cc nL ret own R Q L f k n (pc + 1) lv (.long (lI (x.tdiv y)) :: st)) : k_G θ κ cc nL ret own R Q L f k n pc lv (.long (lI y) :: .long (lI x) :: st) :=
  fun E H locs ls hH hS hl => lv_ldiv E.1 E.2.1 d (lI_ne0 hy h0) (by rw [lI_div hx hy]; exact kk E H locs ls hH hS hl)
theorem k_lrem {x y : Int} (d : decode cc pc = .ok (.lrem, 1)) (hx : inL x) (hy : inL y) (h0 : y ≠ 0) (kk : k_G θ κ cc nL ret own R Q L f k n (pc + 1) lv (.long (lI (x.tmod y)) :: st)) : k_G θ κ cc nL ret own R Q L f k n pc lv (.long (lI y) :: .long (lI x) :: st) :=
  fun E H locs ls hH hS hl => lv_lrem E.1 E.2.1 d (lI_ne0 hy h0) (by rw [lI_rem hx hy]; exact kk E H locs ls hH hS hl)
theorem k_lneg {x : Int} (d : decode cc pc = .ok (.lneg, 1)) (kk : k_G θ κ cc nL ret own R Q L f k n (pc + 1) lv (.long (lI (-x)) :: st)) : k_G θ κ cc nL ret own R Q L f k n pc lv (.long (lI x) :: st) :=
  fun E H locs ls hH hS hl => lv_lneg E.1 E.2.1 d (by rw [lI_neg]; exact kk E H locs ls hH hS hl)
theorem k_i2l {x : Int} (d : decode cc pc = .ok (.i2l, 1)) (hx : inI x) (kk : k_G θ κ cc nL ret own R Q L f k n (pc + 1) lv (.long (lI x) :: st)) : k_G θ κ cc nL ret own R Q L f k n pc lv (.int (iI x) :: st) :=
  fun E H locs ls hH hS hl => lv_i2l E.1 E.2.1 d (iI_toL hx) (kk E H locs ls hH hS hl)
theorem k_l2i {x : Int} (d : decode cc pc = .ok (.l2i, 1)) (kk : k_G θ κ cc nL ret own R Q L f k n (pc + 1) lv (.int (iI x) :: st)) : k_G θ κ cc nL ret own R Q L f k n pc lv (.long (lI x) :: st) :=
  fun E H locs ls hH hS hl => lv_l2i E.1 E.2.1 d (lI_toI x) (kk E H locs ls hH hS hl)
theorem k_goto {off : Int} (tgt : Nat) (d : decode cc pc = .ok (.goto off, 3)) (ht : (pc : Int) + off = (tgt : Int)) (kk : k_G θ κ cc nL ret own R Q L f k n tgt lv st) : k_G θ κ cc nL ret own R Q L f k n pc lv st :=
  fun E H locs ls hH hS hl => lv_goto E.1 E.2.1 d ht (kk E H locs ls hH hS hl)
theorem k_dup {v : Value} (d : decode cc pc = .ok (.dup, 1)) (hv : v.category = 1) (kk : k_G θ κ cc nL ret own R Q L f k n (pc + 1) lv (v :: v :: st)) : k_G θ κ cc nL ret own R Q L f k n pc lv (v :: st) :=
  fun E H locs ls hH hS hl => lv_dup E.1 E.2.1 d hv (kk E H locs ls hH hS hl)
theorem k_pop {v : Value} (d : decode cc pc = .ok (.pop, 1)) (hv : v.category = 1) (kk : k_G θ κ cc nL ret own R Q L f k n (pc + 1) lv st) : k_G θ κ cc nL ret own R Q L f k n pc lv (v :: st) :=
  fun E H locs ls hH hS hl => lv_pop E.1 E.2.1 d hv (kk E H locs ls hH hS hl)
theorem k_dup_x1 {v w : Value} (d : decode cc pc = .ok (.dup_x1, 1)) (hv : v.category = 1) (hw : w.category = 1) (kk : k_G θ κ cc nL ret own R Q L f k n (pc + 1) lv (v :: w :: v :: st)) : k_G θ κ cc nL ret own R Q L f k n pc lv (v :: w :: st) :=
  fun E H locs ls hH hS hl => lv_dup_x1 E.1 E.2.1 d hv hw (kk E H locs ls hH hS hl)
theorem k_dup2 {v w : Value} (d : decode cc pc = .ok (.dup2, 1)) (hv : v.category = 1) (hw : w.category = 1) (kk : k_G θ κ cc nL ret own R Q L f k n (pc + 1) lv (v :: w :: v :: w :: st)) : k_G θ κ cc nL ret own R Q L f k n pc lv (v :: w :: st) :=
  fun E H locs ls hH hS hl => lv_dup2_11 E.1 E.2.1 d hv hw (kk E H locs ls hH hS hl)
theorem k_null (d : decode cc pc = .ok (.aconst_null, 1)) (kk : k_G θ κ cc nL ret own R Q L f k n (pc + 1) lv (.null :: st)) : k_G θ κ cc nL ret own R Q L f k n pc lv st :=
  fun E H locs ls hH hS hl => lv_null E.1 E.2.1 d (kk E H locs ls hH hS hl)
end Rows
