section zRows
variable {own : String} {cc : ByteArray} {nL : Nat} {rt : Option FieldType} {R : Room} {cs sl : Nat} {X : zXP} {E : zEP} {pc pc' : Nat} {L L' : List (Option Value)} {st : List Value} {h : zH}
theorem WG.iconst {n : Int} {v : Int32} (hdg : decode cc pc = .ok (.iconst n, 1)) (hp : pc + 1 = pc') (hv : Int32.ofInt n = v) (k : WG own cc nL rt R cs sl X E pc' L (.int v :: st) h) : WG own cc nL rt R cs sl X E pc L (st) h := by
  intro p l e s m args below meth c D cA ad A C hX H locs ls hP hD hS hl
  subst hp
  exact lv_iconst C.1 C.2.1 hdg hv (k p l e s m args below meth c D cA ad A C hX H locs ls hP hD hS hl)
theorem WG.bipush {n : Int} {v : Int32} (hdg : decode cc pc = .ok (.bipush n, 2)) (hp : pc + 2 = pc') (hv : (Int8.ofInt n).toInt32 = v) (k : WG own cc nL rt R cs sl X E pc' L (.int v :: st) h) : WG own cc nL rt R cs sl X E pc L (st) h := by
  intro p l e s m args below meth c D cA ad A C hX H locs ls hP hD hS hl
  subst hp
  exact lv_bipush C.1 C.2.1 hdg hv (k p l e s m args below meth c D cA ad A C hX H locs ls hP hD hS hl)
theorem WG.sipush {n : Int} {v : Int32} (hdg : decode cc pc = .ok (.sipush n, 3)) (hp : pc + 3 = pc') (hv : (Int16.ofInt n).toInt32 = v) (k : WG own cc nL rt R cs sl X E pc' L (.int v :: st) h) : WG own cc nL rt R cs sl X E pc L (st) h := by
  intro p l e s m args below meth c D cA ad A C hX H locs ls hP hD hS hl
  subst hp
  exact lv_sipush C.1 C.2.1 hdg hv (k p l e s m args below meth c D cA ad A C hX H locs ls hP hD hS hl)
theorem WG.lconst {n : Fin 2} {v : Int64} (hdg : decode cc pc = .ok (.lconst n, 1)) (hp : pc + 1 = pc') (hv : Int64.ofNat (n : Nat) = v) (k : WG own cc nL rt R cs sl X E pc' L (.long v :: st) h) : WG own cc nL rt R cs sl X E pc L (st) h := by
  intro p l e s m args below meth c D cA ad A C hX H locs ls hP hD hS hl
  subst hp
  exact lv_lconst C.1 C.2.1 hdg hv (k p l e s m args below meth c D cA ad A C hX H locs ls hP hD hS hl)
theorem WG.ldc {index : Nat} {v : Int32} (hdg : decode cc pc = .ok (.ldc index, 2)) (hp : pc + 2 = pc') (hc : Cond.constant own index v ∈ ztb) (k : WG own cc nL rt R cs sl X E pc' L (.int v :: st) h) : WG own cc nL rt R cs sl X E pc L st h := by
  intro p l e s m args below meth c D cA ad A C hX H locs ls hP hD hS hl
  subst hp
  exact lv_ldc C.1 C.2.1 C.2.2.2.2.2.1 (C.2.2.2.2.2.2.1 _ hc) hdg (k p l e s m args below meth c D cA ad A C hX H locs ls hP hD hS hl)
theorem WG.ldcw {index : Nat} {v : Int32} (hdg : decode cc pc = .ok (.ldc_w index, 3)) (hp : pc + 3 = pc') (hc : Cond.constant own index v ∈ ztb) (k : WG own cc nL rt R cs sl X E pc' L (.int v :: st) h) : WG own cc nL rt R cs sl X E pc L st h := by
  intro p l e s m args below meth c D cA ad A C hX H locs ls hP hD hS hl
  subst hp
  exact lv_ldcw C.1 C.2.1 C.2.2.2.2.2.1 (C.2.2.2.2.2.2.1 _ hc) hdg (k p l e s m args below meth c D cA ad A C hX H locs ls hP hD hS hl)
theorem WG.ldc2 {index : Nat} {v : Int64} (hdg : decode cc pc = .ok (.ldc2_w index, 3)) (hp : pc + 3 = pc') (hc : Cond.constantLong own index v ∈ ztb) (k : WG own cc nL rt R cs sl X E pc' L (.long v :: st) h) : WG own cc nL rt R cs sl X E pc L st h := by
  intro p l e s m args below meth c D cA ad A C hX H locs ls hP hD hS hl
  subst hp
  exact lv_ldc2 C.1 C.2.1 C.2.2.2.2.2.1 (C.2.2.2.2.2.2.1 _ hc) hdg (k p l e s m args below meth c D cA ad A C hX H locs ls hP hD hS hl)
theorem WG.ldcS {index i : Nat} (hdg : decode cc pc = .ok (.ldc index, 2)) (hp : pc + 2 = pc') (ho : own = RX2) (hi : i < 6) (hx : zix i = index) (k : WG own cc nL rt R cs sl X E pc' L (.ref (1000 + i) :: st) h) : WG own cc nL rt R cs sl X E pc L st h := by
  intro p l e s m args below meth c D cA ad A C hX H locs ls hP hD hS hl
  subst hp; subst ho; subst hx
  exact va_ldcS C.1 C.2.1 C.2.2.2.2.2.1 (C.2.2.2.2.2.2.2.2.2.2.1 i hi) hdg (k p l e s m args below meth c D cA ad A C hX H locs ls hP hD hS hl)
theorem WG.iload {i : Nat} {x : Int32} (hdg : decode cc pc = .ok (.iload i, 2)) (hp : pc + 2 = pc') (hg : zg L i = some (.int x)) (k : WG own cc nL rt R cs sl X E pc' L (.int x :: st) h) : WG own cc nL rt R cs sl X E pc L st h := by
  intro p l e s m args below meth c D cA ad A C hX H locs ls hP hD hS hl
  subst hp
  exact lv_iload C.1 C.2.1 hdg (zlh_at hl hg) (k p l e s m args below meth c D cA ad A C hX H locs ls hP hD hS hl)
theorem WG.iload_n {n : Fin 4} {x : Int32} (hdg : decode cc pc = .ok (.iload_n n, 1)) (hp : pc + 1 = pc') (hg : zg L n.val = some (.int x)) (k : WG own cc nL rt R cs sl X E pc' L (.int x :: st) h) : WG own cc nL rt R cs sl X E pc L st h := by
  intro p l e s m args below meth c D cA ad A C hX H locs ls hP hD hS hl
  subst hp
  exact lv_iload_n C.1 C.2.1 hdg rfl (zlh_at hl hg) (k p l e s m args below meth c D cA ad A C hX H locs ls hP hD hS hl)
theorem WG.istore {i : Nat} {x : Int32} (hdg : decode cc pc = .ok (.istore i, 2)) (hp : pc + 2 = pc') (hn : i < nL) (hL : zs1 L i (.int x) = L') (k : WG own cc nL rt R cs sl X E pc' L' st h) : WG own cc nL rt R cs sl X E pc L (.int x :: st) h := by
  intro p l e s m args below meth c D cA ad A C hX H locs ls hP hD hS hl
  subst hp; subst hL
  exact lv_istore C.1 C.2.1 hdg hl hn rfl (fun ls hl => k p l e s m args below meth c D cA ad A C hX H locs ls hP hD hS (zlh_1 (v := .int x) hl))
theorem WG.istore_n {n : Fin 4} {x : Int32} (hdg : decode cc pc = .ok (.istore_n n, 1)) (hp : pc + 1 = pc') (hn : n.val < nL) (hL : zs1 L n.val (.int x) = L') (k : WG own cc nL rt R cs sl X E pc' L' st h) : WG own cc nL rt R cs sl X E pc L (.int x :: st) h := by
  intro p l e s m args below meth c D cA ad A C hX H locs ls hP hD hS hl
  subst hp; subst hL
  exact lv_istore_n C.1 C.2.1 hdg rfl hl hn rfl (fun ls hl => k p l e s m args below meth c D cA ad A C hX H locs ls hP hD hS (zlh_1 (v := .int x) hl))
theorem WG.lload {i : Nat} {x : Int64} (hdg : decode cc pc = .ok (.lload i, 2)) (hp : pc + 2 = pc') (hg : zg L i = some (.long x)) (k : WG own cc nL rt R cs sl X E pc' L (.long x :: st) h) : WG own cc nL rt R cs sl X E pc L st h := by
  intro p l e s m args below meth c D cA ad A C hX H locs ls hP hD hS hl
  subst hp
  exact lv_lload C.1 C.2.1 hdg (zlh_at hl hg) (k p l e s m args below meth c D cA ad A C hX H locs ls hP hD hS hl)
theorem WG.lload_n {n : Fin 4} {x : Int64} (hdg : decode cc pc = .ok (.lload_n n, 1)) (hp : pc + 1 = pc') (hg : zg L n.val = some (.long x)) (k : WG own cc nL rt R cs sl X E pc' L (.long x :: st) h) : WG own cc nL rt R cs sl X E pc L st h := by
  intro p l e s m args below meth c D cA ad A C hX H locs ls hP hD hS hl
  subst hp
  exact lv_lload_n C.1 C.2.1 hdg rfl (zlh_at hl hg) (k p l e s m args below meth c D cA ad A C hX H locs ls hP hD hS hl)
theorem WG.lstore {i : Nat} {x : Int64} (hdg : decode cc pc = .ok (.lstore i, 2)) (hp : pc + 2 = pc') (hn : i + 1 < nL) (hL : zs2 L i (.long x) = L') (k : WG own cc nL rt R cs sl X E pc' L' st h) : WG own cc nL rt R cs sl X E pc L (.long x :: st) h := by
  intro p l e s m args below meth c D cA ad A C hX H locs ls hP hD hS hl
  subst hp; subst hL
  exact lv_lstore C.1 C.2.1 hdg hl hn rfl (fun ls hl => k p l e s m args below meth c D cA ad A C hX H locs ls hP hD hS (zlh_2 (v := .long x) hl))
theorem WG.lstore_n {n : Fin 4} {x : Int64} (hdg : decode cc pc = .ok (.lstore_n n, 1)) (hp : pc + 1 = pc') (hn : n.val + 1 < nL) (hL : zs2 L n.val (.long x) = L') (k : WG own cc nL rt R cs sl X E pc' L' st h) : WG own cc nL rt R cs sl X E pc L (.long x :: st) h := by
  intro p l e s m args below meth c D cA ad A C hX H locs ls hP hD hS hl
  subst hp; subst hL
  exact lv_lstore_n C.1 C.2.1 hdg rfl hl hn rfl (fun ls hl => k p l e s m args below meth c D cA ad A C hX H locs ls hP hD hS (zlh_2 (v := .long x) hl))
theorem WG.aload {i : Nat} {x : Nat} (hdg : decode cc pc = .ok (.aload i, 2)) (hp : pc + 2 = pc') (hg : zg L i = some (.ref x)) (k : WG own cc nL rt R cs sl X E pc' L (.ref x :: st) h) : WG own cc nL rt R cs sl X E pc L st h := by
  intro p l e s m args below meth c D cA ad A C hX H locs ls hP hD hS hl
  subst hp
  exact lv_aload C.1 C.2.1 hdg (zlh_at hl hg) (k p l e s m args below meth c D cA ad A C hX H locs ls hP hD hS hl)
theorem WG.aload_n {n : Fin 4} {x : Nat} (hdg : decode cc pc = .ok (.aload_n n, 1)) (hp : pc + 1 = pc') (hg : zg L n.val = some (.ref x)) (k : WG own cc nL rt R cs sl X E pc' L (.ref x :: st) h) : WG own cc nL rt R cs sl X E pc L st h := by
  intro p l e s m args below meth c D cA ad A C hX H locs ls hP hD hS hl
  subst hp
  exact lv_aload_n C.1 C.2.1 hdg rfl (zlh_at hl hg) (k p l e s m args below meth c D cA ad A C hX H locs ls hP hD hS hl)
theorem WG.astore {i : Nat} {x : Nat} (hdg : decode cc pc = .ok (.astore i, 2)) (hp : pc + 2 = pc') (hn : i < nL) (hL : zs1 L i (.ref x) = L') (k : WG own cc nL rt R cs sl X E pc' L' st h) : WG own cc nL rt R cs sl X E pc L (.ref x :: st) h := by
  intro p l e s m args below meth c D cA ad A C hX H locs ls hP hD hS hl
  subst hp; subst hL
  exact lv_astore C.1 C.2.1 hdg hl hn rfl (fun ls hl => k p l e s m args below meth c D cA ad A C hX H locs ls hP hD hS (zlh_1 (v := .ref x) hl))
theorem WG.astore_n {n : Fin 4} {x : Nat} (hdg : decode cc pc = .ok (.astore_n n, 1)) (hp : pc + 1 = pc') (hn : n.val < nL) (hL : zs1 L n.val (.ref x) = L') (k : WG own cc nL rt R cs sl X E pc' L' st h) : WG own cc nL rt R cs sl X E pc L (.ref x :: st) h := by
  intro p l e s m args below meth c D cA ad A C hX H locs ls hP hD hS hl
  subst hp; subst hL
  exact lv_astore_n C.1 C.2.1 hdg rfl hl hn rfl (fun ls hl => k p l e s m args below meth c D cA ad A C hX H locs ls hP hD hS (zlh_1 (v := .ref x) hl))
theorem WG.iinc {i : Nat} {n : Int} {x v : Int32} (hdg : decode cc pc = .ok (.iinc i n, 3)) (hp : pc + 3 = pc') (hg : zg L i = some (.int x)) (hv : x + Int32.ofInt n = v) (hn : i < nL) (hL : zs1 L i (.int v) = L') (k : WG own cc nL rt R cs sl X E pc' L' st h) : WG own cc nL rt R cs sl X E pc L st h := by
  intro p l e s m args below meth c D cA ad A C hX H locs ls hP hD hS hl
  subst hp; subst hL
  obtain ⟨j, hj⟩ := List.getElem?_of_mem (zprs_in (ad := ad) hg)
  exact lv_iinc C.1 C.2.1 hdg hl hj hv hn rfl (fun ls hl => k p l e s m args below meth c D cA ad A C hX H locs ls hP hD hS (zlh_1 (v := .int v) hl))
theorem WG.pop {v : Value} (hdg : decode cc pc = .ok (.pop, 1)) (hp : pc + 1 = pc') (hv : v.category = 1) (k : WG own cc nL rt R cs sl X E pc' L (st) h) : WG own cc nL rt R cs sl X E pc L (v :: st) h := by
  intro p l e s m args below meth c D cA ad A C hX H locs ls hP hD hS hl
  subst hp
  exact lv_pop C.1 C.2.1 hdg (by rw [zt_cat]; exact hv) (k p l e s m args below meth c D cA ad A C hX H locs ls hP hD hS hl)
theorem WG.dup {v : Value} (hdg : decode cc pc = .ok (.dup, 1)) (hp : pc + 1 = pc') (hv : v.category = 1) (k : WG own cc nL rt R cs sl X E pc' L (v :: v :: st) h) : WG own cc nL rt R cs sl X E pc L (v :: st) h := by
  intro p l e s m args below meth c D cA ad A C hX H locs ls hP hD hS hl
  subst hp
  exact lv_dup C.1 C.2.1 hdg (by rw [zt_cat]; exact hv) (k p l e s m args below meth c D cA ad A C hX H locs ls hP hD hS hl)
theorem WG.dup2 {v u : Value} (hdg : decode cc pc = .ok (.dup2, 1)) (hp : pc + 1 = pc') (hv : v.category = 1) (hu : u.category = 1) (k : WG own cc nL rt R cs sl X E pc' L (v :: u :: v :: u :: st) h) : WG own cc nL rt R cs sl X E pc L (v :: u :: st) h := by
  intro p l e s m args below meth c D cA ad A C hX H locs ls hP hD hS hl
  subst hp
  exact lv_dup2_11 C.1 C.2.1 hdg (by rw [zt_cat]; exact hv) (by rw [zt_cat]; exact hu) (k p l e s m args below meth c D cA ad A C hX H locs ls hP hD hS hl)
theorem WG.iadd {x y : Int32} (hdg : decode cc pc = .ok (.iadd, 1)) (hp : pc + 1 = pc')  (k : WG own cc nL rt R cs sl X E pc' L (.int (x + y) :: st) h) : WG own cc nL rt R cs sl X E pc L (.int y :: .int x :: st) h := by
  intro p l e s m args below meth c D cA ad A C hX H locs ls hP hD hS hl
  subst hp
  exact lv_iadd C.1 C.2.1 hdg  (k p l e s m args below meth c D cA ad A C hX H locs ls hP hD hS hl)
theorem WG.isub {x y : Int32} (hdg : decode cc pc = .ok (.isub, 1)) (hp : pc + 1 = pc')  (k : WG own cc nL rt R cs sl X E pc' L (.int (x - y) :: st) h) : WG own cc nL rt R cs sl X E pc L (.int y :: .int x :: st) h := by
  intro p l e s m args below meth c D cA ad A C hX H locs ls hP hD hS hl
  subst hp
  exact lv_isub C.1 C.2.1 hdg  (k p l e s m args below meth c D cA ad A C hX H locs ls hP hD hS hl)
theorem WG.imul {x y : Int32} (hdg : decode cc pc = .ok (.imul, 1)) (hp : pc + 1 = pc')  (k : WG own cc nL rt R cs sl X E pc' L (.int (x * y) :: st) h) : WG own cc nL rt R cs sl X E pc L (.int y :: .int x :: st) h := by
  intro p l e s m args below meth c D cA ad A C hX H locs ls hP hD hS hl
  subst hp
  exact lv_imul C.1 C.2.1 hdg  (k p l e s m args below meth c D cA ad A C hX H locs ls hP hD hS hl)
theorem WG.ishl {x y : Int32} (hdg : decode cc pc = .ok (.ishl, 1)) (hp : pc + 1 = pc')  (k : WG own cc nL rt R cs sl X E pc' L (.int (x <<< (y &&& 31)) :: st) h) : WG own cc nL rt R cs sl X E pc L (.int y :: .int x :: st) h := by
  intro p l e s m args below meth c D cA ad A C hX H locs ls hP hD hS hl
  subst hp
  exact lv_ishl C.1 C.2.1 hdg  (k p l e s m args below meth c D cA ad A C hX H locs ls hP hD hS hl)
theorem WG.ishr {x y : Int32} (hdg : decode cc pc = .ok (.ishr, 1)) (hp : pc + 1 = pc')  (k : WG own cc nL rt R cs sl X E pc' L (.int (x >>> (y &&& 31)) :: st) h) : WG own cc nL rt R cs sl X E pc L (.int y :: .int x :: st) h := by
  intro p l e s m args below meth c D cA ad A C hX H locs ls hP hD hS hl
  subst hp
  exact lv_ishr C.1 C.2.1 hdg  (k p l e s m args below meth c D cA ad A C hX H locs ls hP hD hS hl)
theorem WG.iand {x y : Int32} (hdg : decode cc pc = .ok (.iand, 1)) (hp : pc + 1 = pc')  (k : WG own cc nL rt R cs sl X E pc' L (.int (x &&& y) :: st) h) : WG own cc nL rt R cs sl X E pc L (.int y :: .int x :: st) h := by
  intro p l e s m args below meth c D cA ad A C hX H locs ls hP hD hS hl
  subst hp
  exact lv_iand C.1 C.2.1 hdg  (k p l e s m args below meth c D cA ad A C hX H locs ls hP hD hS hl)
theorem WG.ior {x y : Int32} (hdg : decode cc pc = .ok (.ior, 1)) (hp : pc + 1 = pc')  (k : WG own cc nL rt R cs sl X E pc' L (.int (x ||| y) :: st) h) : WG own cc nL rt R cs sl X E pc L (.int y :: .int x :: st) h := by
  intro p l e s m args below meth c D cA ad A C hX H locs ls hP hD hS hl
  subst hp
  exact lv_ior C.1 C.2.1 hdg  (k p l e s m args below meth c D cA ad A C hX H locs ls hP hD hS hl)
theorem WG.ixor {x y : Int32} (hdg : decode cc pc = .ok (.ixor, 1)) (hp : pc + 1 = pc')  (k : WG own cc nL rt R cs sl X E pc' L (.int (x ^^^ y) :: st) h) : WG own cc nL rt R cs sl X E pc L (.int y :: .int x :: st) h := by
  intro p l e s m args below meth c D cA ad A C hX H locs ls hP hD hS hl
  subst hp
  exact lv_ixor C.1 C.2.1 hdg  (k p l e s m args below meth c D cA ad A C hX H locs ls hP hD hS hl)
theorem WG.idiv {x y : Int32} (hdg : decode cc pc = .ok (.idiv, 1)) (hp : pc + 1 = pc') (hne : ¬ y = 0) (k : WG own cc nL rt R cs sl X E pc' L (.int (x / y) :: st) h) : WG own cc nL rt R cs sl X E pc L (.int y :: .int x :: st) h := by
  intro p l e s m args below meth c D cA ad A C hX H locs ls hP hD hS hl
  subst hp
  exact lv_idiv C.1 C.2.1 hdg hne (k p l e s m args below meth c D cA ad A C hX H locs ls hP hD hS hl)
theorem WG.irem {x y : Int32} (hdg : decode cc pc = .ok (.irem, 1)) (hp : pc + 1 = pc') (hne : ¬ y = 0) (k : WG own cc nL rt R cs sl X E pc' L (.int (x - x / y * y) :: st) h) : WG own cc nL rt R cs sl X E pc L (.int y :: .int x :: st) h := by
  intro p l e s m args below meth c D cA ad A C hX H locs ls hP hD hS hl
  subst hp
  exact lv_irem C.1 C.2.1 hdg hne (k p l e s m args below meth c D cA ad A C hX H locs ls hP hD hS hl)
theorem WG.ineg {x : Int32} (hdg : decode cc pc = .ok (.ineg, 1)) (hp : pc + 1 = pc')  (k : WG own cc nL rt R cs sl X E pc' L (.int (-x) :: st) h) : WG own cc nL rt R cs sl X E pc L (.int x :: st) h := by
  intro p l e s m args below meth c D cA ad A C hX H locs ls hP hD hS hl
  subst hp
  exact lv_ineg C.1 C.2.1 hdg  (k p l e s m args below meth c D cA ad A C hX H locs ls hP hD hS hl)
theorem WG.iushr {x y : Int32} (hdg : decode cc pc = .ok (.iushr, 1)) (hp : pc + 1 = pc')  (k : WG own cc nL rt R cs sl X E pc' L (.int ((x.toUInt32 >>> (y.toUInt32 &&& Int32.toUInt32 31)).toInt32) :: st) h) : WG own cc nL rt R cs sl X E pc L (.int y :: .int x :: st) h := by
  intro p l e s m args below meth c D cA ad A C hX H locs ls hP hD hS hl
  subst hp
  exact lv_iushr C.1 C.2.1 hdg rfl (k p l e s m args below meth c D cA ad A C hX H locs ls hP hD hS hl)
theorem WG.ladd {x y : Int64} (hdg : decode cc pc = .ok (.ladd, 1)) (hp : pc + 1 = pc')  (k : WG own cc nL rt R cs sl X E pc' L (.long (x + y) :: st) h) : WG own cc nL rt R cs sl X E pc L (.long y :: .long x :: st) h := by
  intro p l e s m args below meth c D cA ad A C hX H locs ls hP hD hS hl
  subst hp
  exact lv_ladd C.1 C.2.1 hdg  (k p l e s m args below meth c D cA ad A C hX H locs ls hP hD hS hl)
theorem WG.lsub {x y : Int64} (hdg : decode cc pc = .ok (.lsub, 1)) (hp : pc + 1 = pc')  (k : WG own cc nL rt R cs sl X E pc' L (.long (x - y) :: st) h) : WG own cc nL rt R cs sl X E pc L (.long y :: .long x :: st) h := by
  intro p l e s m args below meth c D cA ad A C hX H locs ls hP hD hS hl
  subst hp
  exact lv_lsub C.1 C.2.1 hdg  (k p l e s m args below meth c D cA ad A C hX H locs ls hP hD hS hl)
theorem WG.lmul {x y : Int64} (hdg : decode cc pc = .ok (.lmul, 1)) (hp : pc + 1 = pc')  (k : WG own cc nL rt R cs sl X E pc' L (.long (x * y) :: st) h) : WG own cc nL rt R cs sl X E pc L (.long y :: .long x :: st) h := by
  intro p l e s m args below meth c D cA ad A C hX H locs ls hP hD hS hl
  subst hp
  exact lv_lmul C.1 C.2.1 hdg  (k p l e s m args below meth c D cA ad A C hX H locs ls hP hD hS hl)
theorem WG.land {x y : Int64} (hdg : decode cc pc = .ok (.land, 1)) (hp : pc + 1 = pc')  (k : WG own cc nL rt R cs sl X E pc' L (.long (x &&& y) :: st) h) : WG own cc nL rt R cs sl X E pc L (.long y :: .long x :: st) h := by
  intro p l e s m args below meth c D cA ad A C hX H locs ls hP hD hS hl
  subst hp
  exact lv_land C.1 C.2.1 hdg  (k p l e s m args below meth c D cA ad A C hX H locs ls hP hD hS hl)
theorem WG.lor {x y : Int64} (hdg : decode cc pc = .ok (.lor, 1)) (hp : pc + 1 = pc')  (k : WG own cc nL rt R cs sl X E pc' L (.long (x ||| y) :: st) h) : WG own cc nL rt R cs sl X E pc L (.long y :: .long x :: st) h := by
  intro p l e s m args below meth c D cA ad A C hX H locs ls hP hD hS hl
  subst hp
  exact lv_lor C.1 C.2.1 hdg  (k p l e s m args below meth c D cA ad A C hX H locs ls hP hD hS hl)
theorem WG.ldiv {x y : Int64} (hdg : decode cc pc = .ok (.ldiv, 1)) (hp : pc + 1 = pc') (hne : ¬ y = 0) (k : WG own cc nL rt R cs sl X E pc' L (.long (x / y) :: st) h) : WG own cc nL rt R cs sl X E pc L (.long y :: .long x :: st) h := by
  intro p l e s m args below meth c D cA ad A C hX H locs ls hP hD hS hl
  subst hp
  exact lv_ldiv C.1 C.2.1 hdg hne (k p l e s m args below meth c D cA ad A C hX H locs ls hP hD hS hl)
theorem WG.lrem {x y : Int64} (hdg : decode cc pc = .ok (.lrem, 1)) (hp : pc + 1 = pc') (hne : ¬ y = 0) (k : WG own cc nL rt R cs sl X E pc' L (.long (x - x / y * y) :: st) h) : WG own cc nL rt R cs sl X E pc L (.long y :: .long x :: st) h := by
  intro p l e s m args below meth c D cA ad A C hX H locs ls hP hD hS hl
  subst hp
  exact lv_lrem C.1 C.2.1 hdg hne (k p l e s m args below meth c D cA ad A C hX H locs ls hP hD hS hl)
theorem WG.lneg {x : Int64} (hdg : decode cc pc = .ok (.lneg, 1)) (hp : pc + 1 = pc')  (k : WG own cc nL rt R cs sl X E pc' L (.long (-x) :: st) h) : WG own cc nL rt R cs sl X E pc L (.long x :: st) h := by
  intro p l e s m args below meth c D cA ad A C hX H locs ls hP hD hS hl
  subst hp
  exact lv_lneg C.1 C.2.1 hdg  (k p l e s m args below meth c D cA ad A C hX H locs ls hP hD hS hl)
theorem WG.lshl {x : Int64} {y : Int32} (hdg : decode cc pc = .ok (.lshl, 1)) (hp : pc + 1 = pc')  (k : WG own cc nL rt R cs sl X E pc' L (.long (x <<< (y.toInt64 &&& 63)) :: st) h) : WG own cc nL rt R cs sl X E pc L (.int y :: .long x :: st) h := by
  intro p l e s m args below meth c D cA ad A C hX H locs ls hP hD hS hl
  subst hp
  exact lv_lshl C.1 C.2.1 hdg rfl (k p l e s m args below meth c D cA ad A C hX H locs ls hP hD hS hl)
theorem WG.lshr {x : Int64} {y : Int32} (hdg : decode cc pc = .ok (.lshr, 1)) (hp : pc + 1 = pc')  (k : WG own cc nL rt R cs sl X E pc' L (.long (x >>> (y.toInt64 &&& 63)) :: st) h) : WG own cc nL rt R cs sl X E pc L (.int y :: .long x :: st) h := by
  intro p l e s m args below meth c D cA ad A C hX H locs ls hP hD hS hl
  subst hp
  exact lv_lshr C.1 C.2.1 hdg rfl (k p l e s m args below meth c D cA ad A C hX H locs ls hP hD hS hl)
theorem WG.lushr {x : Int64} {y : Int32} (hdg : decode cc pc = .ok (.lushr, 1)) (hp : pc + 1 = pc')  (k : WG own cc nL rt R cs sl X E pc' L (.long ((x.toUInt64 >>> (y.toInt64.toUInt64 &&& Int64.toUInt64 63)).toInt64) :: st) h) : WG own cc nL rt R cs sl X E pc L (.int y :: .long x :: st) h := by
  intro p l e s m args below meth c D cA ad A C hX H locs ls hP hD hS hl
  subst hp
  exact lv_lushr C.1 C.2.1 hdg rfl (k p l e s m args below meth c D cA ad A C hX H locs ls hP hD hS hl)
theorem WG.lcmp {x y : Int64} (hdg : decode cc pc = .ok (.lcmp, 1)) (hp : pc + 1 = pc')  (k : WG own cc nL rt R cs sl X E pc' L (.int (lg_cmp x y) :: st) h) : WG own cc nL rt R cs sl X E pc L (.long y :: .long x :: st) h := by
  intro p l e s m args below meth c D cA ad A C hX H locs ls hP hD hS hl
  subst hp
  exact W.lcmp C.1 C.2.1 hdg  (k p l e s m args below meth c D cA ad A C hX H locs ls hP hD hS hl)
theorem WG.i2l {x : Int32} (hdg : decode cc pc = .ok (.i2l, 1)) (hp : pc + 1 = pc')  (k : WG own cc nL rt R cs sl X E pc' L (.long x.toInt64 :: st) h) : WG own cc nL rt R cs sl X E pc L (.int x :: st) h := by
  intro p l e s m args below meth c D cA ad A C hX H locs ls hP hD hS hl
  subst hp
  exact lv_i2l C.1 C.2.1 hdg rfl (k p l e s m args below meth c D cA ad A C hX H locs ls hP hD hS hl)
theorem WG.l2i {x : Int64} (hdg : decode cc pc = .ok (.l2i, 1)) (hp : pc + 1 = pc')  (k : WG own cc nL rt R cs sl X E pc' L (.int x.toInt32 :: st) h) : WG own cc nL rt R cs sl X E pc L (.long x :: st) h := by
  intro p l e s m args below meth c D cA ad A C hX H locs ls hP hD hS hl
  subst hp
  exact lv_l2i C.1 C.2.1 hdg rfl (k p l e s m args below meth c D cA ad A C hX H locs ls hP hD hS hl)
theorem WG.if_eq {x : Int32} {off : Int} {tgt : Nat} (hdg : decode cc pc = .ok (.ifCond .eq off, 3)) (hp : pc + 3 = pc') (ht : (pc : Int) + off = (tgt : Int)) (kt : x = 0 → WG own cc nL rt R cs sl X E tgt L st h) (kf : ¬ (x = 0) → WG own cc nL rt R cs sl X E pc' L st h) : WG own cc nL rt R cs sl X E pc L (.int x :: st) h := by
  intro p l e s m args below meth c D cA ad A C hX H locs ls hP hD hS hl
  subst hp
  exact lv_if_eq C.1 C.2.1 hdg ht (fun q => kt q p l e s m args below meth c D cA ad A C hX H locs ls hP hD hS hl) (fun q => kf q p l e s m args below meth c D cA ad A C hX H locs ls hP hD hS hl)
theorem WG.if_ne {x : Int32} {off : Int} {tgt : Nat} (hdg : decode cc pc = .ok (.ifCond .ne off, 3)) (hp : pc + 3 = pc') (ht : (pc : Int) + off = (tgt : Int)) (kt : x ≠ 0 → WG own cc nL rt R cs sl X E tgt L st h) (kf : x = 0 → WG own cc nL rt R cs sl X E pc' L st h) : WG own cc nL rt R cs sl X E pc L (.int x :: st) h := by
  intro p l e s m args below meth c D cA ad A C hX H locs ls hP hD hS hl
  subst hp
  exact lv_if_ne C.1 C.2.1 hdg ht (fun q => kt q p l e s m args below meth c D cA ad A C hX H locs ls hP hD hS hl) (fun q => kf q p l e s m args below meth c D cA ad A C hX H locs ls hP hD hS hl)
theorem WG.if_lt {x : Int32} {off : Int} {tgt : Nat} (hdg : decode cc pc = .ok (.ifCond .lt off, 3)) (hp : pc + 3 = pc') (ht : (pc : Int) + off = (tgt : Int)) (kt : x < 0 → WG own cc nL rt R cs sl X E tgt L st h) (kf : ¬ (x < 0) → WG own cc nL rt R cs sl X E pc' L st h) : WG own cc nL rt R cs sl X E pc L (.int x :: st) h := by
  intro p l e s m args below meth c D cA ad A C hX H locs ls hP hD hS hl
  subst hp
  exact lv_if_lt C.1 C.2.1 hdg ht (fun q => kt q p l e s m args below meth c D cA ad A C hX H locs ls hP hD hS hl) (fun q => kf q p l e s m args below meth c D cA ad A C hX H locs ls hP hD hS hl)
theorem WG.if_ge {x : Int32} {off : Int} {tgt : Nat} (hdg : decode cc pc = .ok (.ifCond .ge off, 3)) (hp : pc + 3 = pc') (ht : (pc : Int) + off = (tgt : Int)) (kt : 0 ≤ x → WG own cc nL rt R cs sl X E tgt L st h) (kf : ¬ (0 ≤ x) → WG own cc nL rt R cs sl X E pc' L st h) : WG own cc nL rt R cs sl X E pc L (.int x :: st) h := by
  intro p l e s m args below meth c D cA ad A C hX H locs ls hP hD hS hl
  subst hp
  exact lv_if_ge C.1 C.2.1 hdg ht (fun q => kt q p l e s m args below meth c D cA ad A C hX H locs ls hP hD hS hl) (fun q => kf q p l e s m args below meth c D cA ad A C hX H locs ls hP hD hS hl)
theorem WG.if_gt {x : Int32} {off : Int} {tgt : Nat} (hdg : decode cc pc = .ok (.ifCond .gt off, 3)) (hp : pc + 3 = pc') (ht : (pc : Int) + off = (tgt : Int)) (kt : 0 < x → WG own cc nL rt R cs sl X E tgt L st h) (kf : ¬ (0 < x) → WG own cc nL rt R cs sl X E pc' L st h) : WG own cc nL rt R cs sl X E pc L (.int x :: st) h := by
  intro p l e s m args below meth c D cA ad A C hX H locs ls hP hD hS hl
  subst hp
  exact lv_if_gt C.1 C.2.1 hdg ht (fun q => kt q p l e s m args below meth c D cA ad A C hX H locs ls hP hD hS hl) (fun q => kf q p l e s m args below meth c D cA ad A C hX H locs ls hP hD hS hl)
theorem WG.if_le {x : Int32} {off : Int} {tgt : Nat} (hdg : decode cc pc = .ok (.ifCond .le off, 3)) (hp : pc + 3 = pc') (ht : (pc : Int) + off = (tgt : Int)) (kt : x ≤ 0 → WG own cc nL rt R cs sl X E tgt L st h) (kf : ¬ (x ≤ 0) → WG own cc nL rt R cs sl X E pc' L st h) : WG own cc nL rt R cs sl X E pc L (.int x :: st) h := by
  intro p l e s m args below meth c D cA ad A C hX H locs ls hP hD hS hl
  subst hp
  exact lv_if_le C.1 C.2.1 hdg ht (fun q => kt q p l e s m args below meth c D cA ad A C hX H locs ls hP hD hS hl) (fun q => kf q p l e s m args below meth c D cA ad A C hX H locs ls hP hD hS hl)
theorem WG.icmp_eq {x y : Int32} {off : Int} {tgt : Nat} (hdg : decode cc pc = .ok (.if_icmp .eq off, 3)) (hp : pc + 3 = pc') (ht : (pc : Int) + off = (tgt : Int)) (kt : x = y → WG own cc nL rt R cs sl X E tgt L st h) (kf : ¬ (x = y) → WG own cc nL rt R cs sl X E pc' L st h) : WG own cc nL rt R cs sl X E pc L (.int y :: .int x :: st) h := by
  intro p l e s m args below meth c D cA ad A C hX H locs ls hP hD hS hl
  subst hp
  exact lv_icmp_eq C.1 C.2.1 hdg ht (fun q => kt q p l e s m args below meth c D cA ad A C hX H locs ls hP hD hS hl) (fun q => kf q p l e s m args below meth c D cA ad A C hX H locs ls hP hD hS hl)
theorem WG.icmp_ne {x y : Int32} {off : Int} {tgt : Nat} (hdg : decode cc pc = .ok (.if_icmp .ne off, 3)) (hp : pc + 3 = pc') (ht : (pc : Int) + off = (tgt : Int)) (kt : x ≠ y → WG own cc nL rt R cs sl X E tgt L st h) (kf : x = y → WG own cc nL rt R cs sl X E pc' L st h) : WG own cc nL rt R cs sl X E pc L (.int y :: .int x :: st) h := by
  intro p l e s m args below meth c D cA ad A C hX H locs ls hP hD hS hl
  subst hp
  exact lv_icmp_ne C.1 C.2.1 hdg ht (fun q => kt q p l e s m args below meth c D cA ad A C hX H locs ls hP hD hS hl) (fun q => kf q p l e s m args below meth c D cA ad A C hX H locs ls hP hD hS hl)
theorem WG.icmp_lt {x y : Int32} {off : Int} {tgt : Nat} (hdg : decode cc pc = .ok (.if_icmp .lt off, 3)) (hp : pc + 3 = pc') (ht : (pc : Int) + off = (tgt : Int)) (kt : x < y → WG own cc nL rt R cs sl X E tgt L st h) (kf : ¬ (x < y) → WG own cc nL rt R cs sl X E pc' L st h) : WG own cc nL rt R cs sl X E pc L (.int y :: .int x :: st) h := by
  intro p l e s m args below meth c D cA ad A C hX H locs ls hP hD hS hl
  subst hp
  exact lv_icmp_lt C.1 C.2.1 hdg ht (fun q => kt q p l e s m args below meth c D cA ad A C hX H locs ls hP hD hS hl) (fun q => kf q p l e s m args below meth c D cA ad A C hX H locs ls hP hD hS hl)
theorem WG.icmp_ge {x y : Int32} {off : Int} {tgt : Nat} (hdg : decode cc pc = .ok (.if_icmp .ge off, 3)) (hp : pc + 3 = pc') (ht : (pc : Int) + off = (tgt : Int)) (kt : y ≤ x → WG own cc nL rt R cs sl X E tgt L st h) (kf : ¬ (y ≤ x) → WG own cc nL rt R cs sl X E pc' L st h) : WG own cc nL rt R cs sl X E pc L (.int y :: .int x :: st) h := by
  intro p l e s m args below meth c D cA ad A C hX H locs ls hP hD hS hl
  subst hp
  exact lv_icmp_ge C.1 C.2.1 hdg ht (fun q => kt q p l e s m args below meth c D cA ad A C hX H locs ls hP hD hS hl) (fun q => kf q p l e s m args below meth c D cA ad A C hX H locs ls hP hD hS hl)
theorem WG.icmp_gt {x y : Int32} {off : Int} {tgt : Nat} (hdg : decode cc pc = .ok (.if_icmp .gt off, 3)) (hp : pc + 3 = pc') (ht : (pc : Int) + off = (tgt : Int)) (kt : y < x → WG own cc nL rt R cs sl X E tgt L st h) (kf : ¬ (y < x) → WG own cc nL rt R cs sl X E pc' L st h) : WG own cc nL rt R cs sl X E pc L (.int y :: .int x :: st) h := by
  intro p l e s m args below meth c D cA ad A C hX H locs ls hP hD hS hl
  subst hp
  exact lv_icmp_gt C.1 C.2.1 hdg ht (fun q => kt q p l e s m args below meth c D cA ad A C hX H locs ls hP hD hS hl) (fun q => kf q p l e s m args below meth c D cA ad A C hX H locs ls hP hD hS hl)
theorem WG.icmp_le {x y : Int32} {off : Int} {tgt : Nat} (hdg : decode cc pc = .ok (.if_icmp .le off, 3)) (hp : pc + 3 = pc') (ht : (pc : Int) + off = (tgt : Int)) (kt : x ≤ y → WG own cc nL rt R cs sl X E tgt L st h) (kf : ¬ (x ≤ y) → WG own cc nL rt R cs sl X E pc' L st h) : WG own cc nL rt R cs sl X E pc L (.int y :: .int x :: st) h := by
  intro p l e s m args below meth c D cA ad A C hX H locs ls hP hD hS hl
  subst hp
  exact lv_icmp_le C.1 C.2.1 hdg ht (fun q => kt q p l e s m args below meth c D cA ad A C hX H locs ls hP hD hS hl) (fun q => kf q p l e s m args below meth c D cA ad A C hX H locs ls hP hD hS hl)
theorem WG.goto {off : Int} {tgt : Nat} (hdg : decode cc pc = .ok (.goto off, 3)) (ht : (pc : Int) + off = (tgt : Int)) (k : WG own cc nL rt R cs sl X E tgt L st h) : WG own cc nL rt R cs sl X E pc L st h := by
  intro p l e s m args below meth c D cA ad A C hX H locs ls hP hD hS hl
  exact lv_goto C.1 C.2.1 hdg ht (k p l e s m args below meth c D cA ad A C hX H locs ls hP hD hS hl)
theorem WG.tableIn {dflt lo hi : Int} {offs : Array Int} {len : Nat} {x : Int32} {off : Int} {tgt : Nat} (hdg : decode cc pc = .ok (.tableswitch dflt lo hi offs, len)) (h1 : ¬ x.toInt < lo) (h2 : ¬ hi < x.toInt) (ho : offs[(x.toInt - lo).toNat]? = some off) (ht : (pc : Int) + off = (tgt : Int)) (k : WG own cc nL rt R cs sl X E tgt L st h) : WG own cc nL rt R cs sl X E pc L (.int x :: st) h := by
  intro p l e s m args below meth c D cA ad A C hX H locs ls hP hD hS hl
  exact lv_tableIn C.1 C.2.1 hdg h1 h2 ho ht (k p l e s m args below meth c D cA ad A C hX H locs ls hP hD hS hl)
theorem WG.tableOut {dflt lo hi : Int} {offs : Array Int} {len : Nat} {x : Int32} {tgt : Nat} (hdg : decode cc pc = .ok (.tableswitch dflt lo hi offs, len)) (h1 : x.toInt < lo ∨ hi < x.toInt) (ht : (pc : Int) + dflt = (tgt : Int)) (k : WG own cc nL rt R cs sl X E tgt L st h) : WG own cc nL rt R cs sl X E pc L (.int x :: st) h := by
  intro p l e s m args below meth c D cA ad A C hX H locs ls hP hD hS hl
  exact lv_tableOut C.1 C.2.1 hdg h1 ht (k p l e s m args below meth c D cA ad A C hX H locs ls hP hD hS hl)
theorem WG.lookup {dflt : Int} {ps : Array (Int × Int)} {len : Nat} {x : Int32} {off : Int} {tgt : Nat} (hdg : decode cc pc = .ok (.lookupswitch dflt ps, len)) (hs : (ps.toList.zip (ps.toList.drop 1)).all (fun (a, next) => a.1 < next.1) = true) (ho : Op.lookupswitch.offset ps.toList dflt x.toInt = off) (ht : (pc : Int) + off = (tgt : Int)) (k : WG own cc nL rt R cs sl X E tgt L st h) : WG own cc nL rt R cs sl X E pc L (.int x :: st) h := by
  intro p l e s m args below meth c D cA ad A C hX H locs ls hP hD hS hl
  exact lv_lookup C.1 C.2.1 hdg hs ho ht (k p l e s m args below meth c D cA ad A C hX H locs ls hP hD hS hl)
def zF (own : String) (idx ci k : Nat) : Prop := ∃ (C : String) (T : u_T) (N : Nat), vwCl[ci]? = some (C, T, N) ∧ k < N ∧ (∀ w ∈ u_ws C T N, w ∈ ztb) ∧ Cond.fieldLink own idx C (T k).2.1 (T k).2.2.1 ∈ ztb ∧ (T k).1 = C
def zP (own : String) (idx ci k : Nat) (ty : FieldType) : Prop := ∃ (C : String) (T : u_T) (N : Nat) (ty0 : Nat → FieldType), vwCl[ci]? = some (C, T, N) ∧ k < N ∧ (∀ w ∈ u_ws C T N, w ∈ ztb) ∧ Cond.fieldLink own idx C (T k).2.1 (T k).2.2.1 ∈ ztb ∧ (T k).1 = C ∧ (∀ k, k < N → parseFieldDescriptor (T k).2.2.1 = some (ty0 k)) ∧ (∀ a, a < N → ∀ b, b < N → a ≠ b → (T a).2.1 ≠ (T b).2.1) ∧ (T k).2.2.2 = false ∧ parseFieldDescriptor (T k).2.2.1 = some ty
theorem WG.getV {idx ci k o kd : Nat} {v : Value} (hf : zF own idx ci k) (hdg : decode cc pc = .ok (.getfield idx, 3)) (hp : pc + 3 = pc') (ho : zSH[o]? = some (.inl ci)) (hk : (zkd ci)[k]? = some kd) (hv : ∀ ad, zfv ad h o k kd = zt ad v) (k : WG own cc nL rt R cs sl X E pc' L (v :: st) h) : WG own cc nL rt R cs sl X E pc L (.ref o :: st) h := by
  intro p l e s m args below meth c D cA ad A C hX H locs ls hP hD hS hl
  subst hp
  obtain ⟨Cn, T, N, h1, h2, h3, h4, h5⟩ := hf
  refine va_get (C := Cn) (T := T) (N := N) (ref := Cn) C.1 C.2.1 C.2.2.2.2.2.2.1 h3 C.2.2.2.2.2.1 C.2.2.2.2.2.2.2.1 hP o (zW_at ho) h1 _ h2 (C.2.2.2.2.2.2.1 _ h4) (fun x hx => by rw [h5] at hx; exact hx) (v := zt ad v) ?_ hdg (k p l e s m args below meth c D cA ad A C hX H locs ls hP hD hS hl)
  rw [List.getElem?_mapIdx, hk, ← hv]; rfl
theorem WG.getI {idx ci k o : Nat} (hf : zF own idx ci k) (hdg : decode cc pc = .ok (.getfield idx, 3)) (hp : pc + 3 = pc') (ho : zSH[o]? = some (.inl ci)) (hk : (zkd ci)[k]? = some 0) (kk : WG own cc nL rt R cs sl X E pc' L (.int (h.1 o k) :: st) h) : WG own cc nL rt R cs sl X E pc L (.ref o :: st) h := WG.getV hf hdg hp ho hk (fun _ => rfl) kk
theorem WG.getL {idx ci k o : Nat} (hf : zF own idx ci k) (hdg : decode cc pc = .ok (.getfield idx, 3)) (hp : pc + 3 = pc') (ho : zSH[o]? = some (.inl ci)) (hk : (zkd ci)[k]? = some 1) (kk : WG own cc nL rt R cs sl X E pc' L (.long (h.2 o k) :: st) h) : WG own cc nL rt R cs sl X E pc L (.ref o :: st) h := WG.getV hf hdg hp ho hk (fun _ => rfl) kk
theorem WG.getT {idx ci k o : Nat} (hf : zF own idx ci k) (hdg : decode cc pc = .ok (.getfield idx, 3)) (hp : pc + 3 = pc') (ho : zSH[o]? = some (.inl ci)) (hk : (zkd ci)[k]? = some 2) (kk : WG own cc nL rt R cs sl X E pc' L (.ref (1000 + (h.1 o k).toNatClampNeg) :: st) h) : WG own cc nL rt R cs sl X E pc L (.ref o :: st) h := WG.getV hf hdg hp ho hk (fun _ => rfl) kk
theorem WG.getR {idx ci k o r : Nat} (hf : zF own idx ci k) (hdg : decode cc pc = .ok (.getfield idx, 3)) (hp : pc + 3 = pc') (ho : zSH[o]? = some (.inl ci)) (hk : (zkd ci)[k]? = some 3) (hr : zrf o k = r) (kk : WG own cc nL rt R cs sl X E pc' L (.ref r :: st) h) : WG own cc nL rt R cs sl X E pc L (.ref o :: st) h := WG.getV hf hdg hp ho hk (fun _ => by subst hr; rfl) kk
theorem WG.putI {idx ci k o : Nat} {x : Int32} {ty : FieldType} (hf : zP own idx ci k ty) (hdg : decode cc pc = .ok (.putfield idx, 3)) (hp : pc + 3 = pc') (ho : zSH[o]? = some (.inl ci)) (hk : (zkd ci)[k]? = some 0) (hn : narrow ty (.int x) = .int x) (hft : fits ty (.int x) = true) (kk : WG own cc nL rt R cs sl X E pc' L st (zI h o k x)) : WG own cc nL rt R cs sl X E pc L (.int x :: .ref o :: st) h := by
  intro p l e s m args below meth c D cA ad A C hX H locs ls hP hD hS hl
  subst hp
  obtain ⟨Cn, T, N, ty0, h1, h2, h3, h4, h5, h6, h7, h8, h9⟩ := hf
  refine va_put (C := Cn) (T := T) (N := N) (ref := Cn) C.1 C.2.1 C.2.2.2.2.2.2.1 h3 ty0 h6 h7 C.2.2.2.2.2.1 C.2.2.2.2.2.2.2.1 hP hD hS o (zW_at ho) h1 _ h2 (C.2.2.2.2.2.2.1 _ h4) (fun x hx => by rw [h5] at hx; exact hx) h8 h9 hn hft (by simpa using (List.getElem?_eq_some_iff.mp hk).1) hdg (fun H locs hP hD hS => ?_)
  dsimp only [zt] at hP hD
  rw [zW_set (h' := zI h o k x) ho (congrArg (fun z => Sum.inr (ci, z)) (zfv_I hk)) (fun j hj => zI_o hj)] at hP hD
  exact kk p l e s m args below meth c D cA ad A C hX H locs ls hP hD hS hl

theorem WG.putL {idx ci k o : Nat} {x : Int64} {ty : FieldType} (hf : zP own idx ci k ty) (hdg : decode cc pc = .ok (.putfield idx, 3)) (hp : pc + 3 = pc') (ho : zSH[o]? = some (.inl ci)) (hk : (zkd ci)[k]? = some 1) (hn : narrow ty (.long x) = .long x) (hft : fits ty (.long x) = true) (kk : WG own cc nL rt R cs sl X E pc' L st (zL h o k x)) : WG own cc nL rt R cs sl X E pc L (.long x :: .ref o :: st) h := by
  intro p l e s m args below meth c D cA ad A C hX H locs ls hP hD hS hl
  subst hp
  obtain ⟨Cn, T, N, ty0, h1, h2, h3, h4, h5, h6, h7, h8, h9⟩ := hf
  refine va_put (C := Cn) (T := T) (N := N) (ref := Cn) C.1 C.2.1 C.2.2.2.2.2.2.1 h3 ty0 h6 h7 C.2.2.2.2.2.1 C.2.2.2.2.2.2.2.1 hP hD hS o (zW_at ho) h1 _ h2 (C.2.2.2.2.2.2.1 _ h4) (fun x hx => by rw [h5] at hx; exact hx) h8 h9 hn hft (by simpa using (List.getElem?_eq_some_iff.mp hk).1) hdg (fun H locs hP hD hS => ?_)
  dsimp only [zt] at hP hD
  rw [zW_set (h' := zL h o k x) ho (congrArg (fun z => Sum.inr (ci, z)) (zfv_L hk)) (fun j hj => zL_o hj)] at hP hD
  exact kk p l e s m args below meth c D cA ad A C hX H locs ls hP hD hS hl
theorem WG.putT {idx ci k o i : Nat} {x : Int32} {ty : FieldType} (hf : zP own idx ci k ty) (hdg : decode cc pc = .ok (.putfield idx, 3)) (hp : pc + 3 = pc') (ho : zSH[o]? = some (.inl ci)) (hk : (zkd ci)[k]? = some 2) (hi : x.toNatClampNeg = i) (hn : ∀ a, narrow ty (.ref a) = .ref a) (hft : ∀ a, fits ty (.ref a) = true) (kk : WG own cc nL rt R cs sl X E pc' L st (zI h o k x)) : WG own cc nL rt R cs sl X E pc L (.ref (1000 + i) :: .ref o :: st) h := by
  intro p l e s m args below meth c D cA ad A C hX H locs ls hP hD hS hl
  subst hp; subst hi
  obtain ⟨Cn, T, N, ty0, h1, h2, h3, h4, h5, h6, h7, h8, h9⟩ := hf
  refine va_put (C := Cn) (T := T) (N := N) (ref := Cn) C.1 C.2.1 C.2.2.2.2.2.2.1 h3 ty0 h6 h7 C.2.2.2.2.2.1 C.2.2.2.2.2.2.2.1 hP hD hS o (zW_at ho) h1 _ h2 (C.2.2.2.2.2.2.1 _ h4) (fun x hx => by rw [h5] at hx; exact hx) h8 h9 (hn _) (hft _) (by simpa using (List.getElem?_eq_some_iff.mp hk).1) hdg (fun H locs hP hD hS => ?_)
  dsimp only [zt] at hP hD
  rw [zW_set (h' := zI h o k x) ho (congrArg (fun z => Sum.inr (ci, z)) (zfv_T hk)) (fun j hj => zI_o hj)] at hP hD
  exact kk p l e s m args below meth c D cA ad A C hX H locs ls hP hD hS hl

theorem WG.iaload {o n : Nat} {i : Int32} (hdg : decode cc pc = .ok (.iaload, 1)) (hp : pc + 1 = pc') (ho : zSH[o]? = some (.inr (0, n))) (hi : vp_in i n) (k : WG own cc nL rt R cs sl X E pc' L (.int (h.1 o i.toNatClampNeg) :: st) h) : WG own cc nL rt R cs sl X E pc L (.int i :: .ref o :: st) h := by
  intro p l e s m args below meth c D cA ad A C hX H locs ls hP hD hS hl
  subst hp
  exact va_iald C.1 C.2.1 C.2.2.2.2.2.2.2.1 hP o 0 (zW_at ho) rfl hi hdg (k p l e s m args below meth c D cA ad A C hX H locs ls hP hD hS hl)
theorem WG.laload {o n : Nat} {i : Int32} (hdg : decode cc pc = .ok (.laload, 1)) (hp : pc + 1 = pc') (ho : zSH[o]? = some (.inr (1, n))) (hi : vp_in i n) (k : WG own cc nL rt R cs sl X E pc' L (.long (h.2 o i.toNatClampNeg) :: st) h) : WG own cc nL rt R cs sl X E pc L (.int i :: .ref o :: st) h := by
  intro p l e s m args below meth c D cA ad A C hX H locs ls hP hD hS hl
  subst hp
  exact va_lald C.1 C.2.1 C.2.2.2.2.2.2.2.1 hP o 1 (zW_at ho) rfl hi hdg (k p l e s m args below meth c D cA ad A C hX H locs ls hP hD hS hl)
theorem WG.aaload {o t n r : Nat} {i : Int32} (hdg : decode cc pc = .ok (.aaload, 1)) (hp : pc + 1 = pc') (ht : t = 0 ∨ t = 1) (ho : zSH[o]? = some (.inr (t + 2, n))) (hi : vp_in i n) (hr : zrf o i.toNatClampNeg = r) (k : WG own cc nL rt R cs sl X E pc' L (.ref r :: st) h) : WG own cc nL rt R cs sl X E pc L (.int i :: .ref o :: st) h := by
  intro p l e s m args below meth c D cA ad A C hX H locs ls hP hD hS hl
  subst hp; subst hr
  rcases ht with rfl | rfl
  · exact va_aldq C.1 C.2.1 C.2.2.2.2.2.2.2.1 hP o 2 (zW_at ho) rfl hi hdg (k p l e s m args below meth c D cA ad A C hX H locs ls hP hD hS hl)
  · exact va_aldq C.1 C.2.1 C.2.2.2.2.2.2.2.1 hP o 3 (zW_at ho) rfl hi hdg (k p l e s m args below meth c D cA ad A C hX H locs ls hP hD hS hl)
theorem WG.iastore {o n : Nat} {i x : Int32} (hdg : decode cc pc = .ok (.iastore, 1)) (hp : pc + 1 = pc') (ho : zSH[o]? = some (.inr (0, n))) (hi : vp_in i n) (k : WG own cc nL rt R cs sl X E pc' L st (zI h o i.toNatClampNeg x)) : WG own cc nL rt R cs sl X E pc L (.int x :: .int i :: .ref o :: st) h := by
  intro p l e s m args below meth c D cA ad A C hX H locs ls hP hD hS hl
  subst hp
  refine va_iast C.1 C.2.1 C.2.2.2.2.2.2.2.1 hP hD hS o 0 (zW_at ho) rfl hi hdg (fun H locs hP hD hS => ?_)
  rw [zW_set (h' := zI h o i.toNatClampNeg x) ho (by unfold zE; rw [zI_s]) (fun j hj => zI_o hj)] at hP hD
  exact k p l e s m args below meth c D cA ad A C hX H locs ls hP hD hS hl
theorem WG.lastore {o n : Nat} {i : Int32} {x : Int64} (hdg : decode cc pc = .ok (.lastore, 1)) (hp : pc + 1 = pc') (ho : zSH[o]? = some (.inr (1, n))) (hi : vp_in i n) (k : WG own cc nL rt R cs sl X E pc' L st (zL h o i.toNatClampNeg x)) : WG own cc nL rt R cs sl X E pc L (.long x :: .int i :: .ref o :: st) h := by
  intro p l e s m args below meth c D cA ad A C hX H locs ls hP hD hS hl
  subst hp
  refine va_last C.1 C.2.1 C.2.2.2.2.2.2.2.1 hP hD hS o 1 (zW_at ho) rfl hi hdg (fun H locs hP hD hS => ?_)
  rw [zW_set (h' := zL h o i.toNatClampNeg x) ho (by unfold zE; rw [zL_s]) (fun j hj => zL_o hj)] at hP hD
  exact k p l e s m args below meth c D cA ad A C hX H locs ls hP hD hS hl
theorem WG.ireturn {Q : Option Value → zH → Prop} {x : Int32} {ty : FieldType} (hdg : decode cc pc = .ok (.ireturn, 1)) (hr : rt = some ty) (hn : narrow ty (.int x) = .int x) (hq : Q (some (.int x)) h) : WG own cc nL rt R 0 0 X (zEm Q) pc L [.int x] h := by
  intro p l e s m args below meth c D cA ad A C hX H locs ls hP hD hS hl
  exact W.zret (ty := ty) C.1 C.2.1 (C.2.2.2.1.trans hr) hn (fun t ht hW => ⟨⟨some (.int x), h, rfl, hq, by rw [ht]; exact hP, hD⟩, hS.F ht⟩) hS.2.2 hdg (hlocks := C.2.2.2.2.1)
theorem WG.lreturn {Q : Option Value → zH → Prop} {x : Int64} (hdg : decode cc pc = .ok (.lreturn, 1)) (hr : rt = some .long) (hq : Q (some (.long x)) h) : WG own cc nL rt R 0 0 X (zEm Q) pc L [.long x] h := by
  intro p l e s m args below meth c D cA ad A C hX H locs ls hP hD hS hl
  exact W.lret C.1 C.2.1 (C.2.2.2.1.trans hr) (fun t ht hW => ⟨⟨some (.long x), h, rfl, hq, by rw [ht]; exact hP, hD⟩, hS.F ht⟩) hS.2.2 hdg (hlocks := C.2.2.2.2.1)
theorem WG.vreturn {Q : Option Value → zH → Prop} (hdg : decode cc pc = .ok (.return_, 1)) (hr : rt = none) (hq : Q none h) : WG own cc nL rt R 0 0 X (zEm Q) pc L [] h := by
  intro p l e s m args below meth c D cA ad A C hX H locs ls hP hD hS hl
  exact W.vret C.1 C.2.1 (C.2.2.2.1.trans hr) (fun t ht hW => ⟨⟨none, h, rfl, hq, by rw [ht]; exact hP, hD⟩, hS.F ht⟩) hS.2.2 hdg (hlocks := C.2.2.2.2.1)
theorem WG.areturn {Q : Option Value → zH → Prop} {x : Nat} {ty : FieldType} (hdg : decode cc pc = .ok (.areturn, 1)) (hr : rt = some ty) (ht : (∃ n, ty = .object n) ∨ ∃ t, ty = .array t) (hq : Q (some (.ref x)) h) : WG own cc nL rt R 0 0 X (zEm Q) pc L [.ref x] h := by
  intro p l e s m args below meth c D cA ad A C hX H locs ls hP hD hS hl
  exact W.aret (v := .ref (ad x)) C.1 C.2.1 (C.2.2.2.1.trans hr) ht (Or.inr ⟨_, rfl⟩) (fun t ht hW => ⟨⟨some (.ref x), h, rfl, hq, by rw [ht]; exact hP, hD⟩, hS.F ht⟩) hS.2.2 hdg (hlocks := C.2.2.2.2.1)
theorem zgood : ztb.all goodWord = true := List.all_eq_true.mpr (fun _ h => (List.mem_filter.mp h).2)
theorem zgoodIn {w : Cond} (hw : w ∈ ztb) : GoodIn ztb (w :: ztb) := fun x hx => by
  have hm : x ∈ ztb := (List.mem_cons.mp hx).elim (fun e => e ▸ hw) id
  exact ⟨hm, good_of_word (List.all_eq_true.mp zgood x hm)⟩
def zMB (y : MethodName) (cc : ByteArray) (nL : Nat) (rt : Option FieldType) (n : Nat) : Prop := Cond.initialized y.cls ∈ ztb ∧ Cond.code y cc nL rt ∈ ztb ∧ (y.cls ≠ "java/lang/invoke/MethodHandle" ∧ y.cls ≠ "java/lang/invoke/VarHandle" ∧ (parseMethodDescriptor y.desc).map (fun d => d.parameters.length) = some n)
def zMV (own : String) (idx : Nat) (y : MethodName) : Prop := Cond.methodLink own idx y ∈ ztb ∧ Cond.instanceMethod y ∈ ztb ∧ Cond.selects y.cls y y ∈ ztb
def zMS (own : String) (idx : Nat) (y : MethodName) : Prop := Cond.methodLink own idx y ∈ ztb ∧ Cond.static y ∈ ztb
def zrk (cs sl nL : Nat) (R' R : Room) : Prop := R'.cells = 0 ∧ R'.slots = 0 ∧ (R'.frames + 1 ≤ R.frames ∧ 8 + (nL + 11) + R'.locals ≤ R.locals) ∧ (cs + 0 ≤ R.cells ∧ sl + 0 ≤ R.slots)
theorem zcall_go {p : Program} {l : Launch} {e : Env} {R : Room} {s : State} {m : MethodId} {args : Array Value} {below : List Frame} {meth : Method} {c : Code} {H : Heap} {locs : List Loc} {cs sl : Nat} {Q : State → Prop} {pc : Nat} {ls : Array Slot} {st0 rest : List Value} {D : va_G} {cA : Nat → ClassId} {ad : Nat → Nat} {A B : Nat → Prop} {Qc : Option Value → zH → Prop} {a : Array Value}
    (hr : va_Run p l e R s m args below meth c H locs cs sl 0 0 (F0 m pc ls st0) rest (zQC D cA ad B Qc a) B) (hS : va_S A s.heap H locs) (hB : ∀ q, B q → A q)
    (kk : ∀ (r : Option Value) (h : zH) (H1 : Heap) (locs1 : List Loc), Qc r h → va_P D vwCl (zW cA ad h) H1 → va_D B (zW cA ad h) → va_S A s.heap H1 locs1 → W p l e R s m args below meth c H1 locs1 cs sl Q (F0 m (pc + 3) ls ((r.map (zt ad)).toList ++ rest))) : W p l e R s m args below meth c H locs cs sl Q (F0 m pc ls st0) := by
  intro T hT X
  obtain ⟨v, st₀, t, T', Lc, h0, X', hL, e1, e2, ⟨⟨r, h, hv, hq, hP', hD'⟩, hz, hk⟩, st⟩ := hr T hT X
  cases hv
  rw [h0] at hz hk
  obtain ⟨t2, a1, b1⟩ := kk r h T'.heap (locs ++ Lc) hq (by rw [e1]; exact hP') hD'
    ⟨Nat.le_trans hS.1 (by rw [e1]; exact hz), fun q h1 h2 => by rw [e1, hk q (Nat.lt_of_lt_of_le h1 hS.1) (fun z => h2 (hB q z))]; exact hS.2.1 q h1 h2, fun q hq => by
      rcases List.mem_append.mp hq with h | h
      · exact hS.2.2 q h
      · exact hB _ (hL q h)⟩ T' rfl X'
  exact ⟨t2, st t2 a1, b1⟩
theorem zfree {A : Nat → Prop} {s : State} {H : Heap} {locs : List Loc} {cA : Nat → ClassId} {ad : Nat → Nat} {h : zH} (hD : va_D A (zW cA ad h)) (hS : va_S A s.heap H locs) (hA : ∀ q, s.heap.size ≤ q → A q) : ∀ q, zAD ad H.size q → A q := by
  rintro q (⟨k, hk, e⟩ | e)
  · obtain ⟨x, hx⟩ := zW_ex (cA := cA) (ad := ad) (h := h) hk
    rw [e]
    exact hD.2 k _ hx
  · exact hA q (Nat.le_trans hS.1 e)
theorem zmapr (ad : Nat → Nat) (r : Option Value) (st : List Value) : (r.map (zt ad)).toList ++ st.map (zt ad) = (r.toList ++ st).map (zt ad) := by cases r <;> rfl
theorem zcat (ad : Nat → Nat) (st : List Value) : ((st.map (zt ad)).map fun v => v.category).sum = (st.map Value.category).sum := by
  induction st with
  | nil => rfl
  | cons v t ih =>
    simp only [List.map_cons, List.sum_cons, zt_cat]
    exact congrArg _ ih
theorem WG.callV {y : MethodName} {cc' : ByteArray} {nL' n idx o ci N : Nat} {rt' : Option FieldType} {R' : Room} {as stk : List Value} {T : u_T} {Qc : Option Value → zH → Prop} (hC : CT y cc' nL' rt' R' (.ref o :: as) h Qc) (hm : zMV own idx y) (hB : zMB y cc' nL' rt' n) (ho : zSH[o]? = some (.inl ci)) (hci : vwCl[ci]? = some (y.cls, T, N)) (hn : as.length = n) (hR : zrk cs sl nL' R' R) (hst : stk = as.reverse ++ .ref o :: st) (hcat : (st.map Value.category).sum ≤ 8) (hdg : decode cc pc = .ok (.invokevirtual idx, 3)) (hp : pc + 3 = pc')
    (k : ∀ (r : Option Value) (h' : zH), Qc r h' → WG own cc nL rt R cs sl X E pc' L (r.toList ++ st) h') : WG own cc nL rt R cs sl X E pc L stk h := by
  intro p l e s m args below meth c D cA ad A C hX H locs ls hP hD hS hl
  subst hp; subst hst
  obtain ⟨m1, m2, m3⟩ := hm
  obtain ⟨b1, b2, b3⟩ := hB
  obtain ⟨r1, r2, r3, r4⟩ := hR
  have hts := C.2.2.2.2.2.2.1
  have hK := C.2.2.2.2.2.2.2.1
  have hF := zfree hD hS C.2.2.2.2.2.2.2.2.1
  refine zcall_go (rest := st.map (zt ad)) (va_runV (As := as.map (zt ad)) (b := ad o) (C := y.cls) ⟨C.1, C.2.1, C.2.2.1, C.2.2.2.2.2.1, hts⟩ (hC l D cA ad H.size) ⟨callB_of n hts (zgoodIn b2) rfl r1 r2 (hts _ b1) (hts _ m1) b3 r3, hts _ m2, hts _ m3⟩ ⟨zblind, va_recv hK hP (q := (y.cls, T, N)) hci (zW_at ho), fun U hU hW => ⟨rfl, by rw [hU], by rw [hU]; exact hP, va_K.moved hW.alike hK, zD_of hD (fun _ _ _ => trivial), zT_call C.2.2.2.2.2.2.2.2.2 hS hF hU hW⟩⟩ rfl (by simpa using hn) hl.1 (by simp [zt]) (lv_room (by rw [zcat]; exact hcat)) hdg r4) hS hF (fun r h' H1 locs1 hq hP' hD' hS' => ?_)
  rw [zmapr]
  exact k r h' hq p l e s m args below meth c D cA ad A C hX H1 locs1 ls hP' (zD_of hD' (fun k _ q => hF _ q)) hS' hl
theorem WG.callS {y : MethodName} {cc' : ByteArray} {nL' n idx : Nat} {rt' : Option FieldType} {R' : Room} {as stk : List Value} {Qc : Option Value → zH → Prop} (hC : CT y cc' nL' rt' R' as h Qc) (hm : zMS own idx y) (hB : zMB y cc' nL' rt' n) (hn : as.length = n) (hR : zrk cs sl nL' R' R) (hst : stk = as.reverse ++ st) (hcat : (st.map Value.category).sum ≤ 8) (hdg : decode cc pc = .ok (.invokestatic idx, 3)) (hp : pc + 3 = pc')
    (k : ∀ (r : Option Value) (h' : zH), Qc r h' → WG own cc nL rt R cs sl X E pc' L (r.toList ++ st) h') : WG own cc nL rt R cs sl X E pc L stk h := by
  intro p l e s m args below meth c D cA ad A C hX H locs ls hP hD hS hl
  subst hp; subst hst
  obtain ⟨m1, m2⟩ := hm
  obtain ⟨b1, b2, b3⟩ := hB
  obtain ⟨r1, r2, r3, r4⟩ := hR
  have hts := C.2.2.2.2.2.2.1
  have hK := C.2.2.2.2.2.2.2.1
  have hF := zfree hD hS C.2.2.2.2.2.2.2.2.1
  refine zcall_go (rest := st.map (zt ad)) (va_runS (As := as.map (zt ad)) ⟨C.1, C.2.1, C.2.2.1, C.2.2.2.2.2.1, hts⟩ (hC l D cA ad H.size) ⟨callB_of n hts (zgoodIn b2) rfl r1 r2 (hts _ b1) (hts _ m1) b3 r3, hts _ m2⟩ ⟨zblind, fun U hU hW => ⟨rfl, by rw [hU], by rw [hU]; exact hP, va_K.moved hW.alike hK, zD_of hD (fun _ _ _ => trivial), zT_call C.2.2.2.2.2.2.2.2.2 hS hF hU hW⟩⟩ rfl (by simpa using hn) hl.1 (by simp) (lv_room (by rw [zcat]; exact hcat)) hdg r4) hS hF (fun r h' H1 locs1 hq hP' hD' hS' => ?_)
  rw [zmapr]
  exact k r h' hq p l e s m args below meth c D cA ad A C hX H1 locs1 ls hP' (zD_of hD' (fun k _ q => hF _ q)) hS' hl
/-- an answer that is told outright -/
def zD (r : Option Value) (h : zH) : Option Value → zH → Prop := fun r' h' => r' = r ∧ h' = h
theorem WG.mabs {idx : Nat} {x : Int32} (hm : Cond.methodLink own idx Lib.Math.abs.name ∈ ztb) (hdg : decode cc pc = .ok (.invokestatic idx, 3)) (hp : pc + 3 = pc') (hf : 1 ≤ R.frames) (hlo : (st.map Value.category).sum + 13 ≤ R.locals) (hc : cs ≤ R.cells) (hs : sl ≤ R.slots) (k : WG own cc nL rt R cs sl X E pc' L (.int (if 0 ≤ x then x else 0 - x) :: st) h) : WG own cc nL rt R cs sl X E pc L (.int x :: st) h := by
  intro p l e s m args below meth c D cA ad A C hX H locs ls hP hD hS hl
  subst hp
  exact va_mabs C.1 C.2.1 (C.2.2.1.trans hl.1.symm) C.2.2.2.2.2.1 (C.2.2.2.2.2.2.1 _ hm) (C.2.2.2.2.2.2.1 _ (zin (by decide +kernel) rfl)) (C.2.2.2.2.2.2.1 _ (zin (by decide +kernel) rfl)) (C.2.2.2.2.2.2.1 _ (zin (by decide +kernel) rfl)) hf (by rw [zcat]; exact hlo) hc hs hdg (k p l e s m args below meth c D cA ad A C hX H locs ls hP hD hS hl)
theorem WG.mmax {idx : Nat} {x y : Int32} (hm : Cond.methodLink own idx Lib.Math.max.name ∈ ztb) (hdg : decode cc pc = .ok (.invokestatic idx, 3)) (hp : pc + 3 = pc') (hf : 1 ≤ R.frames) (hlo : (st.map Value.category).sum + 13 ≤ R.locals) (hc : cs ≤ R.cells) (hs : sl ≤ R.slots) (k : WG own cc nL rt R cs sl X E pc' L (.int (if x < y then y else x) :: st) h) : WG own cc nL rt R cs sl X E pc L (.int y :: .int x :: st) h := by
  intro p l e s m args below meth c D cA ad A C hX H locs ls hP hD hS hl
  subst hp
  exact va_mmax C.1 C.2.1 (C.2.2.1.trans hl.1.symm) C.2.2.2.2.2.1 (C.2.2.2.2.2.2.1 _ hm) (C.2.2.2.2.2.2.1 _ (zin (by decide +kernel) rfl)) (C.2.2.2.2.2.2.1 _ (zin (by decide +kernel) rfl)) (C.2.2.2.2.2.2.1 _ (zin (by decide +kernel) rfl)) hf (by rw [zcat]; exact hlo) hc hs hdg (k p l e s m args below meth c D cA ad A C hX H locs ls hP hD hS hl)
theorem WG.mmin {idx : Nat} {x y : Int32} (hm : Cond.methodLink own idx Lib.Math.min.name ∈ ztb) (hdg : decode cc pc = .ok (.invokestatic idx, 3)) (hp : pc + 3 = pc') (hf : 1 ≤ R.frames) (hlo : (st.map Value.category).sum + 13 ≤ R.locals) (hc : cs ≤ R.cells) (hs : sl ≤ R.slots) (k : WG own cc nL rt R cs sl X E pc' L (.int (if y < x then y else x) :: st) h) : WG own cc nL rt R cs sl X E pc L (.int y :: .int x :: st) h := by
  intro p l e s m args below meth c D cA ad A C hX H locs ls hP hD hS hl
  subst hp
  exact va_mmin C.1 C.2.1 (C.2.2.1.trans hl.1.symm) C.2.2.2.2.2.1 (C.2.2.2.2.2.2.1 _ hm) (C.2.2.2.2.2.2.1 _ (zin (by decide +kernel) rfl)) (C.2.2.2.2.2.2.1 _ (zin (by decide +kernel) rfl)) (C.2.2.2.2.2.2.1 _ (zin (by decide +kernel) rfl)) hf (by rw [zcat]; exact hlo) hc hs hdg (k p l e s m args below meth c D cA ad A C hX H locs ls hP hD hS hl)
theorem WG.mabsL {idx : Nat} {x : Int64} (hm : Cond.methodLink own idx Lib.MathLoose.abs_long.x ∈ ztb) (hdg : decode cc pc = .ok (.invokestatic idx, 3)) (hp : pc + 3 = pc') (hf : 1 ≤ R.frames) (hlo : (st.map Value.category).sum + 13 ≤ R.locals) (hc : cs ≤ R.cells) (hs : sl ≤ R.slots) (k : WG own cc nL rt R cs sl X E pc' L (.long (if 0 < x then x else -x) :: st) h) : WG own cc nL rt R cs sl X E pc L (.long x :: st) h := by
  intro p l e s m args below meth c D cA ad A C hX H locs ls hP hD hS hl
  subst hp
  exact va_mabs_long C.1 C.2.1 (C.2.2.1.trans hl.1.symm) C.2.2.2.2.2.1 (C.2.2.2.2.2.2.1 _ hm) (C.2.2.2.2.2.2.1 _ (zin (by decide +kernel) rfl)) (C.2.2.2.2.2.2.1 _ (zin (by decide +kernel) rfl)) (C.2.2.2.2.2.2.1 _ (zin (by decide +kernel) rfl)) hf (by rw [zcat]; exact hlo) hc hs hdg (k p l e s m args below meth c D cA ad A C hX H locs ls hP hD hS hl)
theorem WG.mmaxL {idx : Nat} {x y : Int64} (hm : Cond.methodLink own idx Lib.MathLoose.max_long.x ∈ ztb) (hdg : decode cc pc = .ok (.invokestatic idx, 3)) (hp : pc + 3 = pc') (hf : 1 ≤ R.frames) (hlo : (st.map Value.category).sum + 15 ≤ R.locals) (hc : cs ≤ R.cells) (hs : sl ≤ R.slots) (k : WG own cc nL rt R cs sl X E pc' L (.long (if y < x then x else y) :: st) h) : WG own cc nL rt R cs sl X E pc L (.long y :: .long x :: st) h := by
  intro p l e s m args below meth c D cA ad A C hX H locs ls hP hD hS hl
  subst hp
  exact va_mmax_long C.1 C.2.1 (C.2.2.1.trans hl.1.symm) C.2.2.2.2.2.1 (C.2.2.2.2.2.2.1 _ hm) (C.2.2.2.2.2.2.1 _ (zin (by decide +kernel) rfl)) (C.2.2.2.2.2.2.1 _ (zin (by decide +kernel) rfl)) (C.2.2.2.2.2.2.1 _ (zin (by decide +kernel) rfl)) hf (by rw [zcat]; exact hlo) hc hs hdg (k p l e s m args below meth c D cA ad A C hX H locs ls hP hD hS hl)
theorem WG.mminL {idx : Nat} {x y : Int64} (hm : Cond.methodLink own idx Lib.MathLoose.min_long.x ∈ ztb) (hdg : decode cc pc = .ok (.invokestatic idx, 3)) (hp : pc + 3 = pc') (hf : 1 ≤ R.frames) (hlo : (st.map Value.category).sum + 15 ≤ R.locals) (hc : cs ≤ R.cells) (hs : sl ≤ R.slots) (k : WG own cc nL rt R cs sl X E pc' L (.long (if y < x then y else x) :: st) h) : WG own cc nL rt R cs sl X E pc L (.long y :: .long x :: st) h := by
  intro p l e s m args below meth c D cA ad A C hX H locs ls hP hD hS hl
  subst hp
  exact va_mmin_long C.1 C.2.1 (C.2.2.1.trans hl.1.symm) C.2.2.2.2.2.1 (C.2.2.2.2.2.2.1 _ hm) (C.2.2.2.2.2.2.1 _ (zin (by decide +kernel) rfl)) (C.2.2.2.2.2.2.1 _ (zin (by decide +kernel) rfl)) (C.2.2.2.2.2.2.1 _ (zin (by decide +kernel) rfl)) hf (by rw [zcat]; exact hlo) hc hs hdg (k p l e s m args below meth c D cA ad A C hX H locs ls hP hD hS hl)
end zRows
