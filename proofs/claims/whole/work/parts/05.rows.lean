/-! ===== THE ROWS: an instruction each, over the judgement (written by tools/mkrows.py) ===== -/
section Rows5
variable {p : Program} {l : Launch} {e : Env} {R : Room} {s : State} {m : MethodId} {args : Array Value} {below : List Frame} {meth : Method} {c : Code} {G : Gx} {nL cells slots : Nat} {Q : State → Prop} {z : Sto} {pc : Nat} {lv : List (Nat × Value)} {st rest : List Value}
variable {cc : ByteArray} {Ts : List Cond} {own : String} {ret : Option FieldType}
theorem w_iconst (C : Cx p s m args meth c cc nL Ts own ret G) {n : Int} {v : Int32} (hdg : decode cc pc = .ok (.iconst n, 1)) (hv : Int32.ofInt n = v) (k : Wp p l e R s m args below meth c G nL cells slots Q z (pc + 1) lv (.int v :: rest)) : Wp p l e R s m args below meth c G nL cells slots Q z (pc) lv (rest) :=
  fun H locs ls hp hl => lv_iconst C.1.1 C.1.2.1 hdg hv (k H locs ls hp hl)
theorem w_bipush (C : Cx p s m args meth c cc nL Ts own ret G) {n : Int} {v : Int32} (hdg : decode cc pc = .ok (.bipush n, 2)) (hv : (Int8.ofInt n).toInt32 = v) (k : Wp p l e R s m args below meth c G nL cells slots Q z (pc + 2) lv (.int v :: rest)) : Wp p l e R s m args below meth c G nL cells slots Q z (pc) lv (rest) :=
  fun H locs ls hp hl => lv_bipush C.1.1 C.1.2.1 hdg hv (k H locs ls hp hl)
theorem w_sipush (C : Cx p s m args meth c cc nL Ts own ret G) {n : Int} {v : Int32} (hdg : decode cc pc = .ok (.sipush n, 3)) (hv : (Int16.ofInt n).toInt32 = v) (k : Wp p l e R s m args below meth c G nL cells slots Q z (pc + 3) lv (.int v :: rest)) : Wp p l e R s m args below meth c G nL cells slots Q z (pc) lv (rest) :=
  fun H locs ls hp hl => lv_sipush C.1.1 C.1.2.1 hdg hv (k H locs ls hp hl)
theorem w_lconst (C : Cx p s m args meth c cc nL Ts own ret G) {n : Fin 2} {v : Int64} (hdg : decode cc pc = .ok (.lconst n, 1)) (hv : Int64.ofNat (n : Nat) = v) (k : Wp p l e R s m args below meth c G nL cells slots Q z (pc + 1) lv (.long v :: rest)) : Wp p l e R s m args below meth c G nL cells slots Q z (pc) lv (rest) :=
  fun H locs ls hp hl => lv_lconst C.1.1 C.1.2.1 hdg hv (k H locs ls hp hl)
theorem w_null (C : Cx p s m args meth c cc nL Ts own ret G)  (hdg : decode cc pc = .ok (.aconst_null, 1))  (k : Wp p l e R s m args below meth c G nL cells slots Q z (pc + 1) lv (.null :: rest)) : Wp p l e R s m args below meth c G nL cells slots Q z (pc) lv (rest) :=
  fun H locs ls hp hl => lv_null C.1.1 C.1.2.1 hdg  (k H locs ls hp hl)
theorem w_iadd (C : Cx p s m args meth c cc nL Ts own ret G) {x y : Int32} (hdg : decode cc pc = .ok (.iadd, 1))  (k : Wp p l e R s m args below meth c G nL cells slots Q z (pc + 1) lv (.int (x + y) :: rest)) : Wp p l e R s m args below meth c G nL cells slots Q z (pc) lv (.int y :: .int x :: rest) :=
  fun H locs ls hp hl => lv_iadd C.1.1 C.1.2.1 hdg  (k H locs ls hp hl)
theorem w_isub (C : Cx p s m args meth c cc nL Ts own ret G) {x y : Int32} (hdg : decode cc pc = .ok (.isub, 1))  (k : Wp p l e R s m args below meth c G nL cells slots Q z (pc + 1) lv (.int (x - y) :: rest)) : Wp p l e R s m args below meth c G nL cells slots Q z (pc) lv (.int y :: .int x :: rest) :=
  fun H locs ls hp hl => lv_isub C.1.1 C.1.2.1 hdg  (k H locs ls hp hl)
theorem w_iand (C : Cx p s m args meth c cc nL Ts own ret G) {x y : Int32} (hdg : decode cc pc = .ok (.iand, 1))  (k : Wp p l e R s m args below meth c G nL cells slots Q z (pc + 1) lv (.int (x &&& y) :: rest)) : Wp p l e R s m args below meth c G nL cells slots Q z (pc) lv (.int y :: .int x :: rest) :=
  fun H locs ls hp hl => lv_iand C.1.1 C.1.2.1 hdg  (k H locs ls hp hl)
theorem w_ishl (C : Cx p s m args meth c cc nL Ts own ret G) {x y : Int32} (hdg : decode cc pc = .ok (.ishl, 1))  (k : Wp p l e R s m args below meth c G nL cells slots Q z (pc + 1) lv (.int (x <<< (y &&& 31)) :: rest)) : Wp p l e R s m args below meth c G nL cells slots Q z (pc) lv (.int y :: .int x :: rest) :=
  fun H locs ls hp hl => lv_ishl C.1.1 C.1.2.1 hdg  (k H locs ls hp hl)
theorem w_ishr (C : Cx p s m args meth c cc nL Ts own ret G) {x y : Int32} (hdg : decode cc pc = .ok (.ishr, 1))  (k : Wp p l e R s m args below meth c G nL cells slots Q z (pc + 1) lv (.int (x >>> (y &&& 31)) :: rest)) : Wp p l e R s m args below meth c G nL cells slots Q z (pc) lv (.int y :: .int x :: rest) :=
  fun H locs ls hp hl => lv_ishr C.1.1 C.1.2.1 hdg  (k H locs ls hp hl)
theorem w_ladd (C : Cx p s m args meth c cc nL Ts own ret G) {x y : Int64} (hdg : decode cc pc = .ok (.ladd, 1))  (k : Wp p l e R s m args below meth c G nL cells slots Q z (pc + 1) lv (.long (x + y) :: rest)) : Wp p l e R s m args below meth c G nL cells slots Q z (pc) lv (.long y :: .long x :: rest) :=
  fun H locs ls hp hl => lv_ladd C.1.1 C.1.2.1 hdg  (k H locs ls hp hl)
theorem w_lsub (C : Cx p s m args meth c cc nL Ts own ret G) {x y : Int64} (hdg : decode cc pc = .ok (.lsub, 1))  (k : Wp p l e R s m args below meth c G nL cells slots Q z (pc + 1) lv (.long (x - y) :: rest)) : Wp p l e R s m args below meth c G nL cells slots Q z (pc) lv (.long y :: .long x :: rest) :=
  fun H locs ls hp hl => lv_lsub C.1.1 C.1.2.1 hdg  (k H locs ls hp hl)
theorem w_land (C : Cx p s m args meth c cc nL Ts own ret G) {x y : Int64} (hdg : decode cc pc = .ok (.land, 1))  (k : Wp p l e R s m args below meth c G nL cells slots Q z (pc + 1) lv (.long (x &&& y) :: rest)) : Wp p l e R s m args below meth c G nL cells slots Q z (pc) lv (.long y :: .long x :: rest) :=
  fun H locs ls hp hl => lv_land C.1.1 C.1.2.1 hdg  (k H locs ls hp hl)
theorem w_lor (C : Cx p s m args meth c cc nL Ts own ret G) {x y : Int64} (hdg : decode cc pc = .ok (.lor, 1))  (k : Wp p l e R s m args below meth c G nL cells slots Q z (pc + 1) lv (.long (x ||| y) :: rest)) : Wp p l e R s m args below meth c G nL cells slots Q z (pc) lv (.long y :: .long x :: rest) :=
  fun H locs ls hp hl => lv_lor C.1.1 C.1.2.1 hdg  (k H locs ls hp hl)
theorem w_lxor (C : Cx p s m args meth c cc nL Ts own ret G) {x y : Int64} (hdg : decode cc pc = .ok (.lxor, 1))  (k : Wp p l e R s m args below meth c G nL cells slots Q z (pc + 1) lv (.long (x ^^^ y) :: rest)) : Wp p l e R s m args below meth c G nL cells slots Q z (pc) lv (.long y :: .long x :: rest) :=
  fun H locs ls hp hl => lv_lxor C.1.1 C.1.2.1 hdg  (k H locs ls hp hl)
theorem w_lushr (C : Cx p s m args meth c cc nL Ts own ret G) {x v : Int64} {y : Int32} (hdg : decode cc pc = .ok (.lushr, 1)) (hv : (x.toUInt64 >>> (y.toInt64.toUInt64 &&& Int64.toUInt64 63)).toInt64 = v) (k : Wp p l e R s m args below meth c G nL cells slots Q z (pc + 1) lv (.long v :: rest)) : Wp p l e R s m args below meth c G nL cells slots Q z (pc) lv (.int y :: .long x :: rest) :=
  fun H locs ls hp hl => lv_lushr C.1.1 C.1.2.1 hdg hv (k H locs ls hp hl)
theorem w_lshl (C : Cx p s m args meth c cc nL Ts own ret G) {x v : Int64} {y : Int32} (hdg : decode cc pc = .ok (.lshl, 1)) (hv : x <<< (y.toInt64 &&& 63) = v) (k : Wp p l e R s m args below meth c G nL cells slots Q z (pc + 1) lv (.long v :: rest)) : Wp p l e R s m args below meth c G nL cells slots Q z (pc) lv (.int y :: .long x :: rest) :=
  fun H locs ls hp hl => lv_lshl C.1.1 C.1.2.1 hdg hv (k H locs ls hp hl)
theorem w_i2l (C : Cx p s m args meth c cc nL Ts own ret G) {x : Int32} {v : Int64} (hdg : decode cc pc = .ok (.i2l, 1)) (hv : x.toInt64 = v) (k : Wp p l e R s m args below meth c G nL cells slots Q z (pc + 1) lv (.long v :: rest)) : Wp p l e R s m args below meth c G nL cells slots Q z (pc) lv (.int x :: rest) :=
  fun H locs ls hp hl => lv_i2l C.1.1 C.1.2.1 hdg hv (k H locs ls hp hl)
theorem w_l2i (C : Cx p s m args meth c cc nL Ts own ret G) {x : Int64} {v : Int32} (hdg : decode cc pc = .ok (.l2i, 1)) (hv : x.toInt32 = v) (k : Wp p l e R s m args below meth c G nL cells slots Q z (pc + 1) lv (.int v :: rest)) : Wp p l e R s m args below meth c G nL cells slots Q z (pc) lv (.long x :: rest) :=
  fun H locs ls hp hl => lv_l2i C.1.1 C.1.2.1 hdg hv (k H locs ls hp hl)
theorem w_lcmp (C : Cx p s m args meth c cc nL Ts own ret G) {x y : Int64} (hdg : decode cc pc = .ok (.lcmp, 1))  (k : Wp p l e R s m args below meth c G nL cells slots Q z (pc + 1) lv (.int (lg_cmp x y) :: rest)) : Wp p l e R s m args below meth c G nL cells slots Q z (pc) lv (.long y :: .long x :: rest) :=
  fun H locs ls hp hl => W.lcmp C.1.1 C.1.2.1 hdg  (k H locs ls hp hl)
theorem w_dup (C : Cx p s m args meth c cc nL Ts own ret G) {va : Value} (hdg : decode cc pc = .ok (.dup, 1)) (hva : va.category = 1) (k : Wp p l e R s m args below meth c G nL cells slots Q z (pc + 1) lv (va :: va :: rest)) : Wp p l e R s m args below meth c G nL cells slots Q z (pc) lv (va :: rest) :=
  fun H locs ls hp hl => lv_dup C.1.1 C.1.2.1 hdg hva (k H locs ls hp hl)
theorem w_pop (C : Cx p s m args meth c cc nL Ts own ret G) {va : Value} (hdg : decode cc pc = .ok (.pop, 1)) (hva : va.category = 1) (k : Wp p l e R s m args below meth c G nL cells slots Q z (pc + 1) lv (rest)) : Wp p l e R s m args below meth c G nL cells slots Q z (pc) lv (va :: rest) :=
  fun H locs ls hp hl => lv_pop C.1.1 C.1.2.1 hdg hva (k H locs ls hp hl)
theorem w_dup_x1 (C : Cx p s m args meth c cc nL Ts own ret G) {va vb : Value} (hdg : decode cc pc = .ok (.dup_x1, 1)) (hva : va.category = 1) (hvb : vb.category = 1) (k : Wp p l e R s m args below meth c G nL cells slots Q z (pc + 1) lv (va :: vb :: va :: rest)) : Wp p l e R s m args below meth c G nL cells slots Q z (pc) lv (va :: vb :: rest) :=
  fun H locs ls hp hl => lv_dup_x1 C.1.1 C.1.2.1 hdg hva hvb (k H locs ls hp hl)
theorem w_ldc (C : Cx p s m args meth c cc nL Ts own ret G) {index : Nat} {v : Int32} (hdg : decode cc pc = .ok (.ldc index, 2)) (hc : Cond.constant own index v ∈ Ts) (k : Wp p l e R s m args below meth c G nL cells slots Q z (pc + 2) lv (.int v :: rest)) : Wp p l e R s m args below meth c G nL cells slots Q z (pc) lv (rest) :=
  fun H locs ls hp hl => lv_ldc C.1.1 C.1.2.1 C.1.2.2.2.1 (C.1.2.2.2.2 _ hc) hdg (k H locs ls hp hl)
theorem w_ldc2 (C : Cx p s m args meth c cc nL Ts own ret G) {index : Nat} {v : Int64} (hdg : decode cc pc = .ok (.ldc2_w index, 3)) (hc : Cond.constantLong own index v ∈ Ts) (k : Wp p l e R s m args below meth c G nL cells slots Q z (pc + 3) lv (.long v :: rest)) : Wp p l e R s m args below meth c G nL cells slots Q z (pc) lv (rest) :=
  fun H locs ls hp hl => lv_ldc2 C.1.1 C.1.2.1 C.1.2.2.2.1 (C.1.2.2.2.2 _ hc) hdg (k H locs ls hp hl)
theorem w_iload_n (C : Cx p s m args meth c cc nL Ts own ret G) {k : Fin 4} {i : Nat} {x : Int32} (q : Nat) (hdg : decode cc pc = .ok (.iload_n k, 1)) (hi : (k : Nat) = i) (hq : lv[q]? = some (i, .int x)) (kk : Wp p l e R s m args below meth c G nL cells slots Q z (pc + 1) lv (.int x :: rest)) : Wp p l e R s m args below meth c G nL cells slots Q z (pc) lv (rest) :=
  fun H locs ls hp hl => lv_iload_n C.1.1 C.1.2.1 hdg hi (lv_at hl q hq) (kk H locs ls hp hl)
theorem w_iload (C : Cx p s m args meth c cc nL Ts own ret G) {i : Nat} {x : Int32} (q : Nat) (hdg : decode cc pc = .ok (.iload i, 2)) (hq : lv[q]? = some (i, .int x)) (kk : Wp p l e R s m args below meth c G nL cells slots Q z (pc + 2) lv (.int x :: rest)) : Wp p l e R s m args below meth c G nL cells slots Q z (pc) lv (rest) :=
  fun H locs ls hp hl => lv_iload C.1.1 C.1.2.1 hdg (lv_at hl q hq) (kk H locs ls hp hl)
theorem w_lload_n (C : Cx p s m args meth c cc nL Ts own ret G) {k : Fin 4} {i : Nat} {x : Int64} (q : Nat) (hdg : decode cc pc = .ok (.lload_n k, 1)) (hi : (k : Nat) = i) (hq : lv[q]? = some (i, .long x)) (kk : Wp p l e R s m args below meth c G nL cells slots Q z (pc + 1) lv (.long x :: rest)) : Wp p l e R s m args below meth c G nL cells slots Q z (pc) lv (rest) :=
  fun H locs ls hp hl => lv_lload_n C.1.1 C.1.2.1 hdg hi (lv_at hl q hq) (kk H locs ls hp hl)
theorem w_lload (C : Cx p s m args meth c cc nL Ts own ret G) {i : Nat} {x : Int64} (q : Nat) (hdg : decode cc pc = .ok (.lload i, 2)) (hq : lv[q]? = some (i, .long x)) (kk : Wp p l e R s m args below meth c G nL cells slots Q z (pc + 2) lv (.long x :: rest)) : Wp p l e R s m args below meth c G nL cells slots Q z (pc) lv (rest) :=
  fun H locs ls hp hl => lv_lload C.1.1 C.1.2.1 hdg (lv_at hl q hq) (kk H locs ls hp hl)
theorem isRef_rf (r : Option Nat) : (va_rf r).isRef = true := by cases r <;> rfl
theorem isRef_or {v : Value} (h : v.isRef = true) : v = .null ∨ ∃ a, v = .ref a := by
  cases v <;> first | (exact Or.inl rfl) | (exact Or.inr ⟨_, rfl⟩) | (simp [Value.isRef] at h)
theorem rf_cat (r : Option Nat) : (va_rf r).category = 1 := by cases r <;> rfl
theorem w_aload_n (C : Cx p s m args meth c cc nL Ts own ret G) {k : Fin 4} {i : Nat} {v : Value} (q : Nat) (hdg : decode cc pc = .ok (.aload_n k, 1)) (hi : (k : Nat) = i) (hq : lv[q]? = some (i, v)) (hv : v.isRef = true) (kk : Wp p l e R s m args below meth c G nL cells slots Q z (pc + 1) lv (v :: rest)) : Wp p l e R s m args below meth c G nL cells slots Q z (pc) lv (rest) := by
  intro H locs ls hp hl
  have h := lv_at hl q hq
  rcases isRef_or hv with e | ⟨a, e⟩
  · subst e
    exact lv_aload_nN C.1.1 C.1.2.1 hdg hi h (kk H locs ls hp hl)
  · subst e
    exact lv_aload_n C.1.1 C.1.2.1 hdg hi h (kk H locs ls hp hl)
theorem w_aload (C : Cx p s m args meth c cc nL Ts own ret G) {i : Nat} {v : Value} (q : Nat) (hdg : decode cc pc = .ok (.aload i, 2)) (hq : lv[q]? = some (i, v)) (hv : v.isRef = true) (kk : Wp p l e R s m args below meth c G nL cells slots Q z (pc + 2) lv (v :: rest)) : Wp p l e R s m args below meth c G nL cells slots Q z (pc) lv (rest) := by
  intro H locs ls hp hl
  have h := lv_at hl q hq
  rcases isRef_or hv with e | ⟨a, e⟩
  · subst e
    exact lv_aloadN C.1.1 C.1.2.1 hdg h (kk H locs ls hp hl)
  · subst e
    exact lv_aload C.1.1 C.1.2.1 hdg h (kk H locs ls hp hl)
theorem w_istore_n (C : Cx p s m args meth c cc nL Ts own ret G) {k : Fin 4} {i : Nat} {x : Int32} {lvq : List (Nat × Value)} (hdg : decode cc pc = .ok (.istore_n k, 1)) (hi : (k : Nat) = i) (hn : i < nL) (hlq : (i, Value.int x) :: lv.filter (fun q => !(q.1 == i) && !(q.1 + 1 == i && q.2.category == 2)) = lvq) (kk : Wp p l e R s m args below meth c G nL cells slots Q z (pc + 1) lvq (rest)) : Wp p l e R s m args below meth c G nL cells slots Q z (pc) lv (.int x :: rest) :=
  fun H locs ls hp hl => lv_istore_n C.1.1 C.1.2.1 hdg hi hl hn hlq (fun lsq h => kk H locs lsq hp h)
theorem w_istore (C : Cx p s m args meth c cc nL Ts own ret G) {i : Nat} {x : Int32} {lvq : List (Nat × Value)} (hdg : decode cc pc = .ok (.istore i, 2)) (hn : i < nL) (hlq : (i, Value.int x) :: lv.filter (fun q => !(q.1 == i) && !(q.1 + 1 == i && q.2.category == 2)) = lvq) (kk : Wp p l e R s m args below meth c G nL cells slots Q z (pc + 2) lvq (rest)) : Wp p l e R s m args below meth c G nL cells slots Q z (pc) lv (.int x :: rest) :=
  fun H locs ls hp hl => lv_istore C.1.1 C.1.2.1 hdg hl hn hlq (fun lsq h => kk H locs lsq hp h)
theorem w_lstore_n (C : Cx p s m args meth c cc nL Ts own ret G) {k : Fin 4} {i : Nat} {x : Int64} {lvq : List (Nat × Value)} (hdg : decode cc pc = .ok (.lstore_n k, 1)) (hi : (k : Nat) = i) (hn : i + 1 < nL) (hlq : (i, Value.long x) :: lv.filter (fun q => !(q.1 == i) && (!(q.1 == i + 1) && !(q.1 + 1 == i && q.2.category == 2))) = lvq) (kk : Wp p l e R s m args below meth c G nL cells slots Q z (pc + 1) lvq (rest)) : Wp p l e R s m args below meth c G nL cells slots Q z (pc) lv (.long x :: rest) :=
  fun H locs ls hp hl => lv_lstore_n C.1.1 C.1.2.1 hdg hi hl hn hlq (fun lsq h => kk H locs lsq hp h)
theorem w_lstore (C : Cx p s m args meth c cc nL Ts own ret G) {i : Nat} {x : Int64} {lvq : List (Nat × Value)} (hdg : decode cc pc = .ok (.lstore i, 2)) (hn : i + 1 < nL) (hlq : (i, Value.long x) :: lv.filter (fun q => !(q.1 == i) && (!(q.1 == i + 1) && !(q.1 + 1 == i && q.2.category == 2))) = lvq) (kk : Wp p l e R s m args below meth c G nL cells slots Q z (pc + 2) lvq (rest)) : Wp p l e R s m args below meth c G nL cells slots Q z (pc) lv (.long x :: rest) :=
  fun H locs ls hp hl => lv_lstore C.1.1 C.1.2.1 hdg hl hn hlq (fun lsq h => kk H locs lsq hp h)
theorem w_astore_n (C : Cx p s m args meth c cc nL Ts own ret G) {k : Fin 4} {i : Nat} {v : Value} {lvq : List (Nat × Value)} (hdg : decode cc pc = .ok (.astore_n k, 1)) (hi : (k : Nat) = i) (hv : v.isRef = true) (hn : i < nL) (hlq : (i, v) :: lv.filter (fun q => !(q.1 == i) && !(q.1 + 1 == i && q.2.category == 2)) = lvq) (kk : Wp p l e R s m args below meth c G nL cells slots Q z (pc + 1) lvq (rest)) : Wp p l e R s m args below meth c G nL cells slots Q z (pc) lv (v :: rest) := by
  intro H locs ls hp hl
  rcases isRef_or hv with e | ⟨a, e⟩
  · subst e
    exact lv_astore_nN C.1.1 C.1.2.1 hdg hi hl hn hlq (fun lsq h => kk H locs lsq hp h)
  · subst e
    exact lv_astore_n C.1.1 C.1.2.1 hdg hi hl hn hlq (fun lsq h => kk H locs lsq hp h)
theorem w_astore (C : Cx p s m args meth c cc nL Ts own ret G) {i : Nat} {v : Value} {lvq : List (Nat × Value)} (hdg : decode cc pc = .ok (.astore i, 2))  (hv : v.isRef = true) (hn : i < nL) (hlq : (i, v) :: lv.filter (fun q => !(q.1 == i) && !(q.1 + 1 == i && q.2.category == 2)) = lvq) (kk : Wp p l e R s m args below meth c G nL cells slots Q z (pc + 2) lvq (rest)) : Wp p l e R s m args below meth c G nL cells slots Q z (pc) lv (v :: rest) := by
  intro H locs ls hp hl
  rcases isRef_or hv with e | ⟨a, e⟩
  · subst e
    exact lv_astoreN C.1.1 C.1.2.1 hdg  hl hn hlq (fun lsq h => kk H locs lsq hp h)
  · subst e
    exact lv_astore C.1.1 C.1.2.1 hdg  hl hn hlq (fun lsq h => kk H locs lsq hp h)
theorem w_iinc (C : Cx p s m args meth c cc nL Ts own ret G) {i : Nat} {n : Int} {x v : Int32} {lvq : List (Nat × Value)} (q : Nat) (hdg : decode cc pc = .ok (.iinc i n, 3)) (hq : lv[q]? = some (i, .int x)) (hv : x + Int32.ofInt n = v) (hn : i < nL) (hlq : (i, Value.int v) :: lv.filter (fun q => !(q.1 == i) && !(q.1 + 1 == i && q.2.category == 2)) = lvq) (kk : Wp p l e R s m args below meth c G nL cells slots Q z (pc + 3) lvq (rest)) : Wp p l e R s m args below meth c G nL cells slots Q z (pc) lv (rest) :=
  fun H locs ls hp hl => lv_iinc C.1.1 C.1.2.1 hdg hl hq hv hn hlq (fun lsq h => kk H locs lsq hp h)
theorem lv_keepB {ls : Array Slot} {nL i j pq : Nat} {lv : List (Nat × Value)} {w v : Value} (h : lv_has ls nL lv) (hp : lv[pq]? = some (j, w)) (hj : j + 1 = i) (hw : w.category = 1) : (i, v) :: lv.filter (fun q => !(q.1 == i) && !(q.1 + 1 == i && q.2.category == 2)) = (i, v) :: lv.filter (fun q => !(q.1 == i)) := by
  congr 1
  apply List.filter_congr
  intro q hq
  by_cases h1 : q.1 + 1 = i
  · have e1 : ls[q.1]? = some (.val q.2) := h.2.2 q hq
    have e2 : ls[j]? = some (.val w) := lv_at h pq hp
    have e3 : q.1 = j := by omega
    rw [e3, e2] at e1
    have e4 : w = q.2 := by injection e1 with e1; injection e1
    rw [← e4, hw]
    simp
  · have : (q.1 + 1 == i) = false := by simpa using h1
    rw [this]
    simp
theorem w_istore_nB (C : Cx p s m args meth c cc nL Ts own ret G) {k : Fin 4} {i : Nat} {x : Int32} {lvq : List (Nat × Value)} (pq : Nat) {j : Nat} {w : Value} (hpq : lv[pq]? = some (j, w)) (hj : j + 1 = i) (hw : w.category = 1) (hdg : decode cc pc = .ok (.istore_n k, 1)) (hi : (k : Nat) = i) (hn : i < nL) (hlq : (i, Value.int x) :: lv.filter (fun q => !(q.1 == i)) = lvq) (kk : Wp p l e R s m args below meth c G nL cells slots Q z (pc + 1) lvq (rest)) : Wp p l e R s m args below meth c G nL cells slots Q z (pc) lv (.int x :: rest) :=
  fun H locs ls hp hl => lv_istore_n C.1.1 C.1.2.1 hdg hi hl hn ((lv_keepB hl hpq hj hw).trans hlq) (fun lsq h => kk H locs lsq hp h)
theorem w_istoreB (C : Cx p s m args meth c cc nL Ts own ret G) {i : Nat} {x : Int32} {lvq : List (Nat × Value)} (pq : Nat) {j : Nat} {w : Value} (hpq : lv[pq]? = some (j, w)) (hj : j + 1 = i) (hw : w.category = 1) (hdg : decode cc pc = .ok (.istore i, 2)) (hn : i < nL) (hlq : (i, Value.int x) :: lv.filter (fun q => !(q.1 == i)) = lvq) (kk : Wp p l e R s m args below meth c G nL cells slots Q z (pc + 2) lvq (rest)) : Wp p l e R s m args below meth c G nL cells slots Q z (pc) lv (.int x :: rest) :=
  fun H locs ls hp hl => lv_istore C.1.1 C.1.2.1 hdg hl hn ((lv_keepB hl hpq hj hw).trans hlq) (fun lsq h => kk H locs lsq hp h)
theorem w_astore_nB (C : Cx p s m args meth c cc nL Ts own ret G) {k : Fin 4} {i : Nat} {v : Value} {lvq : List (Nat × Value)} (pq : Nat) {j : Nat} {w : Value} (hpq : lv[pq]? = some (j, w)) (hj : j + 1 = i) (hw : w.category = 1) (hdg : decode cc pc = .ok (.astore_n k, 1)) (hi : (k : Nat) = i) (hv : v.isRef = true) (hn : i < nL) (hlq : (i, v) :: lv.filter (fun q => !(q.1 == i)) = lvq) (kk : Wp p l e R s m args below meth c G nL cells slots Q z (pc + 1) lvq (rest)) : Wp p l e R s m args below meth c G nL cells slots Q z (pc) lv (v :: rest) := by
  intro H locs ls hp hl
  rcases isRef_or hv with e | ⟨a, e⟩
  · subst e
    exact lv_astore_nN C.1.1 C.1.2.1 hdg hi hl hn ((lv_keepB hl hpq hj hw).trans hlq) (fun lsq h => kk H locs lsq hp h)
  · subst e
    exact lv_astore_n C.1.1 C.1.2.1 hdg hi hl hn ((lv_keepB hl hpq hj hw).trans hlq) (fun lsq h => kk H locs lsq hp h)
theorem w_astoreB (C : Cx p s m args meth c cc nL Ts own ret G) {i : Nat} {v : Value} {lvq : List (Nat × Value)} (pq : Nat) {j : Nat} {w : Value} (hpq : lv[pq]? = some (j, w)) (hj : j + 1 = i) (hw : w.category = 1) (hdg : decode cc pc = .ok (.astore i, 2))  (hv : v.isRef = true) (hn : i < nL) (hlq : (i, v) :: lv.filter (fun q => !(q.1 == i)) = lvq) (kk : Wp p l e R s m args below meth c G nL cells slots Q z (pc + 2) lvq (rest)) : Wp p l e R s m args below meth c G nL cells slots Q z (pc) lv (v :: rest) := by
  intro H locs ls hp hl
  rcases isRef_or hv with e | ⟨a, e⟩
  · subst e
    exact lv_astoreN C.1.1 C.1.2.1 hdg  hl hn ((lv_keepB hl hpq hj hw).trans hlq) (fun lsq h => kk H locs lsq hp h)
  · subst e
    exact lv_astore C.1.1 C.1.2.1 hdg  hl hn ((lv_keepB hl hpq hj hw).trans hlq) (fun lsq h => kk H locs lsq hp h)
theorem w_iincB (C : Cx p s m args meth c cc nL Ts own ret G) {i : Nat} {n : Int} {x v : Int32} {lvq : List (Nat × Value)} (q : Nat) (pq : Nat) {j : Nat} {w : Value} (hpq : lv[pq]? = some (j, w)) (hj : j + 1 = i) (hw : w.category = 1) (hdg : decode cc pc = .ok (.iinc i n, 3)) (hq : lv[q]? = some (i, .int x)) (hv : x + Int32.ofInt n = v) (hn : i < nL) (hlq : (i, Value.int v) :: lv.filter (fun q => !(q.1 == i)) = lvq) (kk : Wp p l e R s m args below meth c G nL cells slots Q z (pc + 3) lvq (rest)) : Wp p l e R s m args below meth c G nL cells slots Q z (pc) lv (rest) :=
  fun H locs ls hp hl => lv_iinc C.1.1 C.1.2.1 hdg hl hq hv hn ((lv_keepB hl hpq hj hw).trans hlq) (fun lsq h => kk H locs lsq hp h)
theorem w_if_eq (C : Cx p s m args meth c cc nL Ts own ret G) {x : Int32} {off : Int} {tgt : Nat} (hdg : decode cc pc = .ok (.ifCond .eq off, 3)) (ht : (pc : Int) + off = (tgt : Int)) (kt : x = 0 → Wp p l e R s m args below meth c G nL cells slots Q z (tgt) lv (rest)) (kf : ¬ x = 0 → Wp p l e R s m args below meth c G nL cells slots Q z (pc + 3) lv (rest)) : Wp p l e R s m args below meth c G nL cells slots Q z (pc) lv (.int x :: rest) :=
  fun H locs ls hp hl => lv_if_eq C.1.1 C.1.2.1 hdg ht (fun h => kt h H locs ls hp hl) (fun h => kf h H locs ls hp hl)
theorem w_icmp_eq (C : Cx p s m args meth c cc nL Ts own ret G) {x y : Int32} {off : Int} {tgt : Nat} (hdg : decode cc pc = .ok (.if_icmp .eq off, 3)) (ht : (pc : Int) + off = (tgt : Int)) (kt : x = y → Wp p l e R s m args below meth c G nL cells slots Q z (tgt) lv (rest)) (kf : ¬ x = y → Wp p l e R s m args below meth c G nL cells slots Q z (pc + 3) lv (rest)) : Wp p l e R s m args below meth c G nL cells slots Q z (pc) lv (.int y :: .int x :: rest) :=
  fun H locs ls hp hl => lv_icmp_eq C.1.1 C.1.2.1 hdg ht (fun h => kt h H locs ls hp hl) (fun h => kf h H locs ls hp hl)
theorem w_if_ne (C : Cx p s m args meth c cc nL Ts own ret G) {x : Int32} {off : Int} {tgt : Nat} (hdg : decode cc pc = .ok (.ifCond .ne off, 3)) (ht : (pc : Int) + off = (tgt : Int)) (kt : ¬ x = 0 → Wp p l e R s m args below meth c G nL cells slots Q z (tgt) lv (rest)) (kf : x = 0 → Wp p l e R s m args below meth c G nL cells slots Q z (pc + 3) lv (rest)) : Wp p l e R s m args below meth c G nL cells slots Q z (pc) lv (.int x :: rest) :=
  fun H locs ls hp hl => lv_if_ne C.1.1 C.1.2.1 hdg ht (fun h => kt h H locs ls hp hl) (fun h => kf h H locs ls hp hl)
theorem w_icmp_ne (C : Cx p s m args meth c cc nL Ts own ret G) {x y : Int32} {off : Int} {tgt : Nat} (hdg : decode cc pc = .ok (.if_icmp .ne off, 3)) (ht : (pc : Int) + off = (tgt : Int)) (kt : ¬ x = y → Wp p l e R s m args below meth c G nL cells slots Q z (tgt) lv (rest)) (kf : x = y → Wp p l e R s m args below meth c G nL cells slots Q z (pc + 3) lv (rest)) : Wp p l e R s m args below meth c G nL cells slots Q z (pc) lv (.int y :: .int x :: rest) :=
  fun H locs ls hp hl => lv_icmp_ne C.1.1 C.1.2.1 hdg ht (fun h => kt h H locs ls hp hl) (fun h => kf h H locs ls hp hl)
theorem w_if_lt (C : Cx p s m args meth c cc nL Ts own ret G) {x : Int32} {off : Int} {tgt : Nat} (hdg : decode cc pc = .ok (.ifCond .lt off, 3)) (ht : (pc : Int) + off = (tgt : Int)) (kt : x < 0 → Wp p l e R s m args below meth c G nL cells slots Q z (tgt) lv (rest)) (kf : ¬ x < 0 → Wp p l e R s m args below meth c G nL cells slots Q z (pc + 3) lv (rest)) : Wp p l e R s m args below meth c G nL cells slots Q z (pc) lv (.int x :: rest) :=
  fun H locs ls hp hl => lv_if_lt C.1.1 C.1.2.1 hdg ht (fun h => kt h H locs ls hp hl) (fun h => kf h H locs ls hp hl)
theorem w_icmp_lt (C : Cx p s m args meth c cc nL Ts own ret G) {x y : Int32} {off : Int} {tgt : Nat} (hdg : decode cc pc = .ok (.if_icmp .lt off, 3)) (ht : (pc : Int) + off = (tgt : Int)) (kt : x < y → Wp p l e R s m args below meth c G nL cells slots Q z (tgt) lv (rest)) (kf : ¬ x < y → Wp p l e R s m args below meth c G nL cells slots Q z (pc + 3) lv (rest)) : Wp p l e R s m args below meth c G nL cells slots Q z (pc) lv (.int y :: .int x :: rest) :=
  fun H locs ls hp hl => lv_icmp_lt C.1.1 C.1.2.1 hdg ht (fun h => kt h H locs ls hp hl) (fun h => kf h H locs ls hp hl)
theorem w_if_ge (C : Cx p s m args meth c cc nL Ts own ret G) {x : Int32} {off : Int} {tgt : Nat} (hdg : decode cc pc = .ok (.ifCond .ge off, 3)) (ht : (pc : Int) + off = (tgt : Int)) (kt : 0 ≤ x → Wp p l e R s m args below meth c G nL cells slots Q z (tgt) lv (rest)) (kf : ¬ 0 ≤ x → Wp p l e R s m args below meth c G nL cells slots Q z (pc + 3) lv (rest)) : Wp p l e R s m args below meth c G nL cells slots Q z (pc) lv (.int x :: rest) :=
  fun H locs ls hp hl => lv_if_ge C.1.1 C.1.2.1 hdg ht (fun h => kt h H locs ls hp hl) (fun h => kf h H locs ls hp hl)
theorem w_icmp_ge (C : Cx p s m args meth c cc nL Ts own ret G) {x y : Int32} {off : Int} {tgt : Nat} (hdg : decode cc pc = .ok (.if_icmp .ge off, 3)) (ht : (pc : Int) + off = (tgt : Int)) (kt : y ≤ x → Wp p l e R s m args below meth c G nL cells slots Q z (tgt) lv (rest)) (kf : ¬ y ≤ x → Wp p l e R s m args below meth c G nL cells slots Q z (pc + 3) lv (rest)) : Wp p l e R s m args below meth c G nL cells slots Q z (pc) lv (.int y :: .int x :: rest) :=
  fun H locs ls hp hl => lv_icmp_ge C.1.1 C.1.2.1 hdg ht (fun h => kt h H locs ls hp hl) (fun h => kf h H locs ls hp hl)
theorem w_if_gt (C : Cx p s m args meth c cc nL Ts own ret G) {x : Int32} {off : Int} {tgt : Nat} (hdg : decode cc pc = .ok (.ifCond .gt off, 3)) (ht : (pc : Int) + off = (tgt : Int)) (kt : 0 < x → Wp p l e R s m args below meth c G nL cells slots Q z (tgt) lv (rest)) (kf : ¬ 0 < x → Wp p l e R s m args below meth c G nL cells slots Q z (pc + 3) lv (rest)) : Wp p l e R s m args below meth c G nL cells slots Q z (pc) lv (.int x :: rest) :=
  fun H locs ls hp hl => lv_if_gt C.1.1 C.1.2.1 hdg ht (fun h => kt h H locs ls hp hl) (fun h => kf h H locs ls hp hl)
theorem w_icmp_gt (C : Cx p s m args meth c cc nL Ts own ret G) {x y : Int32} {off : Int} {tgt : Nat} (hdg : decode cc pc = .ok (.if_icmp .gt off, 3)) (ht : (pc : Int) + off = (tgt : Int)) (kt : y < x → Wp p l e R s m args below meth c G nL cells slots Q z (tgt) lv (rest)) (kf : ¬ y < x → Wp p l e R s m args below meth c G nL cells slots Q z (pc + 3) lv (rest)) : Wp p l e R s m args below meth c G nL cells slots Q z (pc) lv (.int y :: .int x :: rest) :=
  fun H locs ls hp hl => lv_icmp_gt C.1.1 C.1.2.1 hdg ht (fun h => kt h H locs ls hp hl) (fun h => kf h H locs ls hp hl)
theorem w_if_le (C : Cx p s m args meth c cc nL Ts own ret G) {x : Int32} {off : Int} {tgt : Nat} (hdg : decode cc pc = .ok (.ifCond .le off, 3)) (ht : (pc : Int) + off = (tgt : Int)) (kt : x ≤ 0 → Wp p l e R s m args below meth c G nL cells slots Q z (tgt) lv (rest)) (kf : ¬ x ≤ 0 → Wp p l e R s m args below meth c G nL cells slots Q z (pc + 3) lv (rest)) : Wp p l e R s m args below meth c G nL cells slots Q z (pc) lv (.int x :: rest) :=
  fun H locs ls hp hl => lv_if_le C.1.1 C.1.2.1 hdg ht (fun h => kt h H locs ls hp hl) (fun h => kf h H locs ls hp hl)
theorem w_icmp_le (C : Cx p s m args meth c cc nL Ts own ret G) {x y : Int32} {off : Int} {tgt : Nat} (hdg : decode cc pc = .ok (.if_icmp .le off, 3)) (ht : (pc : Int) + off = (tgt : Int)) (kt : x ≤ y → Wp p l e R s m args below meth c G nL cells slots Q z (tgt) lv (rest)) (kf : ¬ x ≤ y → Wp p l e R s m args below meth c G nL cells slots Q z (pc + 3) lv (rest)) : Wp p l e R s m args below meth c G nL cells slots Q z (pc) lv (.int y :: .int x :: rest) :=
  fun H locs ls hp hl => lv_icmp_le C.1.1 C.1.2.1 hdg ht (fun h => kt h H locs ls hp hl) (fun h => kf h H locs ls hp hl)
theorem w_acmp_eq (C : Cx p s m args meth c cc nL Ts own ret G) {rx ry : Option Nat} {off : Int} {tgt : Nat} (hdg : decode cc pc = .ok (.if_acmp .eq off, 3)) (ht : (pc : Int) + off = (tgt : Int)) (kt : rx = ry → Wp p l e R s m args below meth c G nL cells slots Q z (tgt) lv (rest)) (kf : ¬ rx = ry → Wp p l e R s m args below meth c G nL cells slots Q z (pc + 3) lv (rest)) : Wp p l e R s m args below meth c G nL cells slots Q z (pc) lv (va_rf ry :: va_rf rx :: rest) :=
  fun H locs ls hp hl => lv_acmp_eq C.1.1 C.1.2.1 hdg ht (fun h => kt h H locs ls hp hl) (fun h => kf h H locs ls hp hl)
theorem w_acmp_ne (C : Cx p s m args meth c cc nL Ts own ret G) {rx ry : Option Nat} {off : Int} {tgt : Nat} (hdg : decode cc pc = .ok (.if_acmp .ne off, 3)) (ht : (pc : Int) + off = (tgt : Int)) (kt : ¬ rx = ry → Wp p l e R s m args below meth c G nL cells slots Q z (tgt) lv (rest)) (kf : rx = ry → Wp p l e R s m args below meth c G nL cells slots Q z (pc + 3) lv (rest)) : Wp p l e R s m args below meth c G nL cells slots Q z (pc) lv (va_rf ry :: va_rf rx :: rest) :=
  fun H locs ls hp hl => lv_acmp_ne C.1.1 C.1.2.1 hdg ht (fun h => kt h H locs ls hp hl) (fun h => kf h H locs ls hp hl)
theorem w_ifnull (C : Cx p s m args meth c cc nL Ts own ret G) {r : Option Nat} {off : Int} {tgt : Nat} (hdg : decode cc pc = .ok (.ifnull off, 3)) (ht : (pc : Int) + off = (tgt : Int)) (kt : r = none → Wp p l e R s m args below meth c G nL cells slots Q z (tgt) lv (rest)) (kf : ∀ a : Nat, r = some a → Wp p l e R s m args below meth c G nL cells slots Q z (pc + 3) lv (rest)) : Wp p l e R s m args below meth c G nL cells slots Q z (pc) lv (va_rf r :: rest) := by
  intro H locs ls hp hl
  cases r with
  | none => exact lv_ifnullN C.1.1 C.1.2.1 hdg ht (kt rfl H locs ls hp hl)
  | some a => exact lv_ifnull C.1.1 C.1.2.1 hdg (kf a rfl H locs ls hp hl)
theorem w_ifnonnull (C : Cx p s m args meth c cc nL Ts own ret G) {r : Option Nat} {off : Int} {tgt : Nat} (hdg : decode cc pc = .ok (.ifnonnull off, 3)) (ht : (pc : Int) + off = (tgt : Int)) (kt : ∀ a : Nat, r = some a → Wp p l e R s m args below meth c G nL cells slots Q z (tgt) lv (rest)) (kf : r = none → Wp p l e R s m args below meth c G nL cells slots Q z (pc + 3) lv (rest)) : Wp p l e R s m args below meth c G nL cells slots Q z (pc) lv (va_rf r :: rest) := by
  intro H locs ls hp hl
  cases r with
  | none => exact lv_ifnonnullN C.1.1 C.1.2.1 hdg (kf rfl H locs ls hp hl)
  | some a => exact lv_ifnonnull C.1.1 C.1.2.1 hdg ht (kt a rfl H locs ls hp hl)
theorem w_goto (C : Cx p s m args meth c cc nL Ts own ret G) {off : Int} {tgt : Nat} (hdg : decode cc pc = .ok (.goto off, 3)) (ht : (pc : Int) + off = (tgt : Int)) (k : Wp p l e R s m args below meth c G nL cells slots Q z (tgt) lv (rest)) : Wp p l e R s m args below meth c G nL cells slots Q z (pc) lv (rest) :=
  fun H locs ls hp hl => lv_goto C.1.1 C.1.2.1 hdg ht (k H locs ls hp hl)
theorem w_tableIn (C : Cx p s m args meth c cc nL Ts own ret G) {dflt lo hi : Int} {offs : Array Int} {len : Nat} {x : Int32} {off : Int} {tgt : Nat} (hdg : decode cc pc = .ok (.tableswitch dflt lo hi offs, len)) (h1 : ¬ x.toInt < lo) (h2 : ¬ hi < x.toInt) (ho : offs[(x.toInt - lo).toNat]? = some off) (ht : (pc : Int) + off = (tgt : Int)) (k : Wp p l e R s m args below meth c G nL cells slots Q z (tgt) lv (rest)) : Wp p l e R s m args below meth c G nL cells slots Q z (pc) lv (.int x :: rest) :=
  fun H locs ls hp hl => lv_tableIn C.1.1 C.1.2.1 hdg h1 h2 ho ht (k H locs ls hp hl)
theorem w_tableOut (C : Cx p s m args meth c cc nL Ts own ret G) {dflt lo hi : Int} {offs : Array Int} {len : Nat} {x : Int32} {tgt : Nat} (hdg : decode cc pc = .ok (.tableswitch dflt lo hi offs, len)) (h : x.toInt < lo ∨ hi < x.toInt) (ht : (pc : Int) + dflt = (tgt : Int)) (k : Wp p l e R s m args below meth c G nL cells slots Q z (tgt) lv (rest)) : Wp p l e R s m args below meth c G nL cells slots Q z (pc) lv (.int x :: rest) :=
  fun H locs ls hp hl => lv_tableOut C.1.1 C.1.2.1 hdg h ht (k H locs ls hp hl)
theorem w_getI (C : Cx p s m args meth c cc nL Ts own ret G) {ci index k f : Nat} {CN : String} {T : u_T} {N a : Nat} {x : Int32} (hc : vwCl[ci]? = some (CN, T, N)) (hin : ∀ w ∈ u_ws CN T N, w ∈ Ts) (hlink : Cond.fieldLink own index (T k).1 (T k).2.1 (T k).2.2.1 ∈ Ts) (hk : k < N) (hci : ci < 7) (hf : 32 * ci + k = f) (ht : (fTy ci)[k]? = some 0) (hdg : decode cc pc = .ok (.getfield index, 3)) (ha : is z a ci) (hx : sI z f a = x) (kk : Wp p l e R s m args below meth c G nL cells slots Q z (pc + 3) lv (.int x :: rest)) : Wp p l e R s m args below meth c G nL cells slots Q z (pc) lv (.ref a :: rest) := by
  intro H locs ls hp hl
  subst hf
  subst hx
  obtain ⟨q, hq⟩ := va_pl_get (X := []) (f := ent G.2.1 z) ha.1
  rw [ent_o ha.2 hci] at hq
  exact va_get C.1.1 C.1.2.1 C.1.2.2.2.2 hin C.1.2.2.2.1 C.2.1 hp.1.1 q hq hc k hk (C.1.2.2.2.2 _ hlink) (fun _ h => h) (fS_get ht) hdg (kk H locs ls hp hl)
theorem w_getJ (C : Cx p s m args meth c cc nL Ts own ret G) {ci index k f : Nat} {CN : String} {T : u_T} {N a : Nat} {x : Int64} (hc : vwCl[ci]? = some (CN, T, N)) (hin : ∀ w ∈ u_ws CN T N, w ∈ Ts) (hlink : Cond.fieldLink own index (T k).1 (T k).2.1 (T k).2.2.1 ∈ Ts) (hk : k < N) (hci : ci < 7) (hf : 32 * ci + k = f) (ht : (fTy ci)[k]? = some 1) (hdg : decode cc pc = .ok (.getfield index, 3)) (ha : is z a ci) (hx : sJ z f a = x) (kk : Wp p l e R s m args below meth c G nL cells slots Q z (pc + 3) lv (.long x :: rest)) : Wp p l e R s m args below meth c G nL cells slots Q z (pc) lv (.ref a :: rest) := by
  intro H locs ls hp hl
  subst hf
  subst hx
  obtain ⟨q, hq⟩ := va_pl_get (X := []) (f := ent G.2.1 z) ha.1
  rw [ent_o ha.2 hci] at hq
  exact va_get C.1.1 C.1.2.1 C.1.2.2.2.2 hin C.1.2.2.2.1 C.2.1 hp.1.1 q hq hc k hk (C.1.2.2.2.2 _ hlink) (fun _ h => h) (fS_get ht) hdg (kk H locs ls hp hl)
theorem w_getR (C : Cx p s m args meth c cc nL Ts own ret G) {ci index k f : Nat} {CN : String} {T : u_T} {N a : Nat} {x : Option Nat} (hc : vwCl[ci]? = some (CN, T, N)) (hin : ∀ w ∈ u_ws CN T N, w ∈ Ts) (hlink : Cond.fieldLink own index (T k).1 (T k).2.1 (T k).2.2.1 ∈ Ts) (hk : k < N) (hci : ci < 7) (hf : 32 * ci + k = f) (ht : (fTy ci)[k]? = some 2) (hdg : decode cc pc = .ok (.getfield index, 3)) (ha : is z a ci) (hx : sR z f a = x) (kk : Wp p l e R s m args below meth c G nL cells slots Q z (pc + 3) lv (va_rf x :: rest)) : Wp p l e R s m args below meth c G nL cells slots Q z (pc) lv (.ref a :: rest) := by
  intro H locs ls hp hl
  subst hf
  subst hx
  obtain ⟨q, hq⟩ := va_pl_get (X := []) (f := ent G.2.1 z) ha.1
  rw [ent_o ha.2 hci] at hq
  exact va_get C.1.1 C.1.2.1 C.1.2.2.2.2 hin C.1.2.2.2.1 C.2.1 hp.1.1 q hq hc k hk (C.1.2.2.2.2 _ hlink) (fun _ h => h) (fS_get ht) hdg (kk H locs ls hp hl)
theorem w_getRs (C : Cx p s m args meth c cc nL Ts own ret G) {ci index k f : Nat} {CN : String} {T : u_T} {N a : Nat} {x : Nat} (hc : vwCl[ci]? = some (CN, T, N)) (hin : ∀ w ∈ u_ws CN T N, w ∈ Ts) (hlink : Cond.fieldLink own index (T k).1 (T k).2.1 (T k).2.2.1 ∈ Ts) (hk : k < N) (hci : ci < 7) (hf : 32 * ci + k = f) (ht : (fTy ci)[k]? = some 2) (hdg : decode cc pc = .ok (.getfield index, 3)) (ha : is z a ci) (hx : sR z f a = some x) (kk : Wp p l e R s m args below meth c G nL cells slots Q z (pc + 3) lv (.ref x :: rest)) : Wp p l e R s m args below meth c G nL cells slots Q z (pc) lv (.ref a :: rest) := w_getR C hc hin hlink hk hci hf ht hdg ha hx kk
theorem w_putI (C : Cx p s m args meth c cc nL Ts own ret G) {ci index k f : Nat} {CN : String} {T : u_T} {N a : Nat} {v : Int32} (hc : vwCl[ci]? = some (CN, T, N)) (hin : ∀ w ∈ u_ws CN T N, w ∈ Ts) (hlink : Cond.fieldLink own index (T k).1 (T k).2.1 (T k).2.2.1 ∈ Ts) (hk : k < N) (hci : ci < 7) (hf : 32 * ci + k = f) (ht : (fTy ci)[k]? = some 0) (ty0 : Nat → FieldType) (hty : ∀ k, k < N → parseFieldDescriptor (T k).2.2.1 = some (ty0 k)) (hnm : ∀ a, a < N → ∀ b, b < N → a ≠ b → (T a).2.1 ≠ (T b).2.1) (hfin : (T k).2.2.2 = false) (hn : narrow (ty0 k) (Value.int v) = Value.int v) (hfit : fits (ty0 k) (Value.int v) = true) (hdg : decode cc pc = .ok (.putfield index, 3)) (ha : is z a ci) (kk : Wp p l e R s m args below meth c G nL cells slots Q (putI z f a v) (pc + 3) lv (rest)) : Wp p l e R s m args below meth c G nL cells slots Q z (pc) lv (.int v :: .ref a :: rest) := by
  intro H locs ls hp hl
  subst hf
  obtain ⟨q, hq0⟩ := va_pl_get (X := []) (f := ent G.2.1 z) ha.1
  have hq := hq0
  rw [ent_o ha.2 hci] at hq
  refine va_put C.1.1 C.1.2.1 C.1.2.2.2.2 hin ty0 hty hnm C.1.2.2.2.1 C.2.1 hp.1.1 hp.1.2 hp.2 q hq hc k hk (C.1.2.2.2.2 _ hlink) (fun _ h => h) hfin (hty k hk) hn hfit (by rw [fS_len]; exact (List.getElem?_eq_some_iff.mp ht).1) hdg (fun H1 locs1 hP1 hD1 hS1 => ?_)
  rw [show va_pl (sL z) (ent G.2.1 z) = [] ++ va_pl (sL z) (ent G.2.1 z) from rfl, va_pl_set hp.1.2 ha.1 hq0, List.nil_append] at hP1 hD1
  exact kk H1 locs1 ls ⟨PD.of hP1 hD1 rfl (ent_putI z v ha.2 hci ht), hS1⟩ hl
theorem w_putIF (C : Cx p s m args meth c cc nL Ts own ret G) {ci index k f : Nat} {CN : String} {T : u_T} {N a : Nat} {v : Int32} (hc : vwCl[ci]? = some (CN, T, N)) (hin : ∀ w ∈ u_ws CN T N, w ∈ Ts) (hlink : Cond.fieldLink own index (T k).1 (T k).2.1 (T k).2.2.1 ∈ Ts) (hk : k < N) (hci : ci < 7) (hf : 32 * ci + k = f) (ht : (fTy ci)[k]? = some 0) (ty0 : Nat → FieldType) (hty : ∀ k, k < N → parseFieldDescriptor (T k).2.2.1 = some (ty0 k)) (hnm : ∀ a, a < N → ∀ b, b < N → a ≠ b → (T a).2.1 ≠ (T b).2.1) (hfin : (T k).2.2.2 = true) (hin2 : meth.name = "<init>") (hdecl : (T k).1 = own) (hn : narrow (ty0 k) (Value.int v) = Value.int v) (hfit : fits (ty0 k) (Value.int v) = true) (hdg : decode cc pc = .ok (.putfield index, 3)) (ha : is z a ci) (kk : Wp p l e R s m args below meth c G nL cells slots Q (putI z f a v) (pc + 3) lv (rest)) : Wp p l e R s m args below meth c G nL cells slots Q z (pc) lv (.int v :: .ref a :: rest) := by
  intro H locs ls hp hl
  subst hf
  obtain ⟨q, hq0⟩ := va_pl_get (X := []) (f := ent G.2.1 z) ha.1
  have hq := hq0
  rw [ent_o ha.2 hci] at hq
  refine va_putF C.1.1 C.1.2.1 C.1.2.2.2.2 hin ty0 hty hnm C.1.2.2.2.1 C.2.1 hp.1.1 hp.1.2 hp.2 q hq hc k hk (C.1.2.2.2.2 _ hlink) (fun _ h => h) hfin hin2 hdecl (hty k hk) hn hfit (by rw [fS_len]; exact (List.getElem?_eq_some_iff.mp ht).1) hdg (fun H1 locs1 hP1 hD1 hS1 => ?_)
  rw [show va_pl (sL z) (ent G.2.1 z) = [] ++ va_pl (sL z) (ent G.2.1 z) from rfl, va_pl_set hp.1.2 ha.1 hq0, List.nil_append] at hP1 hD1
  exact kk H1 locs1 ls ⟨PD.of hP1 hD1 rfl (ent_putI z v ha.2 hci ht), hS1⟩ hl
theorem w_putJ (C : Cx p s m args meth c cc nL Ts own ret G) {ci index k f : Nat} {CN : String} {T : u_T} {N a : Nat} {v : Int64} (hc : vwCl[ci]? = some (CN, T, N)) (hin : ∀ w ∈ u_ws CN T N, w ∈ Ts) (hlink : Cond.fieldLink own index (T k).1 (T k).2.1 (T k).2.2.1 ∈ Ts) (hk : k < N) (hci : ci < 7) (hf : 32 * ci + k = f) (ht : (fTy ci)[k]? = some 1) (ty0 : Nat → FieldType) (hty : ∀ k, k < N → parseFieldDescriptor (T k).2.2.1 = some (ty0 k)) (hnm : ∀ a, a < N → ∀ b, b < N → a ≠ b → (T a).2.1 ≠ (T b).2.1) (hfin : (T k).2.2.2 = false) (hn : narrow (ty0 k) (Value.long v) = Value.long v) (hfit : fits (ty0 k) (Value.long v) = true) (hdg : decode cc pc = .ok (.putfield index, 3)) (ha : is z a ci) (kk : Wp p l e R s m args below meth c G nL cells slots Q (putJ z f a v) (pc + 3) lv (rest)) : Wp p l e R s m args below meth c G nL cells slots Q z (pc) lv (.long v :: .ref a :: rest) := by
  intro H locs ls hp hl
  subst hf
  obtain ⟨q, hq0⟩ := va_pl_get (X := []) (f := ent G.2.1 z) ha.1
  have hq := hq0
  rw [ent_o ha.2 hci] at hq
  refine va_put C.1.1 C.1.2.1 C.1.2.2.2.2 hin ty0 hty hnm C.1.2.2.2.1 C.2.1 hp.1.1 hp.1.2 hp.2 q hq hc k hk (C.1.2.2.2.2 _ hlink) (fun _ h => h) hfin (hty k hk) hn hfit (by rw [fS_len]; exact (List.getElem?_eq_some_iff.mp ht).1) hdg (fun H1 locs1 hP1 hD1 hS1 => ?_)
  rw [show va_pl (sL z) (ent G.2.1 z) = [] ++ va_pl (sL z) (ent G.2.1 z) from rfl, va_pl_set hp.1.2 ha.1 hq0, List.nil_append] at hP1 hD1
  exact kk H1 locs1 ls ⟨PD.of hP1 hD1 rfl (ent_putJ z v ha.2 hci ht), hS1⟩ hl
theorem w_putJF (C : Cx p s m args meth c cc nL Ts own ret G) {ci index k f : Nat} {CN : String} {T : u_T} {N a : Nat} {v : Int64} (hc : vwCl[ci]? = some (CN, T, N)) (hin : ∀ w ∈ u_ws CN T N, w ∈ Ts) (hlink : Cond.fieldLink own index (T k).1 (T k).2.1 (T k).2.2.1 ∈ Ts) (hk : k < N) (hci : ci < 7) (hf : 32 * ci + k = f) (ht : (fTy ci)[k]? = some 1) (ty0 : Nat → FieldType) (hty : ∀ k, k < N → parseFieldDescriptor (T k).2.2.1 = some (ty0 k)) (hnm : ∀ a, a < N → ∀ b, b < N → a ≠ b → (T a).2.1 ≠ (T b).2.1) (hfin : (T k).2.2.2 = true) (hin2 : meth.name = "<init>") (hdecl : (T k).1 = own) (hn : narrow (ty0 k) (Value.long v) = Value.long v) (hfit : fits (ty0 k) (Value.long v) = true) (hdg : decode cc pc = .ok (.putfield index, 3)) (ha : is z a ci) (kk : Wp p l e R s m args below meth c G nL cells slots Q (putJ z f a v) (pc + 3) lv (rest)) : Wp p l e R s m args below meth c G nL cells slots Q z (pc) lv (.long v :: .ref a :: rest) := by
  intro H locs ls hp hl
  subst hf
  obtain ⟨q, hq0⟩ := va_pl_get (X := []) (f := ent G.2.1 z) ha.1
  have hq := hq0
  rw [ent_o ha.2 hci] at hq
  refine va_putF C.1.1 C.1.2.1 C.1.2.2.2.2 hin ty0 hty hnm C.1.2.2.2.1 C.2.1 hp.1.1 hp.1.2 hp.2 q hq hc k hk (C.1.2.2.2.2 _ hlink) (fun _ h => h) hfin hin2 hdecl (hty k hk) hn hfit (by rw [fS_len]; exact (List.getElem?_eq_some_iff.mp ht).1) hdg (fun H1 locs1 hP1 hD1 hS1 => ?_)
  rw [show va_pl (sL z) (ent G.2.1 z) = [] ++ va_pl (sL z) (ent G.2.1 z) from rfl, va_pl_set hp.1.2 ha.1 hq0, List.nil_append] at hP1 hD1
  exact kk H1 locs1 ls ⟨PD.of hP1 hD1 rfl (ent_putJ z v ha.2 hci ht), hS1⟩ hl
theorem w_putR (C : Cx p s m args meth c cc nL Ts own ret G) {ci index k f : Nat} {CN : String} {T : u_T} {N a : Nat} {v : Option Nat} (hc : vwCl[ci]? = some (CN, T, N)) (hin : ∀ w ∈ u_ws CN T N, w ∈ Ts) (hlink : Cond.fieldLink own index (T k).1 (T k).2.1 (T k).2.2.1 ∈ Ts) (hk : k < N) (hci : ci < 7) (hf : 32 * ci + k = f) (ht : (fTy ci)[k]? = some 2) (ty0 : Nat → FieldType) (hty : ∀ k, k < N → parseFieldDescriptor (T k).2.2.1 = some (ty0 k)) (hnm : ∀ a, a < N → ∀ b, b < N → a ≠ b → (T a).2.1 ≠ (T b).2.1) (hfin : (T k).2.2.2 = false) (hn : narrow (ty0 k) (va_rf v) = va_rf v) (hfit : fits (ty0 k) (va_rf v) = true) (hdg : decode cc pc = .ok (.putfield index, 3)) (ha : is z a ci) (kk : Wp p l e R s m args below meth c G nL cells slots Q (putR z f a v) (pc + 3) lv (rest)) : Wp p l e R s m args below meth c G nL cells slots Q z (pc) lv (va_rf v :: .ref a :: rest) := by
  intro H locs ls hp hl
  subst hf
  obtain ⟨q, hq0⟩ := va_pl_get (X := []) (f := ent G.2.1 z) ha.1
  have hq := hq0
  rw [ent_o ha.2 hci] at hq
  refine va_put C.1.1 C.1.2.1 C.1.2.2.2.2 hin ty0 hty hnm C.1.2.2.2.1 C.2.1 hp.1.1 hp.1.2 hp.2 q hq hc k hk (C.1.2.2.2.2 _ hlink) (fun _ h => h) hfin (hty k hk) hn hfit (by rw [fS_len]; exact (List.getElem?_eq_some_iff.mp ht).1) hdg (fun H1 locs1 hP1 hD1 hS1 => ?_)
  rw [show va_pl (sL z) (ent G.2.1 z) = [] ++ va_pl (sL z) (ent G.2.1 z) from rfl, va_pl_set hp.1.2 ha.1 hq0, List.nil_append] at hP1 hD1
  exact kk H1 locs1 ls ⟨PD.of hP1 hD1 rfl (ent_putR z v ha.2 hci ht), hS1⟩ hl
theorem w_putRF (C : Cx p s m args meth c cc nL Ts own ret G) {ci index k f : Nat} {CN : String} {T : u_T} {N a : Nat} {v : Option Nat} (hc : vwCl[ci]? = some (CN, T, N)) (hin : ∀ w ∈ u_ws CN T N, w ∈ Ts) (hlink : Cond.fieldLink own index (T k).1 (T k).2.1 (T k).2.2.1 ∈ Ts) (hk : k < N) (hci : ci < 7) (hf : 32 * ci + k = f) (ht : (fTy ci)[k]? = some 2) (ty0 : Nat → FieldType) (hty : ∀ k, k < N → parseFieldDescriptor (T k).2.2.1 = some (ty0 k)) (hnm : ∀ a, a < N → ∀ b, b < N → a ≠ b → (T a).2.1 ≠ (T b).2.1) (hfin : (T k).2.2.2 = true) (hin2 : meth.name = "<init>") (hdecl : (T k).1 = own) (hn : narrow (ty0 k) (va_rf v) = va_rf v) (hfit : fits (ty0 k) (va_rf v) = true) (hdg : decode cc pc = .ok (.putfield index, 3)) (ha : is z a ci) (kk : Wp p l e R s m args below meth c G nL cells slots Q (putR z f a v) (pc + 3) lv (rest)) : Wp p l e R s m args below meth c G nL cells slots Q z (pc) lv (va_rf v :: .ref a :: rest) := by
  intro H locs ls hp hl
  subst hf
  obtain ⟨q, hq0⟩ := va_pl_get (X := []) (f := ent G.2.1 z) ha.1
  have hq := hq0
  rw [ent_o ha.2 hci] at hq
  refine va_putF C.1.1 C.1.2.1 C.1.2.2.2.2 hin ty0 hty hnm C.1.2.2.2.1 C.2.1 hp.1.1 hp.1.2 hp.2 q hq hc k hk (C.1.2.2.2.2 _ hlink) (fun _ h => h) hfin hin2 hdecl (hty k hk) hn hfit (by rw [fS_len]; exact (List.getElem?_eq_some_iff.mp ht).1) hdg (fun H1 locs1 hP1 hD1 hS1 => ?_)
  rw [show va_pl (sL z) (ent G.2.1 z) = [] ++ va_pl (sL z) (ent G.2.1 z) from rfl, va_pl_set hp.1.2 ha.1 hq0, List.nil_append] at hP1 hD1
  exact kk H1 locs1 ls ⟨PD.of hP1 hD1 rfl (ent_putR z v ha.2 hci ht), hS1⟩ hl
theorem w_getIr (C : Cx p s m args meth c cc nL Ts own ret G) {ci index k f : Nat} {CN : String} {T : u_T} {N a : Nat} {x : Int32} (hc : vwCl[ci]? = some (CN, T, N)) (hin : ∀ w ∈ u_ws CN T N, w ∈ Ts) {ref : String} (hlink : Cond.fieldLink own index ref (T k).2.1 (T k).2.2.1 ∈ Ts) (hsf : Cond.sameField ref (T k).1 (T k).2.1 (T k).2.2.1 ∈ Ts) (hk : k < N) (hci : ci < 7) (hf : 32 * ci + k = f) (ht : (fTy ci)[k]? = some 0) (hdg : decode cc pc = .ok (.getfield index, 3)) (ha : is z a ci) (hx : sI z f a = x) (kk : Wp p l e R s m args below meth c G nL cells slots Q z (pc + 3) lv (.int x :: rest)) : Wp p l e R s m args below meth c G nL cells slots Q z (pc) lv (.ref a :: rest) := by
  intro H locs ls hp hl
  subst hf
  subst hx
  obtain ⟨q, hq⟩ := va_pl_get (X := []) (f := ent G.2.1 z) ha.1
  rw [ent_o ha.2 hci] at hq
  exact va_get C.1.1 C.1.2.1 C.1.2.2.2.2 hin C.1.2.2.2.1 C.2.1 hp.1.1 q hq hc k hk (C.1.2.2.2.2 _ hlink) (u_same (C.1.2.2.2.2 _ hsf)) (fS_get ht) hdg (kk H locs ls hp hl)
theorem w_putIr (C : Cx p s m args meth c cc nL Ts own ret G) {ci index k f : Nat} {CN : String} {T : u_T} {N a : Nat} {v : Int32} (hc : vwCl[ci]? = some (CN, T, N)) (hin : ∀ w ∈ u_ws CN T N, w ∈ Ts) {ref : String} (hlink : Cond.fieldLink own index ref (T k).2.1 (T k).2.2.1 ∈ Ts) (hsf : Cond.sameField ref (T k).1 (T k).2.1 (T k).2.2.1 ∈ Ts) (hk : k < N) (hci : ci < 7) (hf : 32 * ci + k = f) (ht : (fTy ci)[k]? = some 0) (ty0 : Nat → FieldType) (hty : ∀ k, k < N → parseFieldDescriptor (T k).2.2.1 = some (ty0 k)) (hnm : ∀ a, a < N → ∀ b, b < N → a ≠ b → (T a).2.1 ≠ (T b).2.1) (hfin : (T k).2.2.2 = false) (hn : narrow (ty0 k) (Value.int v) = Value.int v) (hfit : fits (ty0 k) (Value.int v) = true) (hdg : decode cc pc = .ok (.putfield index, 3)) (ha : is z a ci) (kk : Wp p l e R s m args below meth c G nL cells slots Q (putI z f a v) (pc + 3) lv (rest)) : Wp p l e R s m args below meth c G nL cells slots Q z (pc) lv (.int v :: .ref a :: rest) := by
  intro H locs ls hp hl
  subst hf
  obtain ⟨q, hq0⟩ := va_pl_get (X := []) (f := ent G.2.1 z) ha.1
  have hq := hq0
  rw [ent_o ha.2 hci] at hq
  refine va_put C.1.1 C.1.2.1 C.1.2.2.2.2 hin ty0 hty hnm C.1.2.2.2.1 C.2.1 hp.1.1 hp.1.2 hp.2 q hq hc k hk (C.1.2.2.2.2 _ hlink) (u_same (C.1.2.2.2.2 _ hsf)) hfin (hty k hk) hn hfit (by rw [fS_len]; exact (List.getElem?_eq_some_iff.mp ht).1) hdg (fun H1 locs1 hP1 hD1 hS1 => ?_)
  rw [show va_pl (sL z) (ent G.2.1 z) = [] ++ va_pl (sL z) (ent G.2.1 z) from rfl, va_pl_set hp.1.2 ha.1 hq0, List.nil_append] at hP1 hD1
  exact kk H1 locs1 ls ⟨PD.of hP1 hD1 rfl (ent_putI z v ha.2 hci ht), hS1⟩ hl
theorem upd_up (f : Nat → Int32) (k : Nat) (x : Int32) : upd f k x = va_up f k x := by funext j; simp [upd, va_up]
theorem updL_up (f : Nat → Int64) (k : Nat) (x : Int64) : vp_updL f k x = va_up f k x := by funext j; simp [vp_updL, va_up]
theorem w_iald (C : Cx p s m args meth c cc nL Ts own ret G) {a n : Nat} {i : Int32} {x : Int32} (hdg : decode cc pc = .ok (.iaload, 1)) (ha : is z a 7) (hi : i = nI n) (hn : n < sN z a) (hb : sN z a < 2 ^ 31) (hx : sE z a n = x) (kk : Wp p l e R s m args below meth c G nL cells slots Q z (pc + 1) lv (.int x :: rest)) : Wp p l e R s m args below meth c G nL cells slots Q z (pc) lv (.int i :: .ref a :: rest) := by
  intro H locs ls hp hl
  subst hi
  subst hx
  obtain ⟨q, hq⟩ := va_pl_get (X := []) (f := ent G.2.1 z) ha.1
  rw [ent_7 ha.2] at hq
  refine va_iald C.1.1 C.1.2.1 C.2.1 hp.1.1 q 0 hq rfl (vp_in_nI hn hb) hdg ?_
  rw [nI_clamp (by omega)]
  exact kk H locs ls hp hl
theorem w_zald (C : Cx p s m args meth c cc nL Ts own ret G) {a n : Nat} {i : Int32} {x : Int32} (hdg : decode cc pc = .ok (.baload, 1)) (ha : is z a 8) (hi : i = nI n) (hn : n < sN z a) (hb : sN z a < 2 ^ 31) (hx : sE z a n = x) (kk : Wp p l e R s m args below meth c G nL cells slots Q z (pc + 1) lv (.int x :: rest)) : Wp p l e R s m args below meth c G nL cells slots Q z (pc) lv (.int i :: .ref a :: rest) := by
  intro H locs ls hp hl
  subst hi
  subst hx
  obtain ⟨q, hq⟩ := va_pl_get (X := []) (f := ent G.2.1 z) ha.1
  rw [ent_8 ha.2] at hq
  refine va_zald C.1.1 C.1.2.1 C.2.1 hp.1.1 q 1 hq rfl (vp_in_nI hn hb) hdg ?_
  rw [nI_clamp (by omega)]
  exact kk H locs ls hp hl
theorem w_lald (C : Cx p s m args meth c cc nL Ts own ret G) {a n : Nat} {i : Int32} {x : Int64} (hdg : decode cc pc = .ok (.laload, 1)) (ha : is z a 10) (hi : i = nI n) (hn : n < sN z a) (hb : sN z a < 2 ^ 31) (hx : sF z a n = x) (kk : Wp p l e R s m args below meth c G nL cells slots Q z (pc + 1) lv (.long x :: rest)) : Wp p l e R s m args below meth c G nL cells slots Q z (pc) lv (.int i :: .ref a :: rest) := by
  intro H locs ls hp hl
  subst hi
  subst hx
  obtain ⟨q, hq⟩ := va_pl_get (X := []) (f := ent G.2.1 z) ha.1
  rw [ent_10 ha.2] at hq
  refine va_lald C.1.1 C.1.2.1 C.2.1 hp.1.1 q 3 hq rfl (vp_in_nI hn hb) hdg ?_
  rw [nI_clamp (by omega)]
  exact kk H locs ls hp hl
theorem w_aald (C : Cx p s m args meth c cc nL Ts own ret G) {a n : Nat} {i : Int32} {x : Option Nat} (hdg : decode cc pc = .ok (.aaload, 1)) (ha : is z a 9) (hi : i = nI n) (hn : n < sN z a) (hb : sN z a < 2 ^ 31) (hx : sQ z a n = x) (kk : Wp p l e R s m args below meth c G nL cells slots Q z (pc + 1) lv (va_rf x :: rest)) : Wp p l e R s m args below meth c G nL cells slots Q z (pc) lv (.int i :: .ref a :: rest) := by
  intro H locs ls hp hl
  subst hi
  subst hx
  obtain ⟨q, hq⟩ := va_pl_get (X := []) (f := ent G.2.1 z) ha.1
  rw [ent_9 ha.2] at hq
  refine va_aldq C.1.1 C.1.2.1 C.2.1 hp.1.1 q 2 hq rfl (vp_in_nI hn hb) hdg ?_
  rw [nI_clamp (by omega)]
  exact kk H locs ls hp hl
theorem w_iast (C : Cx p s m args meth c cc nL Ts own ret G) {a n : Nat} {i : Int32} {x : Int32} (hdg : decode cc pc = .ok (.iastore, 1)) (ha : is z a 7) (hi : i = nI n) (hn : n < sN z a) (hb : sN z a < 2 ^ 31) (kk : Wp p l e R s m args below meth c G nL cells slots Q (setE z a n x) (pc + 1) lv (rest)) : Wp p l e R s m args below meth c G nL cells slots Q z (pc) lv (.int x :: .int i :: .ref a :: rest) := by
  intro H locs ls hp hl
  subst hi
  obtain ⟨q, hq0⟩ := va_pl_get (X := []) (f := ent G.2.1 z) ha.1
  have hq := hq0
  rw [ent_7 ha.2] at hq
  refine va_iast C.1.1 C.1.2.1 C.2.1 hp.1.1 hp.1.2 hp.2 q 0 hq rfl (vp_in_nI hn hb) hdg (fun H1 locs1 hP1 hD1 hS1 => ?_)
  rw [nI_clamp (by omega), upd_up, show va_pl (sL z) (ent G.2.1 z) = [] ++ va_pl (sL z) (ent G.2.1 z) from rfl, va_pl_set hp.1.2 ha.1 hq0, List.nil_append] at hP1 hD1
  exact kk H1 locs1 ls ⟨PD.of hP1 hD1 rfl (ent_setE7 z x ha.2), hS1⟩ hl
theorem w_last (C : Cx p s m args meth c cc nL Ts own ret G) {a n : Nat} {i : Int32} {x : Int64} (hdg : decode cc pc = .ok (.lastore, 1)) (ha : is z a 10) (hi : i = nI n) (hn : n < sN z a) (hb : sN z a < 2 ^ 31) (kk : Wp p l e R s m args below meth c G nL cells slots Q (setF z a n x) (pc + 1) lv (rest)) : Wp p l e R s m args below meth c G nL cells slots Q z (pc) lv (.long x :: .int i :: .ref a :: rest) := by
  intro H locs ls hp hl
  subst hi
  obtain ⟨q, hq0⟩ := va_pl_get (X := []) (f := ent G.2.1 z) ha.1
  have hq := hq0
  rw [ent_10 ha.2] at hq
  refine va_last C.1.1 C.1.2.1 C.2.1 hp.1.1 hp.1.2 hp.2 q 3 hq rfl (vp_in_nI hn hb) hdg (fun H1 locs1 hP1 hD1 hS1 => ?_)
  rw [nI_clamp (by omega), updL_up, show va_pl (sL z) (ent G.2.1 z) = [] ++ va_pl (sL z) (ent G.2.1 z) from rfl, va_pl_set hp.1.2 ha.1 hq0, List.nil_append] at hP1 hD1
  exact kk H1 locs1 ls ⟨PD.of hP1 hD1 rfl (ent_setF z x ha.2), hS1⟩ hl
theorem w_zast (C : Cx p s m args meth c cc nL Ts own ret G) {a n : Nat} {i : Int32} {x y : Int32} (hdg : decode cc pc = .ok (.bastore, 1)) (ha : is z a 8) (hi : i = nI n) (hn : n < sN z a) (hb : sN z a < 2 ^ 31) (hy : vp_nar .boolean x = y) (kk : Wp p l e R s m args below meth c G nL cells slots Q (setE z a n y) (pc + 1) lv (rest)) : Wp p l e R s m args below meth c G nL cells slots Q z (pc) lv (.int x :: .int i :: .ref a :: rest) := by
  intro H locs ls hp hl
  subst hi
  subst hy
  obtain ⟨q, hq0⟩ := va_pl_get (X := []) (f := ent G.2.1 z) ha.1
  have hq := hq0
  rw [ent_8 ha.2] at hq
  refine va_zast C.1.1 C.1.2.1 C.2.1 hp.1.1 hp.1.2 hp.2 q 1 hq rfl (vp_in_nI hn hb) hdg (fun H1 locs1 hP1 hD1 hS1 => ?_)
  rw [nI_clamp (by omega), upd_up, show va_pl (sL z) (ent G.2.1 z) = [] ++ va_pl (sL z) (ent G.2.1 z) from rfl, va_pl_set hp.1.2 ha.1 hq0, List.nil_append] at hP1 hD1
  exact kk H1 locs1 ls ⟨PD.of hP1 hD1 rfl (ent_setE8 z _ ha.2), hS1⟩ hl
theorem w_aastN (C : Cx p s m args meth c cc nL Ts own ret G) {a n : Nat} {i : Int32} (hdg : decode cc pc = .ok (.aastore, 1)) (ha : is z a 9) (hi : i = nI n) (hn : n < sN z a) (hb : sN z a < 2 ^ 31) (kk : Wp p l e R s m args below meth c G nL cells slots Q (setQ z a n none) (pc + 1) lv (rest)) : Wp p l e R s m args below meth c G nL cells slots Q z (pc) lv (.null :: .int i :: .ref a :: rest) := by
  intro H locs ls hp hl
  subst hi
  obtain ⟨q, hq0⟩ := va_pl_get (X := []) (f := ent G.2.1 z) ha.1
  have hq := hq0
  rw [ent_9 ha.2] at hq
  refine va_astqN C.1.1 C.1.2.1 C.2.1 hp.1.1 hp.1.2 hp.2 q 2 hq rfl (vp_in_nI hn hb) hdg (fun H1 locs1 hP1 hD1 hS1 => ?_)
  rw [nI_clamp (by omega), show va_pl (sL z) (ent G.2.1 z) = [] ++ va_pl (sL z) (ent G.2.1 z) from rfl, va_pl_set hp.1.2 ha.1 hq0, List.nil_append] at hP1 hD1
  exact kk H1 locs1 ls ⟨PD.of hP1 hD1 rfl (ent_setQ z none ha.2), hS1⟩ hl
theorem w_aastG (C : Cx p s m args meth c cc nL Ts own ret G) {a n v : Nat} {i : Int32} (hdg : decode cc pc = .ok (.aastore, 1)) (ha : is z a 9) (hv : is z v 2) (hi : i = nI n) (hn : n < sN z a) (hb : sN z a < 2 ^ 31) (kk : Wp p l e R s m args below meth c G nL cells slots Q (setQ z a n (some v)) (pc + 1) lv (rest)) : Wp p l e R s m args below meth c G nL cells slots Q z (pc) lv (.ref v :: .int i :: .ref a :: rest) := by
  intro H locs ls hp hl
  subst hi
  obtain ⟨q, hq0⟩ := va_pl_get (X := []) (f := ent G.2.1 z) ha.1
  obtain ⟨qv, hqv⟩ := va_pl_get (X := []) (f := ent G.2.1 z) hv.1
  rw [ent_o hv.2 (by omega)] at hqv
  have hq := hq0
  rw [ent_9 ha.2] at hq
  refine va_astqO (E := "java/lang/Object") (r := (RX1, TX1, 17)) C.1.1 C.1.2.1 C.2.1 hp.1.1 hp.1.2 hp.2 q 2 qv 2 hq rfl C.2.2.2.1.2.2.2.1.2.1 hqv rfl (vp_in_nI hn hb) hdg (fun H1 locs1 hP1 hD1 hS1 => ?_)
  rw [nI_clamp (by omega), show va_pl (sL z) (ent G.2.1 z) = [] ++ va_pl (sL z) (ent G.2.1 z) from rfl, va_pl_set hp.1.2 ha.1 hq0, List.nil_append] at hP1 hD1
  exact kk H1 locs1 ls ⟨PD.of hP1 hD1 rfl (ent_setQ z (some v) ha.2), hS1⟩ hl
theorem w_alen7 (C : Cx p s m args meth c cc nL Ts own ret G) {a : Nat} (hdg : decode cc pc = .ok (.arraylength, 1)) (ha : is z a 7) (hb : sN z a < 2 ^ 31) (kk : Wp p l e R s m args below meth c G nL cells slots Q z (pc + 1) lv (.int (nI (sN z a)) :: rest)) : Wp p l e R s m args below meth c G nL cells slots Q z (pc) lv (.ref a :: rest) := by
  intro H locs ls hp hl
  obtain ⟨q, hq⟩ := va_pl_get (X := []) (f := ent G.2.1 z) ha.1
  rw [ent_7 ha.2] at hq
  exact va_alen C.1.1 C.1.2.1 C.2.1 hp.1.1 q 0 hq rfl rfl hdg (kk H locs ls hp hl)
theorem w_alen8 (C : Cx p s m args meth c cc nL Ts own ret G) {a : Nat} (hdg : decode cc pc = .ok (.arraylength, 1)) (ha : is z a 8) (hb : sN z a < 2 ^ 31) (kk : Wp p l e R s m args below meth c G nL cells slots Q z (pc + 1) lv (.int (nI (sN z a)) :: rest)) : Wp p l e R s m args below meth c G nL cells slots Q z (pc) lv (.ref a :: rest) := by
  intro H locs ls hp hl
  obtain ⟨q, hq⟩ := va_pl_get (X := []) (f := ent G.2.1 z) ha.1
  rw [ent_8 ha.2] at hq
  exact va_alen C.1.1 C.1.2.1 C.2.1 hp.1.1 q 1 hq rfl rfl hdg (kk H locs ls hp hl)
theorem w_alen9 (C : Cx p s m args meth c cc nL Ts own ret G) {a : Nat} (hdg : decode cc pc = .ok (.arraylength, 1)) (ha : is z a 9) (hb : sN z a < 2 ^ 31) (kk : Wp p l e R s m args below meth c G nL cells slots Q z (pc + 1) lv (.int (nI (sN z a)) :: rest)) : Wp p l e R s m args below meth c G nL cells slots Q z (pc) lv (.ref a :: rest) := by
  intro H locs ls hp hl
  obtain ⟨q, hq⟩ := va_pl_get (X := []) (f := ent G.2.1 z) ha.1
  rw [ent_9 ha.2] at hq
  exact va_alen C.1.1 C.1.2.1 C.2.1 hp.1.1 q 2 hq rfl rfl hdg (kk H locs ls hp hl)
theorem w_alen10 (C : Cx p s m args meth c cc nL Ts own ret G) {a : Nat} (hdg : decode cc pc = .ok (.arraylength, 1)) (ha : is z a 10) (hb : sN z a < 2 ^ 31) (kk : Wp p l e R s m args below meth c G nL cells slots Q z (pc + 1) lv (.int (nI (sN z a)) :: rest)) : Wp p l e R s m args below meth c G nL cells slots Q z (pc) lv (.ref a :: rest) := by
  intro H locs ls hp hl
  obtain ⟨q, hq⟩ := va_pl_get (X := []) (f := ent G.2.1 z) ha.1
  rw [ent_10 ha.2] at hq
  exact va_alen C.1.1 C.1.2.1 C.2.1 hp.1.1 q 3 hq rfl rfl hdg (kk H locs ls hp hl)
theorem w_new (C : Cx p s m args meth c cc nL Ts own ret G) {ci index : Nat} {CN : String} {T : u_T} {N : Nat} (hc : vwCl[ci]? = some (CN, T, N)) (hin : ∀ w ∈ u_ws CN T N, w ∈ Ts) (ty0 : Nat → FieldType) (hty : ∀ k, k < N → parseFieldDescriptor (T k).2.2.1 = some (ty0 k)) (hcl : Cond.classLink own index CN ∈ Ts) (hinst : Cond.instantiable CN N ∈ Ts) (hini : Cond.initialized CN ∈ Ts) (hci : ci < 7) (hfs : ∀ j, j < N → defaultValue (ty0 j) = vp_V (f0 ci) j) (hdg : decode cc pc = .ok (.new index, 3)) (hcells : cells + 1 ≤ R.cells) (hslots : slots + N ≤ R.slots) (kk : ∀ q : Nat, q ∉ sL z → G.2.2.1 ≤ q → Wp p l e R s m args below meth c G nL (cells + 1) (slots + N) Q (newO z q ci) (pc + 3) lv (.ref q :: rest)) : Wp p l e R s m args below meth c G nL cells slots Q z (pc) lv (rest) := by
  intro H locs ls hp hl
  refine va_new C.1.1 C.1.2.1 C.1.2.2.2.2 hin ty0 hty C.1.2.2.2.1 (C.1.2.2.2.2 _ hcl) (C.1.2.2.2.2 _ hinst) (C.1.2.2.2.2 _ hini) C.2.1 hp.1.1 hp.1.2 hp.2 (fun q h => Nat.le_trans C.2.2.1 h) hc hfs hcells hslots hdg (fun q H1 hP1 hD1 hS1 => ?_)
  have hq : q ∉ sL z := va_pl_fresh2 (X := []) hD1
  have hlow : G.2.2.1 ≤ q := hD1.2 _ _ (List.getElem?_concat_length)
  rw [va_pl_push hq] at hP1 hD1
  exact kk q hq hlow H1 locs ls ⟨PD.of hP1 hD1 rfl (ent_newO z hci), hS1⟩ hl
end Rows5
