/-! ===== ROWS for what the JDK's list does: max, min, a static, a new Object[], getClass, arraycopy ===== -/
section Rows8
variable {p : Program} {l : Launch} {e : Env} {R : Room} {s : State} {m : MethodId} {args : Array Value} {below : List Frame} {meth : Method} {c : Code} {G : Gx} {nL cells slots : Nat} {Q : State → Prop} {z : Sto} {pc : Nat} {lv : List (Nat × Value)} {st rest : List Value}
variable {cc : ByteArray} {Ts : List Cond} {own : String} {ret : Option FieldType}
theorem w_max (C : Cx p s m args meth c cc nL Ts own ret G) {index : Nat} {x y : Int32} (h1 : Cond.methodLink own index Lib.Math.max.name ∈ Ts) (h2 : Cond.static Lib.Math.max.name ∈ Ts) (h3 : Cond.initialized "java/lang/Math" ∈ Ts) (h4 : Cond.code Lib.Math.max.name Lib.Math.max.code 2 (some .int) ∈ Ts) (hf : 1 ≤ R.frames) (hlo : (rest.map fun v => v.category).sum + 13 ≤ R.locals) (hc : cells ≤ R.cells) (hs : slots ≤ R.slots) (hdg : decode cc pc = .ok (.invokestatic index, 3))
    (kk : Wp p l e R s m args below meth c G nL cells slots Q z (pc + 3) lv (.int (if x < y then y else x) :: rest)) : Wp p l e R s m args below meth c G nL cells slots Q z pc lv (.int y :: .int x :: rest) :=
  fun H locs ls hp hl => va_mmax C.1.1 C.1.2.1 (by rw [C.1.2.2.1]; exact hl.1.symm) C.1.2.2.2.1 (C.1.2.2.2.2 _ h1) (C.1.2.2.2.2 _ h2) (C.1.2.2.2.2 _ h3) (C.1.2.2.2.2 _ h4) hf hlo hc hs hdg (kk H locs ls hp hl)
theorem w_min (C : Cx p s m args meth c cc nL Ts own ret G) {index : Nat} {x y : Int32} (h1 : Cond.methodLink own index Lib.Math.min.name ∈ Ts) (h2 : Cond.static Lib.Math.min.name ∈ Ts) (h3 : Cond.initialized "java/lang/Math" ∈ Ts) (h4 : Cond.code Lib.Math.min.name Lib.Math.min.code 2 (some .int) ∈ Ts) (hf : 1 ≤ R.frames) (hlo : (rest.map fun v => v.category).sum + 13 ≤ R.locals) (hc : cells ≤ R.cells) (hs : slots ≤ R.slots) (hdg : decode cc pc = .ok (.invokestatic index, 3))
    (kk : Wp p l e R s m args below meth c G nL cells slots Q z (pc + 3) lv (.int (if y < x then y else x) :: rest)) : Wp p l e R s m args below meth c G nL cells slots Q z pc lv (.int y :: .int x :: rest) :=
  fun H locs ls hp hl => va_mmin C.1.1 C.1.2.1 (by rw [C.1.2.2.1]; exact hl.1.symm) C.1.2.2.2.1 (C.1.2.2.2.2 _ h1) (C.1.2.2.2.2 _ h2) (C.1.2.2.2.2 _ h3) (C.1.2.2.2.2 _ h4) hf hlo hc hs hdg (kk H locs ls hp hl)
/-- ArrayList's empty row -/
theorem w_getsE (C : Cx p s m args meth c cc nL Ts own ret G) {index : Nat} (h1 : Cond.fieldLink own index "java/util/ArrayList" "DEFAULTCAPACITY_EMPTY_ELEMENTDATA" "[Ljava/lang/Object;" ∈ Ts) (hdg : decode cc pc = .ok (.getstatic index, 3))
    (kk : Wp p l e R s m args below meth c G nL cells slots Q z (pc + 3) lv (.ref (G.2.2.2 0) :: rest)) : Wp p l e R s m args below meth c G nL cells slots Q z pc lv rest :=
  fun H locs ls hp hl => va_gets C.1.1 C.1.2.1 C.2.2.2.1.1.1 hp.2 C.1.2.2.2.1 (C.1.2.2.2.2 _ h1) (fun _ h => h) hdg (kk H locs ls hp hl)
theorem w_tlenE (C : Cx p s m args meth c cc nL Ts own ret G) (hdg : decode cc pc = .ok (.arraylength, 1))
    (kk : Wp p l e R s m args below meth c G nL cells slots Q z (pc + 1) lv (.int 0 :: rest)) : Wp p l e R s m args below meth c G nL cells slots Q z pc lv (.ref (G.2.2.2 0) :: rest) :=
  fun H locs ls hp hl => va_tlen C.1.1 C.1.2.1 C.2.2.2.1.1.2 hp.2 rfl hdg (kk H locs ls hp hl)
/-- the lanes' bits -/
theorem w_getsB (C : Cx p s m args meth c cc nL Ts own ret G) {index : Nat} (h1 : Cond.fieldLink own index "TernaryNet$Lanes" "LANE_BITS" "[J" ∈ Ts) (hdg : decode cc pc = .ok (.getstatic index, 3))
    (kk : Wp p l e R s m args below meth c G nL cells slots Q z (pc + 3) lv (.ref (G.2.2.2 1) :: rest)) : Wp p l e R s m args below meth c G nL cells slots Q z pc lv rest :=
  fun H locs ls hp hl => va_gets C.1.1 C.1.2.1 C.2.2.2.1.2.1.1 hp.2 C.1.2.2.2.1 (C.1.2.2.2.2 _ h1) (fun _ h => h) hdg (kk H locs ls hp hl)
theorem w_tlenB (C : Cx p s m args meth c cc nL Ts own ret G) (hdg : decode cc pc = .ok (.arraylength, 1))
    (kk : Wp p l e R s m args below meth c G nL cells slots Q z (pc + 1) lv (.int 6 :: rest)) : Wp p l e R s m args below meth c G nL cells slots Q z pc lv (.ref (G.2.2.2 1) :: rest) :=
  fun H locs ls hp hl => va_tlen C.1.1 C.1.2.1 C.2.2.2.1.2.1.2 hp.2 rfl hdg (kk H locs ls hp hl)
theorem w_taldB (C : Cx p s m args meth c cc nL Ts own ret G) {i : Int32} {n : Nat} (hi : i = nI n) (hn : n < 6) (hdg : decode cc pc = .ok (.laload, 1))
    (kk : Wp p l e R s m args below meth c G nL cells slots Q z (pc + 1) lv (.long (lBits n) :: rest)) : Wp p l e R s m args below meth c G nL cells slots Q z pc lv (.int i :: .ref (G.2.2.2 1) :: rest) := by
  intro H locs ls hp hl
  subst hi
  exact va_tl C.1.1 C.1.2.1 C.2.2.2.1.2.1.2 hp.2 (vp_in_nI hn (by decide)) (by rw [nI_clamp (by omega)]) hdg (kk H locs ls hp hl)
/-- a new Object[] -/
theorem w_newq (C : Cx p s m args meth c cc nL Ts own ret G) {index N' : Nat} {i : Int32} (hcl : Cond.classLink own index "java/lang/Object" ∈ Ts) (hi : i = nI N') (hN : N' < 2 ^ 20) (hcells : cells + 1 ≤ R.cells) (hslots : slots + N' ≤ R.slots) (hdg : decode cc pc = .ok (.anewarray index, 3))
    (kk : ∀ q : Nat, q ∉ sL z → G.2.2.1 ≤ q → Wp p l e R s m args below meth c G nL (cells + 1) (slots + N') Q (newA z q 9 N' (fun _ => none)) (pc + 3) lv (.ref q :: rest)) : Wp p l e R s m args below meth c G nL cells slots Q z pc lv (.int i :: rest) := by
  intro H locs ls hp hl
  subst hi
  refine va_newq C.1.1 C.1.2.1 C.1.2.2.2.1 (C.1.2.2.2.2 _ hcl) C.2.2.2.1.2.2.2.1.1 C.2.1 hp.1.1 hp.1.2 hp.2 (fun q h => Nat.le_trans C.2.2.1 h) (nI_pos (by omega)) (nI_clamp (by omega)) (by omega) hcells hslots hdg (fun q cA H1 hK1 hP1 hD1 hS1 => ?_)
  have hq : q ∉ sL z := va_pl_fresh2 (X := []) hD1
  have hlow : G.2.2.1 ≤ q := hD1.2 _ _ (List.getElem?_concat_length)
  have hcA : cA = G.2.1 2 := by
    obtain ⟨-, -, -, -, -, h1⟩ := (hK1.2 (tysx G.2.1).length (cA, .object "java/lang/Object") List.getElem?_concat_length).2
    obtain ⟨-, -, -, -, -, h2⟩ := (C.2.1.2 2 (G.2.1 2, .object "java/lang/Object") rfl).2
    exact Option.some.inj (h1.symm.trans h2)
  subst hcA
  rw [va_pl_push hq] at hP1 hD1
  refine kk q hq hlow H1 locs ls ⟨PD.of hP1 hD1 rfl (ent_newA z ?_), hS1⟩ hl
  rw [ent_9 (show sK (newA z q 9 N' (fun _ => none)) q = 9 from va_up_self _ _ _)]
  show Sum.inl (G.2.1 2, va_up (sN z) q N' q, Sum.inr (Sum.inr (Sum.inr (Sum.inr (c1 (sQ z) q (fun _ => none) q))))) = _
  rw [va_up_self]
  congr 3
  refine congrArg (fun f => Sum.inr (Sum.inr (Sum.inr (Sum.inr f)))) ?_
  funext j
  simp [c1]
/-- getClass of an Object[] -/
theorem w_getC (C : Cx p s m args meth c cc nL Ts own ret G) {index a : Nat} (ha : is z a 9) (h1 : Cond.methodLink own index ⟨"java/lang/Object", "getClass", "()Ljava/lang/Class;"⟩ ∈ Ts) (h2 : Cond.selects "[Ljava/lang/Object;" ⟨"java/lang/Object", "getClass", "()Ljava/lang/Class;"⟩ ⟨"java/lang/Object", "getClass", "()Ljava/lang/Class;"⟩ ∈ Ts) (h3 : Cond.instanceMethod ⟨"java/lang/Object", "getClass", "()Ljava/lang/Class;"⟩ ∈ Ts) (h4 : Cond.native ⟨"java/lang/Object", "getClass", "()Ljava/lang/Class;"⟩ ∈ Ts) (hf : 1 ≤ R.frames) (hlo : (rest.map fun v => v.category).sum + 14 ≤ R.locals) (hdg : decode cc pc = .ok (.invokevirtual index, 3))
    (kk : Wp p l e R s m args below meth c G nL cells slots Q z (pc + 3) lv (.ref (G.2.2.2 2) :: rest)) : Wp p l e R s m args below meth c G nL cells slots Q z pc lv (.ref a :: rest) := by
  intro H locs ls hp hl
  have hat := hp.1.get ha.1
  rw [ent_9 ha.2] at hat
  exact va_getC C.1.1 C.1.2.1 (by rw [C.1.2.2.1]; exact hl.1.symm) C.1.2.2.2.1 (C.1.2.2.2.2 _ h1) (va_Dc.use C.2.2.2.1.2.2.2.1.2.2.2) (C.1.2.2.2.2 _ h2) (C.1.2.2.2.2 _ h3) (C.1.2.2.2.2 _ h4) C.2.2.2.1.2.2.2.1.2.2.1 ⟨_, hat, rfl, va_nmO (C.2.1.2 2 (G.2.1 2, .object "java/lang/Object") rfl).2 (by decide)⟩ hf hlo hdg (kk H locs ls hp hl)
theorem w_ldcM (C : Cx p s m args meth c cc nL Ts own ret G) {index : Nat} (h1 : Cond.classLink own index "[Ljava/lang/Object;" ∈ Ts) (hdg : decode cc pc = .ok (.ldc index, 2))
    (kk : Wp p l e R s m args below meth c G nL cells slots Q z (pc + 2) lv (.ref (G.2.2.2 2) :: rest)) : Wp p l e R s m args below meth c G nL cells slots Q z pc lv rest :=
  fun H locs ls hp hl => va_ldcM C.1.1 C.1.2.1 C.1.2.2.2.1 (C.1.2.2.2.2 _ h1) C.2.2.2.1.2.2.2.1.2.2.1 hdg (kk H locs ls hp hl)
/-- arraycopy of the gates of a row into a new row -/
theorem w_copyN (C : Cx p s m args meth c cc nL Ts own ret G) {index q d N' n : Nat} (hq : q ∉ sL z) (hd : is z d 9) (hel : ∀ i, i < n → ∀ w, sQ z d i = some w → is z w 2) (hn : n ≤ sN z d) (hnN : n ≤ N') (hN : N' < 2 ^ 20) (hdN : sN z d < 2 ^ 20)
    (h1 : Cond.methodLink own index arraycopyName ∈ Ts) (h2 : Cond.native arraycopyName ∈ Ts) (h3 : Cond.static arraycopyName ∈ Ts) (h4 : Cond.initialized "java/lang/System" ∈ Ts) (hf : 1 ≤ R.frames) (hlo : (rest.map fun v => v.category).sum + (nativeFrameWords "java/lang/System" "arraycopy" 5 + 11) ≤ R.locals) {i : Int32} (hi : i = nI n) (hdg : decode cc pc = .ok (.invokestatic index, 3))
    (kk : Wp p l e R s m args below meth c G nL cells slots Q (newA z q 9 N' (fun i => if i < n then sQ z d i else none)) (pc + 3) lv rest) : Wp p l e R s m args below meth c G nL cells slots Q (newA z q 9 N' (fun _ => none)) pc lv (.int i :: .int 0 :: .ref q :: .int 0 :: .ref d :: rest) := by
  intro H locs ls hp hl
  subst hi
  have hdq : d ≠ q := fun h => hq (h ▸ hd.1)
  obtain ⟨y, hy⟩ : ∃ y, y = newA z q 9 N' (fun _ => none) := ⟨_, rfl⟩
  rw [← hy] at hp
  have isd : is y d 9 := by rw [hy]; exact is_newA hd hq
  have isq : is y q 9 := by rw [hy]; exact is_newA_self _ _ _ _ _
  have nd : sN y d = sN z d := by rw [hy]; exact va_up_ne _ _ hdq
  have nq : sN y q = N' := by rw [hy]; exact va_up_self _ _ _
  have qd : sQ y d = sQ z d := by rw [hy]; funext j; exact if_neg hdq
  have qq : sQ y q = fun _ => none := by rw [hy]; funext j; exact if_pos rfl
  obtain ⟨k0, hk0⟩ := va_pl_get (X := []) (f := ent G.2.1 y) isd.1
  obtain ⟨k1, hk1⟩ := va_pl_get (X := []) (f := ent G.2.1 y) isq.1
  have hk1' := hk1
  rw [ent_9 isd.2, nd, qd] at hk0
  rw [ent_9 isq.2, nq, qq] at hk1
  refine va_copyq (E0 := "java/lang/Object") (E1 := "java/lang/Object") (C := RX1) C.1.1 C.1.2.1 (by rw [C.1.2.2.1]; exact hl.1.symm) C.1.2.2.2.1 (C.1.2.2.2.2 _ h1) (C.1.2.2.2.2 _ h2) (C.1.2.2.2.2 _ h3) (C.1.2.2.2.2 _ h4) C.2.1 hp.1.1 hp.1.2 hp.2 k0 k1 2 2 hk0 hk1 rfl rfl (by decide) (by decide) (nI_pos (by omega)) (by rw [nI_clamp (by omega)]; show 0 + n ≤ _; omega) (by rw [nI_clamp (by omega)]; show 0 + n ≤ _; omega) (fun i hi w hw => ?_) (fun comp c0 e1 e2 => ?_) hf hlo hdg (fun H1 locs1 hP1 hD1 hS1 => ?_)
  · rw [nI_clamp (by omega)] at hi
    have hw' : sQ z d i = some w := by
      have e0 : (0 : Int32).toNatClampNeg + i = i := by show 0 + i = i; omega
      rw [e0] at hw
      exact hw
    have iw : is y w 2 := by rw [hy]; exact is_newA (hel i hi w hw') hq
    exact w_recv (N := 17) (T := TX1) C hp iw rfl (by decide)
  · obtain ⟨c1, t1, f1, f2, f3⟩ := Cond.castable_spec (va_Nw.use (A := args) rfl C.2.2.2.1.2.2.2.1.2.1)
    cases e1.symm.trans f2
    cases e2.symm.trans f1
    exact f3
  · rw [nI_clamp (by omega), show va_pl (sL y) (ent G.2.1 y) = [] ++ va_pl (sL y) (ent G.2.1 y) from rfl, va_pl_set hp.1.2 isq.1 hk1', List.nil_append] at hP1 hD1
    refine kk H1 locs1 ls ⟨PD.of hP1 hD1 (by rw [hy]; rfl) ?_, hS1⟩ hl
    refine ent_up ?_ (fun b hb => ?_)
    · rw [ent_9 (show sK (newA z q 9 N' (fun i => if i < n then sQ z d i else none)) q = 9 from va_up_self _ _ _)]
      show Sum.inl (G.2.1 2, va_up (sN z) q N' q, Sum.inr (Sum.inr (Sum.inr (Sum.inr (c1 (sQ z) q (fun i => if i < n then sQ z d i else none) q))))) = _
      rw [va_up_self]
      congr 3
      refine congrArg (fun f => Sum.inr (Sum.inr (Sum.inr (Sum.inr f)))) ?_
      funext j
      have e0 : (0 : Int32).toNatClampNeg = 0 := rfl
      simp only [c1, va_cpy, e0, if_pos]
      by_cases hj : j < n
      · simp [hj]
      · simp [hj]
    · rw [hy]
      refine ent_ext rfl rfl rfl rfl ?_ rfl
      funext j
      show (if b = q then _ else _) = (if b = q then _ else _)
      rw [if_neg hb, if_neg hb]
end Rows8
