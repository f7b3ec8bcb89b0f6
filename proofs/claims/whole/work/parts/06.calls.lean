/-! ===== ENTRY, RETURNS, CALLS ===== -/
/-- a contract out of a walk of the body -/
theorem ct_of {l : Launch} {y : MethodName} {ws ws' : List Cond} {rm : Room} {G : Gx} {z : Sto} {av : List Value} {Post : Option Value → Sto → Prop} {cc : ByteArray} {maxL : Nat} {ret : Option FieldType}
    (hy : plainName y.cls = true) (hw : ws = Cond.code y cc maxL ret :: ws') (hlen : (lg_sl av).length ≤ maxL) {lv0 : List (Nat × Value)} (hlv : lv_args 0 av = lv0)
    (body : ∀ (p : Program) (e : Env) (s : State) (m : MethodId) (args : Array Value) (below : List Frame) (meth : Method) (c : Code), Cx p s m args meth c cc maxL ws y.cls ret G → meth.name = y.name →
      Wp p l e rm s m args below meth c G maxL 0 0 (MQ below (cPost G Post) args s rm.cells rm.slots (gA G)) z 0 lv0 []) : Ct l y ws rm G z av Post := by
  subst hlv
  refine Met.ofW hy hw ?_
  intro p e s m args below meth c s₁ B hml hv
  obtain ⟨rfl, h1, h2, h3, h4⟩ := hv
  have hts := atoms_spec (ws := ws) B.pre
  have hown : s.vm.findClass y.cls = some m.cls := findClass_of_methodNamed B.named
  have hname : meth.name = y.name := (name_of_methodNamed B.named B.method).1
  have hl := lv_entry av (n := maxL) hlen
  rw [lg_entry_eq]
  exact body p e s m _ below meth c ⟨⟨B.exec, B.bytes, hml, hown, hts⟩, h3, h1, h4, B.notSynchronized, B.returns⟩ hname s.heap [] _ ⟨h2, va_S.rf⟩ hl
section Calls6
variable {p : Program} {l : Launch} {e : Env} {R : Room} {s : State} {m : MethodId} {args : Array Value} {below : List Frame} {meth : Method} {c : Code} {G : Gx} {nL cells slots : Nat} {Q : State → Prop} {z : Sto} {pc : Nat} {lv : List (Nat × Value)} {st rest : List Value}
variable {cc : ByteArray} {Ts : List Cond} {own : String} {ret : Option FieldType} {Post : Option Value → Sto → Prop}
theorem w_iret (C : Cx p s m args meth c cc nL Ts own (some .int) G) {v : Int32} (hdg : decode cc pc = .ok (.ireturn, 1)) (hp : Post (some (.int v)) z) : Wp p l e R s m args below meth c G nL cells slots (MQ below (cPost G Post) args s cells slots (gA G)) z pc lv [.int v] :=
  fun H locs ls hq hl => W.iret C.1.1 C.1.2.1 C.2.2.2.2.2 (fun t ht hW => ⟨⟨_, z, rfl, hp, by rw [ht]; exact hq.1⟩, hq.2.F ht⟩) hq.2.2.2 hdg C.2.2.2.2.1
theorem w_zret (C : Cx p s m args meth c cc nL Ts own (some .boolean) G) {v : Int32} (hdg : decode cc pc = .ok (.ireturn, 1)) (hn : narrow .boolean (.int v) = .int v) (hp : Post (some (.int v)) z) : Wp p l e R s m args below meth c G nL cells slots (MQ below (cPost G Post) args s cells slots (gA G)) z pc lv [.int v] :=
  fun H locs ls hq hl => W.zret C.1.1 C.1.2.1 C.2.2.2.2.2 hn (fun t ht hW => ⟨⟨_, z, rfl, hp, by rw [ht]; exact hq.1⟩, hq.2.F ht⟩) hq.2.2.2 hdg C.2.2.2.2.1
theorem w_vret (C : Cx p s m args meth c cc nL Ts own none G) (hdg : decode cc pc = .ok (.return_, 1)) (hp : Post none z) : Wp p l e R s m args below meth c G nL cells slots (MQ below (cPost G Post) args s cells slots (gA G)) z pc lv [] :=
  fun H locs ls hq hl => W.vret C.1.1 C.1.2.1 C.2.2.2.2.2 (fun t ht hW => ⟨⟨_, z, rfl, hp, by rw [ht]; exact hq.1⟩, hq.2.F ht⟩) hq.2.2.2 hdg C.2.2.2.2.1
theorem w_lret (C : Cx p s m args meth c cc nL Ts own (some .long) G) {v : Int64} (hdg : decode cc pc = .ok (.lreturn, 1)) (hp : Post (some (.long v)) z) : Wp p l e R s m args below meth c G nL cells slots (MQ below (cPost G Post) args s cells slots (gA G)) z pc lv [.long v] :=
  fun H locs ls hq hl => W.lret C.1.1 C.1.2.1 C.2.2.2.2.2 (fun t ht hW => ⟨⟨_, z, rfl, hp, by rw [ht]; exact hq.1⟩, hq.2.F ht⟩) hq.2.2.2 hdg C.2.2.2.2.1
theorem w_aret {rt : FieldType} (C : Cx p s m args meth c cc nL Ts own (some rt) G) (hrt : (∃ n, rt = .object n) ∨ ∃ t, rt = .array t) {v : Value} (hv : v.isRef = true) (hdg : decode cc pc = .ok (.areturn, 1)) (hp : Post (some v) z) : Wp p l e R s m args below meth c G nL cells slots (MQ below (cPost G Post) args s cells slots (gA G)) z pc lv [v] :=
  fun H locs ls hq hl => W.aret C.1.1 C.1.2.1 C.2.2.2.2.2 hrt (isRef_or hv) (fun t ht hW => ⟨⟨_, z, rfl, hp, by rw [ht]; exact hq.1⟩, hq.2.F ht⟩) hq.2.2.2 hdg C.2.2.2.2.1
theorem w_objInit (C : Cx p s m args meth c cc nL Ts own ret G) {idx a : Nat} (h1 : Cond.methodLink own idx Lib.objectInit ∈ Ts) (h2 : Cond.instanceMethod Lib.objectInit ∈ Ts) (h3 : Cond.code Lib.objectInit ⟨#[0xb1]⟩ 1 none ∈ Ts) (hdg : decode cc pc = .ok (.invokespecial idx, 3)) (hf : 1 ≤ R.frames) (hlo : (rest.map fun v => v.category).sum + 12 ≤ R.locals)
    (kk : Wp p l e R s m args below meth c G nL cells slots Q z (pc + 3) lv rest) : Wp p l e R s m args below meth c G nL cells slots Q z pc lv (.ref a :: rest) :=
  fun H locs ls hq hl => W.objInit C.1.1 C.1.2.1 C.1.2.2.2.1 (C.1.2.2.2.2 _ h1) (C.1.2.2.2.2 _ h2) (C.1.2.2.2.2 _ h3) rfl (by rw [C.1.2.2.1]; exact hl.1) rfl hdg hf (by show 2 * 0 + _ + 12 ≤ _; omega) (kk H locs ls hq hl)
/-- behind any call that its run tells of -/
theorem w_run {mc ms : Nat} {Post : Option Value → Sto → Prop} {a : Array Value}
    (hr : ∀ (H : Heap) (locs : List Loc) (ls : Array Slot), Pic G s z H locs → lv_has ls nL lv → va_Run p l e R s m args below meth c H locs cells slots mc ms (F0 m pc ls st) rest (cPost G Post a) (gA G))
    (kk : ∀ (rv : Option Value) (z' : Sto), Post rv z' → Wp p l e R s m args below meth c G nL (cells + mc) (slots + ms) Q z' (pc + 3) lv (rv.toList ++ rest)) : Wp p l e R s m args below meth c G nL cells slots Q z pc lv st := by
  intro H locs ls hp hl T hT X
  obtain ⟨v, st₀, t, T', L, h0, X', hL, e1, e2, ⟨⟨rv, z', hv, hpost, hPD⟩, hz, hk⟩, stp⟩ := hr H locs ls hp hl T hT X
  cases hv
  rw [h0] at hz hk
  obtain ⟨t2, a1, b1⟩ := kk v z' hpost T'.heap (locs ++ L) ls ⟨by rw [e1]; exact hPD, Nat.le_trans hp.2.1 (by rw [e1]; exact hz), fun q h1 h2 => by rw [e1, hk q (Nat.lt_of_lt_of_le h1 hp.2.1) h2]; exact hp.2.2.1 q h1 h2, fun q hq => by
      rcases List.mem_append.mp hq with h | h
      · exact hp.2.2.2 q h
      · exact hL q h⟩ hl T' rfl X'
  exact ⟨t2, stp t2 a1, b1⟩
theorem pre_of (C : Cx p s m args meth c cc nL Ts own ret G) {H : Heap} {locs : List Loc} {av : List Value} (hp : Pic G s z H locs) {U : State} (hU : U.heap = H) (hW : s.WarmedH U.vm) : cPre G z av av.toArray U :=
  ⟨rfl, by rw [hU]; exact Nat.le_trans C.2.2.1 hp.2.1, by rw [hU]; exact hp.1, va_K.moved hW.alike C.2.1, by rw [hU]; exact Sx.moved hW (C.2.2.2.1.kept (fun q h1 h2 => hp.2.2.1 q h1 h2))⟩
theorem w_recv (C : Cx p s m args meth c cc nL Ts own ret G) {H : Heap} {locs : List Loc} {b ci N : Nat} {CN : String} {T : u_T} (hp : Pic G s z H locs) (hb : is z b ci) (hc : vwCl[ci]? = some (CN, T, N)) (hci : ci < 7) : ∃ cellB : Cell, H[b]? = some cellB ∧ cellB.vm.isStatics = false ∧ s.vm.findClass CN = some cellB.cls := by
  obtain ⟨q, hq⟩ := va_pl_get (X := []) (f := ent G.2.1 z) hb.1
  rw [ent_o hb.2 hci] at hq
  exact va_recv (q := (CN, T, N)) C.2.1 hp.1.1 hc hq
variable {y : MethodName} {bytes : ByteArray} {maxL n index : Nat} {ret' : Option FieldType} {ws : List Cond} {rm : Room} {CN : String} {T : u_T} {N b ci : Nat} {As : List Value}
theorem w_callV (C : Cx p s m args meth c cc nL Ts own ret G) (cw : CallW R s args own CN index y bytes maxL ret' ws rm rm.cells rm.slots n) (hb : is z b ci) (hc : vwCl[ci]? = some (CN, T, N)) (hci : ci < 7) (hn : As.length = n) (hst : st = As.reverse ++ .ref b :: rest) (hW : (rest.map fun v => v.category).sum ≤ 8) (hdg : decode cc pc = .ok (.invokevirtual index, 3)) (hf : cells + rm.cells ≤ R.cells ∧ slots + rm.slots ≤ R.slots)
    (hM : Ct l y ws rm G z (.ref b :: As) Post)
    (kk : ∀ (rv : Option Value) (z' : Sto), Post rv z' → Wp p l e R s m args below meth c G nL (cells + rm.cells) (slots + rm.slots) Q z' (pc + 3) lv (rv.toList ++ rest)) : Wp p l e R s m args below meth c G nL cells slots Q z pc lv st :=
  w_run (a := (Value.ref b :: As).toArray) (fun H locs ls hp hl => va_runV C.1 hM cw ⟨cPre_blind _ _ _, w_recv C hp hb hc hci, fun U hU hWU => pre_of C hp hU hWU⟩ rfl hn hl.1 hst (lv_room hW) hdg hf) kk
theorem w_callS (C : Cx p s m args meth c cc nL Ts own ret G) (cw : CallB R s args own index y bytes maxL ret' ws rm rm.cells rm.slots n ∧ (Cond.static y).before args s = true) (hn : As.length = n) (hst : st = As.reverse ++ rest) (hW : (rest.map fun v => v.category).sum ≤ 8) (hdg : decode cc pc = .ok (.invokestatic index, 3)) (hf : cells + rm.cells ≤ R.cells ∧ slots + rm.slots ≤ R.slots)
    (hM : Ct l y ws rm G z As Post)
    (kk : ∀ (rv : Option Value) (z' : Sto), Post rv z' → Wp p l e R s m args below meth c G nL (cells + rm.cells) (slots + rm.slots) Q z' (pc + 3) lv (rv.toList ++ rest)) : Wp p l e R s m args below meth c G nL cells slots Q z pc lv st :=
  w_run (a := As.toArray) (fun H locs ls hp hl => va_runS C.1 hM cw ⟨cPre_blind _ _ _, fun U hU hWU => pre_of C hp hU hWU⟩ rfl hn hl.1 hst (lv_room hW) hdg hf) kk
theorem w_callI (C : Cx p s m args meth c cc nL Ts own ret G) (cw : CallB R s args own index y bytes maxL none ws rm rm.cells rm.slots n ∧ y.name = "<init>" ∧ (Cond.instanceMethod y).before args s = true) (hn : As.length = n) (hst : st = As.reverse ++ .ref b :: rest) (hW : (rest.map fun v => v.category).sum ≤ 8) (hdg : decode cc pc = .ok (.invokespecial index, 3)) (hf : cells + rm.cells ≤ R.cells ∧ slots + rm.slots ≤ R.slots)
    (hM : Ct l y ws rm G z (.ref b :: As) Post)
    (kk : ∀ (rv : Option Value) (z' : Sto), Post rv z' → Wp p l e R s m args below meth c G nL (cells + rm.cells) (slots + rm.slots) Q z' (pc + 3) lv (rv.toList ++ rest)) : Wp p l e R s m args below meth c G nL cells slots Q z pc lv st :=
  w_run (a := (Value.ref b :: As).toArray) (fun H locs ls hp hl => va_runI C.1 hM cw ⟨cPre_blind _ _ _, fun U hU hWU => pre_of C hp hU hWU⟩ rfl hn hl.1 hst (lv_room hW) hdg hf) kk
/-- a cast to the object's own class -/
theorem w_cast (C : Cx p s m args meth c cc nL Ts own ret G) {a : Nat} (hlink : Cond.classLink own index CN ∈ Ts) (hb : is z a ci) (hc : vwCl[ci]? = some (CN, T, N)) (hci : ci < 7) (hdg : decode cc pc = .ok (.checkcast index, 3))
    (kk : Wp p l e R s m args below meth c G nL cells slots Q z (pc + 3) lv (.ref a :: rest)) : Wp p l e R s m args below meth c G nL cells slots Q z pc lv (.ref a :: rest) :=
  fun H locs ls hp hl => va_castS C.1.1 C.1.2.1 C.1.2.2.2.1 (C.1.2.2.2.2 _ hlink) (C.2.1.1 ci _ hc).2 (w_recv C hp hb hc hci) hdg (kk H locs ls hp hl)
/-- a new array of ints (7), booleans (8), longs (10) -/
theorem w_newa (C : Cx p s m args meth c cc nL Ts own ret G) {atype : ArrayType} {ty : FieldType} {t0 kind N' : Nat} {i : Int32} {x : vp_A} (harr : Cond.arrayClass (newarray.typeOf atype) ∈ Ts) (hty : newarray.typeOf atype = ty) (hk : (tysx G.2.1)[t0]? = some (G.2.1 t0, ty)) (hnr : ∀ C9, ty ≠ .object C9) (hx : ∀ cA : ClassId, vp_cell cA x = arrV cA N' (fun _ => defaultValue ty)) (hent : ∀ q, ent G.2.1 (newA z q kind N' (fun _ => none)) q = .inl (G.2.1 t0, x)) (hi : i = nI N') (hN : N' < 2 ^ 20) (hby : componentBytes ty ≤ 8) (hcells : cells + 1 ≤ R.cells) (hslots : slots + N' ≤ R.slots) (hdg : decode cc pc = .ok (.newarray atype, 2))
    (kk : ∀ q : Nat, q ∉ sL z → G.2.2.1 ≤ q → Wp p l e R s m args below meth c G nL (cells + 1) (slots + N') Q (newA z q kind N' (fun _ => none)) (pc + 2) lv (.ref q :: rest)) : Wp p l e R s m args below meth c G nL cells slots Q z pc lv (.int i :: rest) := by
  intro H locs ls hp hl
  subst hi
  refine va_newa C.1.1 C.1.2.1 (C.1.2.2.2.2 _ harr) hty C.2.1 hp.1.1 hp.1.2 hp.2 (fun q h => Nat.le_trans C.2.2.1 h) hx (nI_pos (by omega)) (nI_clamp (by omega)) (Nat.le_trans (Nat.mul_le_mul (Nat.le_of_lt hN) hby) (by decide)) hcells hslots hdg (fun q cA H1 hK1 hP1 hD1 hS1 => ?_)
  have hq : q ∉ sL z := va_pl_fresh2 (X := []) hD1
  have hlow : G.2.2.1 ≤ q := hD1.2 _ _ (List.getElem?_concat_length)
  have hcA : cA = G.2.1 t0 := by
    have h1 := (hK1.2 (tysx G.2.1).length (cA, ty) List.getElem?_concat_length).2
    have h2 := (C.2.1.2 t0 _ hk).2
    cases ty with
    | object C9 => exact absurd rfl (hnr C9)
    | _ => exact Option.some.inj (h1.symm.trans h2)
  subst hcA
  rw [va_pl_push hq] at hP1 hD1
  exact kk q hq hlow H1 locs ls ⟨PD.of hP1 hD1 rfl (ent_newA z (hent q)), hS1⟩ hl
end Calls6
