/-! ===== methods that throw; gateAt ===== -/
def cXC (G : Gx) (PX : String → Sto → Prop) : String → State → State → Prop := fun E st t => (∃ z' : Sto, PX E z' ∧ PD G z' t.heap) ∧ va_F (gA G) st t
/-- the contract of a method that returns or throws -/
def CtX (l : Launch) (y : MethodName) (ws : List Cond) (rm : Room) (G : Gx) (z : Sto) (av : List Value) (Post : Option Value → Sto → Prop) (PX : String → Sto → Prop) : Prop := vx_Met l y ws rm (cPre G z av) (cPost G Post) (cXC G PX) rm.cells rm.slots (gA G)
theorem ctx_of {l : Launch} {y : MethodName} {ws ws' : List Cond} {rm : Room} {G : Gx} {z : Sto} {av : List Value} {Post : Option Value → Sto → Prop} {PX : String → Sto → Prop} {cc : ByteArray} {maxL : Nat} {ret : Option FieldType}
    (hy : plainName y.cls = true) (hw : ws = Cond.code y cc maxL ret :: ws') (hlen : (lg_sl av).length ≤ maxL) {lv0 : List (Nat × Value)} (hlv : lv_args 0 av = lv0)
    (body : ∀ (p : Program) (e : Env) (s : State) (m : MethodId) (args : Array Value) (below : List Frame) (meth : Method) (c : Code), Cx p s m args meth c cc maxL ws y.cls ret G → meth.name = y.name → (∀ x ∈ c.exceptionTable.toList, False) →
      Wp p l e rm s m args below meth c G maxL 0 0 (vx_MQ below (cPost G Post) (cXC G PX) args s rm.cells rm.slots (gA G)) z 0 lv0 []) : CtX l y ws rm G z av Post PX := by
  subst hlv
  refine vx_ofW hy hw ?_
  intro p e s m args below meth c s₁ B hml ht hv
  obtain ⟨rfl, h1, h2, h3, h4⟩ := hv
  have hts := atoms_spec (ws := ws) B.pre
  have hown : s.vm.findClass y.cls = some m.cls := findClass_of_methodNamed B.named
  have hname : meth.name = y.name := (name_of_methodNamed B.named B.method).1
  have hl := lv_entry av (n := maxL) hlen
  rw [lg_entry_eq]
  exact body p e s m _ below meth c ⟨⟨B.exec, B.bytes, hml, hown, hts⟩, h3, h1, h4, B.notSynchronized, B.returns⟩ hname ht s.heap [] _ ⟨h2, va_S.rf⟩ hl
theorem PD.grown {G : Gx} {z : Sto} {H H1 : Heap} (h : PD G z H) (hq : ∀ q : Nat, q < H.size → H1[q]? = H[q]?) : PD G z H1 := ⟨h.1.kept (fun k q hk => hq q.1 (h.1 k q hk).lt), h.2⟩
section Throw41
variable {p : Program} {l : Launch} {e : Env} {R : Room} {s : State} {m : MethodId} {args : Array Value} {below : List Frame} {meth : Method} {c : Code} {G : Gx} {nL cells slots : Nat} {z : Sto} {pc : Nat} {lv : List (Nat × Value)} {st rest : List Value}
variable {cc : ByteArray} {Ts : List Cond} {own : String} {ret : Option FieldType} {Post : Option Value → Sto → Prop} {PX : String → Sto → Prop} {mc ms : Nat}
/-- throw new E(text) -/
theorem w_throwS (C : Cx p s m args meth c cc nL Ts own ret G) (hl : l.stackTraces = false) (ht : ∀ x ∈ c.exceptionTable.toList, False) {cls text : String} {names : List String} {ik iS ic sa : Nat}
    (hcls : Bundle.fit cls = true) (hnames : ∀ n ∈ names, Bundle.fit n = true) (hk : Cond.classLink own ik cls ∈ Ts) (hini : Cond.initialized cls ∈ Ts) (hstr : vk_R own iS text sa s)
    (hat : ∀ w ∈ (vx_atS own ic cls names).filter goodWord, w ∈ Ts) (hng : ((vx_atS own ic cls names).filter (fun w => !goodWord w)).all (fun w => decide (w ∈ [Cond.declares (Bundle.initS "java/lang/RuntimeException"), Cond.declares (Bundle.initS "java/lang/Exception"), Cond.declares (Bundle.initS Bundle.tN), Cond.castable cls cls])) = true) (hcast : va_Nw (.castable cls cls) s)
    (d0 : decode cc pc = .ok (.new ik, 3)) (d3 : decode cc (pc + 3) = .ok (.dup, 1)) (d4 : decode cc (pc + 4) = .ok (.ldc iS, 2)) (d6 : decode cc (pc + 6) = .ok (.invokespecial ic, 3)) (d9 : decode cc (pc + 9) = .ok (.athrow, 1))
    (hRframes : names.length + 3 < R.frames) (hRlocals : (rest.map fun v => v.category).sum + (13 * (names.length + 1) + 43) ≤ R.locals) (hR : cells + 1 ≤ R.cells ∧ slots + 6 ≤ R.slots) (hms : cells + 1 ≤ mc ∧ slots + 6 ≤ ms)
    (hgood : (Cond.classLink own ik cls :: Cond.initialized cls :: vx_atS own ic cls names).all vx_ot = true) (hx : PX cls z) :
    Wp p l e R s m args below meth c G nL cells slots (vx_MQ below (cPost G Post) (cXC G PX) args s mc ms (gA G)) z pc lv rest := by
  intro H locs ls hp hlv
  have hS := C.2.2.2.1
  have hD := hS.2.2.2.2.2.2.2.2.2.1
  refine vx_throwS (names := names) C.1.1 C.1.2.1 hl C.1.2.2.2.1 hcls hnames (C.1.2.2.2.2 _ hk) (C.1.2.2.2.2 _ hini) hstr ?_ (List.all_eq_true.mp hgood) hS.2.2.1.1 hS.2.2.1.2 hp.2 (by rw [C.1.2.2.1]; exact hlv.1) d0 d3 d4 d6 d9 (fun x h => (ht x h).elim) hRframes hRlocals hR.1 hR.2 C.2.2.2.2.1 (fun t _ h2 h3 => ⟨⟨z, hx, hp.1.grown h3⟩, Nat.le_trans hp.2.1 h2, fun q h4 h5 => by rw [h3 q (Nat.lt_of_lt_of_le h4 hp.2.1)]; exact hp.2.2.1 q h4 h5⟩) hp.2.2.2 hms.1 hms.2
  refine vx_hat (B := [Cond.declares (Bundle.initS "java/lang/RuntimeException"), Cond.declares (Bundle.initS "java/lang/Exception"), Cond.declares (Bundle.initS Bundle.tN), Cond.castable cls cls]) (fun w hw => C.1.2.2.2.2 _ (hat w hw)) (fun w hw => of_decide_eq_true (List.all_eq_true.mp hng w hw)) ?_
  exact vx_c (va_Nw.use rfl hD.1) (vx_c (va_Nw.use rfl hD.2.1) (vx_c (va_Nw.use rfl hD.2.2) (vx_c (va_Nw.use rfl hcast) vx_n)))
/-- a call that throws, passed on -/
theorem w_callVX (C : Cx p s m args meth c cc nL Ts own ret G) (ht : ∀ x ∈ c.exceptionTable.toList, False) {y : MethodName} {bytes : ByteArray} {maxL n index b ci N : Nat} {ret' : Option FieldType} {ws : List Cond} {rm : Room} {CN : String} {T : u_T} {As : List Value} {PX' : String → Sto → Prop}
    (cw : CallW R s args own CN index y bytes maxL ret' ws rm rm.cells rm.slots n) (hb : is z b ci) (hc : vwCl[ci]? = some (CN, T, N)) (hci : ci < 7) (hn : As.length = n) (hst : st = As.reverse ++ .ref b :: rest) (hW : (rest.map fun v => v.category).sum ≤ 8) (hdg : decode cc pc = .ok (.invokevirtual index, 3)) (hf : cells + rm.cells ≤ R.cells ∧ slots + rm.slots ≤ R.slots) (hms : cells + rm.cells ≤ mc ∧ slots + rm.slots ≤ ms)
    (hM : CtX l y ws rm G z (.ref b :: As) (fun _ _ => False) PX') (hx : ∀ E z', PX' E z' → PX E z') : Wp p l e R s m args below meth c G nL cells slots (vx_MQ below (cPost G Post) (cXC G PX) args s mc ms (gA G)) z pc lv st := by
  intro H locs ls hp hl T0 hT X
  have hr := vx_runV (e := e) (below := below) (meth := meth) (locs := locs) (g := F0 m pc ls st) C.1 hM cw ⟨cPre_blind _ _ _, w_recv C hp hb hc hci, fun U hU hWU => pre_of C hp hU hWU⟩ rfl hn hl.1 hst (lv_room hW) hdg hf
  rcases hr T0 hT X with ⟨v, st₀, t, T', L, h0, X', hL, e1, e2, ⟨⟨rv, z', hv, hpost, hPD⟩, hz, hk⟩, stp⟩ | ⟨q, st₀, t, T', L, E, ce, h0, X', hL, e1, e2, ⟨⟨z', hpx, hPD⟩, hz, hk⟩, hce, hcv, hcl, stp⟩
  · exact hpost.elim
  · rw [h0] at hz hk
    have hS : va_S (gA G) s.heap T'.heap (locs ++ L) := ⟨Nat.le_trans hp.2.1 (by rw [e1]; exact hz), fun q h1 h2 => by rw [e1, hk q (Nat.lt_of_lt_of_le h1 hp.2.1) h2]; exact hp.2.2.1 q h1 h2, fun q hq => by
        rcases List.mem_append.mp hq with h | h
        · exact hp.2.2.2 q h
        · exact hL q h⟩
    obtain ⟨t2, a1, b1⟩ := vx_out (p := p) (l := l) (e := e) (R := R) (below := below) (Qc := cPost G Post) (XC := cXC G PX) (args := args) (free := gA G) (locs := locs ++ L) (ls := ls) (rest := rest) (pc := pc) (H := T'.heap) (fun x h => (ht x h).elim) C.2.2.2.2.1 (by rw [e1]; exact hce) hcv hcl (fun t9 h9 _ => ⟨⟨z', hx E z' hpx, by rw [h9, e1]; exact hPD⟩, hS.F h9⟩) hS.2.2 hms.1 hms.2 T' rfl X'
    exact ⟨t2, stp.trans a1, b1⟩
end Throw41
theorem lst_is {G : Gx} {z : Sto} {a n cap i : Nat} {f : Nat → Nat} (h : lst G z a n f cap) (hi : i < n) : is z (f i) 2 := by
  obtain ⟨a1, a2, a3, a4, a5⟩ := h
  rcases a5 with ⟨b1, b2⟩ | ⟨b1, d, b2, b3, b4, b5⟩
  · omega
  · exact (b5 i hi).2
set_option maxHeartbeats 4000000 in
set_option maxRecDepth 100000 in
theorem c_gateAt (l : Launch) (G : Gx) (z : Sto) {x gl n cap i : Nat} {ga : Nat → Nat} (hx : is z x 5) (hgl : sR z 160 x = some gl) (hg : lst G z gl n ga cap) (hi : i < n) : Ct l yX4_gateAt wsX4_gateAt ({ frames := 3, cells := 0, slots := 0, locals := 70 } : Room) G z [.ref x, .int (nI i)] (fun rv z' => rv = some (.ref (ga i)) ∧ z' = z) := by
  refine ct_of (cc := cX4_gateAt) (maxL := 2) (ret := (some (.object "TernaryNet$Gate"))) (lv0 := [(0, .ref x), (1, .int (nI i))]) (by decide) rfl (by simp [lg_sl, cat_ref, cat_null, cat_int, cat_long, rf_cat]) (by simp [lv_args, cat_ref, cat_null, cat_int, cat_long, rf_cat]) ?_
  intro p e s m args below meth c C hin
  have i5 : ∀ w ∈ u_ws RX4 TX4 9, w ∈ wsX4_gateAt := by decide +kernel
  refine w_iload_n C 1 dX4_gateAt_0 rfl rfl ?_
  refine w_if_lt (tgt := 15) C dX4_gateAt_1 (by decide) (fun c1 => ?_) (fun c1 => ?_)
  · exact absurd c1 (nI_pos (by have := hg.2.2.1; have := hg.2.2.2.1; omega))
  · refine w_iload_n C 1 dX4_gateAt_4 rfl rfl ?_
    refine w_aload_n C 0 dX4_gateAt_5 rfl rfl (by first | rfl | exact isRef_rf _) ?_
    refine w_getRs (ci := 5) (k := 0) (f := 160) C rfl i5 (by decide +kernel) (by decide) (by decide) rfl rfl dX4_gateAt_6 hx hgl ?_
    refine w_callV (ci := 0) (As := []) (rest := [.int (nI i)]) C (cwV 0 C.1.2.2.2.2 gX4_gateAt_Jx4a65c_size_8abf5 rfl rfl rfl (by decide +kernel) ⟨Nat.le_of_ble_eq_true rfl, Nat.le_of_ble_eq_true rfl⟩) hg.1 rfl (by decide) rfl rfl (by first | decide | simp [cat_ref, cat_null, cat_int, cat_long, rf_cat]) dX4_gateAt_9 ⟨Nat.le_of_ble_eq_true rfl, Nat.le_of_ble_eq_true rfl⟩ (c_size l G z hg) (fun rv z1 h1 => ?_)
    obtain ⟨rfl, e1⟩ := h1
    replace e1 := e1.symm
    subst e1
    refine w_icmp_lt (tgt := 25) C dX4_gateAt_12 (by decide) (fun c2 => ?_) (fun c2 => ?_)
    · refine w_aload_n C 0 dX4_gateAt_25 rfl rfl (by first | rfl | exact isRef_rf _) ?_
      refine w_getRs (ci := 5) (k := 0) (f := 160) C rfl i5 (by decide +kernel) (by decide) (by decide) rfl rfl dX4_gateAt_26 hx hgl ?_
      refine w_iload_n C 1 dX4_gateAt_29 rfl rfl ?_
      refine w_callV (ci := 0) (As := [.int (nI i)]) (rest := []) C (cwV 1 C.1.2.2.2.2 gX4_gateAt_Jx4a65c_get_915e3 rfl rfl rfl (by decide +kernel) ⟨Nat.le_of_ble_eq_true rfl, Nat.le_of_ble_eq_true rfl⟩) hg.1 rfl (by decide) rfl rfl (by first | decide | simp [cat_ref, cat_null, cat_int, cat_long, rf_cat]) dX4_gateAt_30 ⟨Nat.le_of_ble_eq_true rfl, Nat.le_of_ble_eq_true rfl⟩ (c_get l G z hg hi) (fun rv z1 h1 => ?_)
      obtain ⟨rfl, e1⟩ := h1
      replace e1 := e1.symm
      subst e1
      refine w_cast (ci := 2) C (by decide +kernel) (lst_is hg hi) rfl (by decide) dX4_gateAt_33 ?_
      exact w_aret C (Or.inl ⟨_, rfl⟩) (by first | rfl | exact isRef_rf _) dX4_gateAt_36 ⟨rfl, rfl⟩
    · exact absurd (nI_lt hi (by have := hg.2.2.1; have := hg.2.2.2.1; omega)) c2
set_option maxHeartbeats 4000000 in
set_option maxRecDepth 100000 in
theorem x_gateAt (l : Launch) (G : Gx) (z : Sto) {x gl n cap : Nat} {j : Int32} {ga : Nat → Nat} (hl9 : l.stackTraces = false) (hx : is z x 5) (hgl : sR z 160 x = some gl) (hg : lst G z gl n ga cap) (hj : j < 0 ∨ nI n ≤ j) : CtX l yX4_gateAt wsX4_gateAt ({ frames := 6, cells := 1, slots := 6, locals := 120 } : Room) G z [.ref x, .int j] (fun _ _ => False) (fun E z' => E = "java/lang/IndexOutOfBoundsException" ∧ z' = z) := by
  refine ctx_of (cc := cX4_gateAt) (maxL := 2) (ret := (some (.object "TernaryNet$Gate"))) (lv0 := [(0, .ref x), (1, .int j)]) (by decide) rfl (by simp [lg_sl, cat_ref, cat_null, cat_int, cat_long, rf_cat]) (by simp [lv_args, cat_ref, cat_null, cat_int, cat_long, rf_cat]) ?_
  intro p e s m args below meth c C hin ht9
  have i5 : ∀ w ∈ u_ws RX4 TX4 9, w ∈ wsX4_gateAt := by decide +kernel
  refine w_iload_n C 1 dX4_gateAt_0 rfl rfl ?_
  refine w_if_lt (tgt := 15) C dX4_gateAt_1 (by decide) (fun c1 => ?_) (fun c1 => ?_)
  · exact w_throwS (names := ["java/lang/RuntimeException", "java/lang/Exception"]) C hl9 ht9 (by decide +kernel) (by decide +kernel) (by decide +kernel) (by decide +kernel) C.2.2.2.1.2.2.2.2.2.1 (fun w hw => List.mem_cons_of_mem _ (List.mem_append_right _ hw)) (by decide +kernel) C.2.2.2.1.2.2.2.2.2.2.2.2.2.2.1.2.2 dX4_gateAt_15 dX4_gateAt_18 dX4_gateAt_19 dX4_gateAt_21 dX4_gateAt_24 (by decide) (by decide) (by decide) (by decide) (by decide +kernel) ⟨rfl, rfl⟩
  · refine w_iload_n C 1 dX4_gateAt_4 rfl rfl ?_
    refine w_aload_n C 0 dX4_gateAt_5 rfl rfl (by first | rfl | exact isRef_rf _) ?_
    refine w_getRs (ci := 5) (k := 0) (f := 160) C rfl i5 (by decide +kernel) (by decide) (by decide) rfl rfl dX4_gateAt_6 hx hgl ?_
    refine w_callV (ci := 0) (As := []) (rest := [.int j]) C (cwV 0 C.1.2.2.2.2 gX4_gateAt_Jx4a65c_size_8abf5 rfl rfl rfl (by decide +kernel) ⟨Nat.le_of_ble_eq_true rfl, Nat.le_of_ble_eq_true rfl⟩) hg.1 rfl (by decide) rfl rfl (by first | decide | simp [cat_ref, cat_null, cat_int, cat_long, rf_cat]) dX4_gateAt_9 ⟨Nat.le_of_ble_eq_true rfl, Nat.le_of_ble_eq_true rfl⟩ (c_size l G z hg) (fun rv z1 h1 => ?_)
    obtain ⟨rfl, e1⟩ := h1
    replace e1 := e1.symm
    subst e1
    refine w_icmp_lt (tgt := 25) C dX4_gateAt_12 (by decide) (fun c2 => ?_) (fun c2 => ?_)
    · rcases hj with q | q
      · exact absurd q c1
      · exact absurd c2 (Int32.not_lt.mpr q)
    · exact w_throwS (names := ["java/lang/RuntimeException", "java/lang/Exception"]) C hl9 ht9 (by decide +kernel) (by decide +kernel) (by decide +kernel) (by decide +kernel) C.2.2.2.1.2.2.2.2.2.1 (fun w hw => List.mem_cons_of_mem _ (List.mem_append_right _ hw)) (by decide +kernel) C.2.2.2.1.2.2.2.2.2.2.2.2.2.2.1.2.2 dX4_gateAt_15 dX4_gateAt_18 dX4_gateAt_19 dX4_gateAt_21 dX4_gateAt_24 (by decide) (by decide) (by decide) (by decide) (by decide +kernel) ⟨rfl, rfl⟩
