/-! ===== the law's methods that call the class and catch ===== -/
theorem ct_ofH {l : Launch} {y : MethodName} {ws ws' : List Cond} {rm : Room} {G : Gx} {z : Sto} {av : List Value} {Post : Option Value → Sto → Prop} {cc : ByteArray} {maxL : Nat} {ret : Option FieldType} {hh : List (Nat × Nat × Nat × Nat)}
    (hy : plainName y.cls = true) (hw : ws = Cond.codeWith y cc maxL ret hh :: ws') (hlen : (lg_sl av).length ≤ maxL) {lv0 : List (Nat × Value)} (hlv : lv_args 0 av = lv0)
    (body : ∀ (p : Program) (e : Env) (s : State) (m : MethodId) (args : Array Value) (below : List Frame) (meth : Method) (c : Code), Cx p s m args meth c cc maxL ws y.cls ret G → c.exceptionTable.toList = tableOf hh →
      Wp p l e rm s m args below meth c G maxL 0 0 (MQ below (cPost G Post) args s rm.cells rm.slots (gA G)) z 0 lv0 []) : Ct l y ws rm G z av Post := by
  subst hlv
  show Met l y ws rm (cPre G z av) (cPost G Post) rm.cells rm.slots (gA G)
  refine MetFree.of_bodyS (code := cc) (maxLocals := maxL) (ret := ret) hy ?_ ?_
  · intro args s m h hn
    obtain ⟨m9, meth, c, hn9, h1, h2, h3, h4, -, h5, h6, -⟩ := Cond.codeWith_spec (atoms_spec (ws := ws) h _ (by rw [hw]; exact List.mem_cons_self))
    cases hn.symm.trans hn9
    exact ⟨meth, c, h1, h2, h3, h4, h5, h6⟩
  · intro p e s m args below meth c s₁ B hml hP _
    have hh0 : s₁.heap = s.heap := by rw [B.state]; rfl
    have hts := atoms_spec (ws := ws) B.pre
    have htb : c.exceptionTable.toList = tableOf hh := vx_table (x := y) B (hts _ (by rw [hw]; exact List.mem_cons_self))
    obtain ⟨rfl, h1, h2, h3, h4⟩ := hP
    have hown : s.vm.findClass y.cls = some m.cls := findClass_of_methodNamed B.named
    have hl := lv_entry av (n := maxL) hlen
    have K : W p l e rm s m av.toArray below meth c s.heap [] 0 0 (MQ below (cPost G Post) av.toArray s rm.cells rm.slots (gA G)) (entryFrame m av.toArray maxL) := by
      rw [lg_entry_eq]
      exact body p e s m _ below meth c ⟨⟨B.exec, B.bytes, hml, hown, hts⟩, h3, h1, h4, B.notSynchronized, B.returns⟩ htb s.heap [] _ ⟨h2, va_S.rf⟩ hl
    obtain ⟨t, a1, o, b1, b2, b3⟩ := K s₁ hh0 (Stand.of_body B)
    exact ⟨t, o, a1, b1, b2, ⟨b3.1, b3.2⟩⟩
/-- a call that throws, caught here -/
theorem w_callVC {p : Program} {l : Launch} {e : Env} {R : Room} {s : State} {m : MethodId} {args : Array Value} {below : List Frame} {meth : Method} {c : Code} {G : Gx} {nL cells slots : Nat} {z : Sto} {pc : Nat} {lv : List (Nat × Value)} {st rest : List Value} {cc : ByteArray} {Ts : List Cond} {own : String} {ret : Option FieldType} {Q : State → Prop}
    (C : Cx p s m args meth c cc nL Ts own ret G) {y : MethodName} {bytes : ByteArray} {maxL n index b ci N : Nat} {ret' : Option FieldType} {ws : List Cond} {rm : Room} {CN : String} {T : u_T} {As : List Value} {E name : String} (pre : List ExceptionTableEntry) (x0 : ExceptionTableEntry) (suf : List ExceptionTableEntry)
    (hsplit : c.exceptionTable.toList = pre ++ x0 :: suf) (hpass : ∀ w ∈ pre, covers w pc = false ∨ (w.catchType ≠ 0 ∧ ∃ nm : String, Cond.classLink own w.catchType nm ∈ Ts ∧ va_Nc E nm s)) (hcov : covers x0 pc = true) (h0 : x0.catchType ≠ 0) (hlink : Cond.classLink own x0.catchType name ∈ Ts) (hcast : va_Nw (.castable E name) s)
    (cw : CallW R s args own CN index y bytes maxL ret' ws rm rm.cells rm.slots n) (hb : is z b ci) (hc : vwCl[ci]? = some (CN, T, N)) (hci : ci < 7) (hn : As.length = n) (hst : st = As.reverse ++ .ref b :: rest) (hW : (rest.map fun v => v.category).sum ≤ 8) (hdg : decode cc pc = .ok (.invokevirtual index, 3)) (hf : cells + rm.cells ≤ R.cells ∧ slots + rm.slots ≤ R.slots)
    (hM : CtX l y ws rm G z (.ref b :: As) (fun _ _ => False) (fun E' z' => E' = E ∧ z' = z)) (kk : ∀ q, Wp p l e R s m args below meth c G nL (cells + rm.cells) (slots + rm.slots) Q z x0.handlerPc lv [.ref q]) : Wp p l e R s m args below meth c G nL cells slots Q z pc lv st := by
  intro H locs ls hp hl T0 hT X
  have hr := vx_runV (e := e) (below := below) (meth := meth) (locs := locs) (g := F0 m pc ls st) C.1 hM cw ⟨cPre_blind _ _ _, w_recv C hp hb hc hci, fun U hU hWU => pre_of C hp hU hWU⟩ rfl hn hl.1 hst (lv_room hW) hdg hf
  rcases hr T0 hT X with ⟨v, st₀, t, T', L, h0', X', hL, e1, e2, ⟨⟨rv, z', hv, hpost, hPD⟩, hz, hk⟩, stp⟩ | ⟨q, st₀, t, T', L, E', ce, h0', X', hL, e1, e2, ⟨⟨z', ⟨hE, hz'⟩, hPD⟩, hz, hk⟩, hce, hcv, hcl, stp⟩
  · exact hpost.elim
  · subst hE
    subst hz'
    rw [h0'] at hz hk
    have hS : va_S (gA G) s.heap T'.heap (locs ++ L) := ⟨Nat.le_trans hp.2.1 (by rw [e1]; exact hz), fun q h1 h2 => by rw [e1, hk q (Nat.lt_of_lt_of_le h1 hp.2.1) h2]; exact hp.2.2.1 q h1 h2, fun q hq => by
        rcases List.mem_append.mp hq with h | h
        · exact hp.2.2.2 q h
        · exact hL q h⟩
    have hK := vx_catch (p := p) (l := l) (e := e) (R := R) (args := args) (below := below) (meth := meth) (Q := Q) (locs := locs ++ L) (ls := ls) (rest := rest) (pc := pc) (H := T'.heap) (cells := cells + rm.cells) (slots := slots + rm.slots) C.1.2.2.2.1 pre x0 suf hsplit (fun w hw => (hpass w hw).imp id (fun h => ⟨h.1, h.2.choose, C.1.2.2.2.2 _ h.2.choose_spec.1, h.2.choose_spec.2⟩)) hcov h0 (C.1.2.2.2.2 _ hlink) (va_Nw.use rfl hcast) (by rw [e1]; exact hce) hcv hcl (kk q T'.heap (locs ++ L) ls ⟨by rw [e1]; exact hPD, hS⟩ hl)
    obtain ⟨t2, a1, b1⟩ := hK T' rfl X'
    exact ⟨t2, stp.trans a1, b1⟩
/-- what is kept of the reference and of the row of answers -/
def lF (z z' : Sto) : Prop := (∀ b k, is z b k → is z' b k) ∧ (∀ f b, 192 ≤ f → b ∈ sL z → sI z' f b = sI z f b) ∧ (∀ f b, 192 ≤ f → b ∈ sL z → sR z' f b = sR z f b) ∧ ∀ b, b ∈ sL z → sN z' b = sN z b ∧ sE z' b = sE z b
theorem lF.rf (z : Sto) : lF z z := ⟨fun _ _ h => h, fun _ _ _ _ => rfl, fun _ _ _ _ => rfl, fun _ _ => ⟨rfl, rfl⟩⟩
theorem kfr.toL {z z' : Sto} (h : kfr z z') : lF z z' := ⟨h.1, h.2.1, h.2.2.1, fun b hb => ⟨(h.2.2.2 b hb).1, (h.2.2.2 b hb).2.1⟩⟩
theorem kfr.toLs {z z' : Sto} (h : kfr z z') (o i : Nat) (v : Int64) : lF z (setF z' o i v) := ⟨h.1, h.2.1, h.2.2.1, fun b hb => ⟨(h.2.2.2 b hb).1, (h.2.2.2 b hb).2.1⟩⟩
theorem mkF_F (z : Sto) (o i : Nat) (v : Int64) : mkF z (setF z o i v) := ⟨fun _ _ h => h, fun _ _ _ _ => rfl, fun _ _ _ _ => rfl, fun _ _ => ⟨rfl, rfl⟩⟩
theorem F_s (z : Sto) (o i : Nat) (v : Int64) : sF (setF z o i v) o i = v := if_pos ⟨rfl, rfl⟩
set_option maxHeartbeats 4000000 in
set_option maxRecDepth 100000 in
theorem c_Lvalue (l : Launch) (G : Gx) (z : Sto) {x gl pt ol o : Nat} {ga : Nat → Nat} {N : NT} (h : netI G z x gl pt ol ga N) {i : Nat} (hi : i < nN N) (ho : is z o 10) (hn1 : sN z o = 1) : Ct l yL_value wsL_value ({ frames := 8, cells := 1, slots := 6, locals := 190 } : Room) G z [.ref x, .int (nI i), .ref o] (fun rv z' => rv = some (.int 0) ∧ lF z z' ∧ netI G z' x gl pt ol ga N ∧ sF z' o 0 = (nV N (nRC N) i).toInt64) := by
  refine ct_ofH (cc := cL_value) (maxL := 4) (ret := (some .int)) (lv0 := [(0, .ref x), (1, .int (nI i)), (2, .ref o)]) (by decide) rfl (by simp [lg_sl, cat_ref, cat_null, cat_int, cat_long, rf_cat]) (by simp [lv_args, cat_ref, cat_null, cat_int, cat_long, rf_cat]) ?_
  intro p e s m args below meth c C htb
  refine w_aload_n C 2 dL_value_0 rfl rfl (by first | rfl | exact isRef_rf _) ?_
  refine w_iconst (v := 0) C dL_value_1 (by decide) ?_
  refine w_aload_n C 0 dL_value_2 rfl rfl (by first | rfl | exact isRef_rf _) ?_
  refine w_iload_n C 1 dL_value_3 rfl rfl ?_
  refine w_callV (ci := 5) (As := [.int (nI i)]) (rest := [.int 0, .ref o]) C (cwV 1 C.1.2.2.2.2 gL_value_X4_value rfl rfl rfl (by decide +kernel) ⟨Nat.le_of_ble_eq_true rfl, Nat.le_of_ble_eq_true rfl⟩) h.2.1.1.1 rfl (by decide) rfl rfl (by first | decide | simp [cat_ref, cat_null, cat_int, cat_long, rf_cat]) dL_value_4 ⟨Nat.le_of_ble_eq_true rfl, Nat.le_of_ble_eq_true rfl⟩ (c_value l G z h hi) (fun rv z1 h9 => ?_)
  obtain ⟨rfl, hk, hN⟩ := h9
  have ho1 := hk.1 _ _ ho
  have hn2 : sN z1 o = 1 := (hk.2.2.2 o ho.1).1.trans hn1
  refine w_i2l C dL_value_7 rfl ?_
  refine w_last C dL_value_8 ho1 (show (0 : Int32) = nI 0 from rfl) (by rw [hn2]; decide) (by rw [hn2]; decide) ?_
  refine w_sep C (fun hE => ?_)
  refine w_goto (tgt := 15) C dL_value_9 (by decide) ?_
  refine w_iconst (v := 0) C dL_value_15 (by decide) ?_
  refine w_widen (k := 1) (n := 6) (by decide) (by decide) ?_
  exact w_iret C dL_value_16 ⟨rfl, hk.toLs _ _ _, netI_mk hN (mkF_F _ _ _ _) hE, F_s _ _ _ _⟩
set_option maxHeartbeats 4000000 in
set_option maxRecDepth 100000 in
theorem c_Lround (l : Launch) (G : Gx) (z : Sto) {x gl pt ol o : Nat} {ga : Nat → Nat} {N : NT} (h : netI G z x gl pt ol ga N) {i : Nat} (hi : i < nN N) (ho : is z o 10) (hn1 : sN z o = 1) : Ct l yL_round wsL_round ({ frames := 8, cells := 1, slots := 6, locals := 190 } : Room) G z [.ref x, .int (nI i), .ref o] (fun rv z' => rv = some (.int 0) ∧ lF z z' ∧ netI G z' x gl pt ol ga N ∧ sF z' o 0 = (nR N (nRC N) i).toInt64) := by
  refine ct_ofH (cc := cL_round) (maxL := 4) (ret := (some .int)) (lv0 := [(0, .ref x), (1, .int (nI i)), (2, .ref o)]) (by decide) rfl (by simp [lg_sl, cat_ref, cat_null, cat_int, cat_long, rf_cat]) (by simp [lv_args, cat_ref, cat_null, cat_int, cat_long, rf_cat]) ?_
  intro p e s m args below meth c C htb
  refine w_aload_n C 2 dL_round_0 rfl rfl (by first | rfl | exact isRef_rf _) ?_
  refine w_iconst (v := 0) C dL_round_1 (by decide) ?_
  refine w_aload_n C 0 dL_round_2 rfl rfl (by first | rfl | exact isRef_rf _) ?_
  refine w_iload_n C 1 dL_round_3 rfl rfl ?_
  refine w_callV (ci := 5) (As := [.int (nI i)]) (rest := [.int 0, .ref o]) C (cwV 1 C.1.2.2.2.2 gL_round_X4_round rfl rfl rfl (by decide +kernel) ⟨Nat.le_of_ble_eq_true rfl, Nat.le_of_ble_eq_true rfl⟩) h.2.1.1.1 rfl (by decide) rfl rfl (by first | decide | simp [cat_ref, cat_null, cat_int, cat_long, rf_cat]) dL_round_4 ⟨Nat.le_of_ble_eq_true rfl, Nat.le_of_ble_eq_true rfl⟩ (c_round l G z h hi) (fun rv z1 h9 => ?_)
  obtain ⟨rfl, hk, hN⟩ := h9
  have ho1 := hk.1 _ _ ho
  have hn2 : sN z1 o = 1 := (hk.2.2.2 o ho.1).1.trans hn1
  refine w_i2l C dL_round_7 rfl ?_
  refine w_last C dL_round_8 ho1 (show (0 : Int32) = nI 0 from rfl) (by rw [hn2]; decide) (by rw [hn2]; decide) ?_
  refine w_sep C (fun hE => ?_)
  refine w_goto (tgt := 15) C dL_round_9 (by decide) ?_
  refine w_iconst (v := 0) C dL_round_15 (by decide) ?_
  refine w_widen (k := 1) (n := 6) (by decide) (by decide) ?_
  exact w_iret C dL_round_16 ⟨rfl, hk.toLs _ _ _, netI_mk hN (mkF_F _ _ _ _) hE, F_s _ _ _ _⟩
set_option maxHeartbeats 4000000 in
set_option maxRecDepth 100000 in
theorem c_Lcut (l : Launch) (G : Gx) (z : Sto) {x gl pt ol o : Nat} {ga : Nat → Nat} {N : NT} (h : netI G z x gl pt ol ga N) {i : Nat} (hi : i < nN N) (ho : is z o 10) (hn1 : sN z o = 1) : Ct l yL_cut wsL_cut ({ frames := 8, cells := 1, slots := 6, locals := 190 } : Room) G z [.ref x, .int (nI i), .ref o] (fun rv z' => rv = some (.int 0) ∧ lF z z' ∧ netI G z' x gl pt ol ga (nCut N i) ∧ sF z' o 0 = (nI (nFd N i).length).toInt64) := by
  refine ct_ofH (cc := cL_cut) (maxL := 4) (ret := (some .int)) (lv0 := [(0, .ref x), (1, .int (nI i)), (2, .ref o)]) (by decide) rfl (by simp [lg_sl, cat_ref, cat_null, cat_int, cat_long, rf_cat]) (by simp [lv_args, cat_ref, cat_null, cat_int, cat_long, rf_cat]) ?_
  intro p e s m args below meth c C htb
  refine w_aload_n C 2 dL_cut_0 rfl rfl (by first | rfl | exact isRef_rf _) ?_
  refine w_iconst (v := 0) C dL_cut_1 (by decide) ?_
  refine w_aload_n C 0 dL_cut_2 rfl rfl (by first | rfl | exact isRef_rf _) ?_
  refine w_iload_n C 1 dL_cut_3 rfl rfl ?_
  refine w_callV (ci := 5) (As := [.int (nI i)]) (rest := [.int 0, .ref o]) C (cwV 1 C.1.2.2.2.2 gL_cut_X4_cut rfl rfl rfl (by decide +kernel) ⟨Nat.le_of_ble_eq_true rfl, Nat.le_of_ble_eq_true rfl⟩) h.2.1.1.1 rfl (by decide) rfl rfl (by first | decide | simp [cat_ref, cat_null, cat_int, cat_long, rf_cat]) dL_cut_4 ⟨Nat.le_of_ble_eq_true rfl, Nat.le_of_ble_eq_true rfl⟩ (c_cut l G z h hi) (fun rv z1 h9 => ?_)
  obtain ⟨rfl, hk, hN⟩ := h9
  have ho1 := hk.1 _ _ ho
  have hn2 : sN z1 o = 1 := (hk.2.2.2 o ho.1).1.trans hn1
  refine w_i2l C dL_cut_7 rfl ?_
  refine w_last C dL_cut_8 ho1 (show (0 : Int32) = nI 0 from rfl) (by rw [hn2]; decide) (by rw [hn2]; decide) ?_
  refine w_sep C (fun hE => ?_)
  refine w_goto (tgt := 15) C dL_cut_9 (by decide) ?_
  refine w_iconst (v := 0) C dL_cut_15 (by decide) ?_
  refine w_widen (k := 1) (n := 6) (by decide) (by decide) ?_
  exact w_iret C dL_cut_16 ⟨rfl, hk.toLs _ _ _, netI_mk hN (mkF_F _ _ _ _) hE, F_s _ _ _ _⟩
set_option maxHeartbeats 4000000 in
set_option maxRecDepth 100000 in
theorem c_Lblame (l : Launch) (G : Gx) (z : Sto) {x gl pt ol o : Nat} {ga : Nat → Nat} {N : NT} (h : netI G z x gl pt ol ga N) {i : Nat} (hi : i < nN N) (ho : is z o 10) (hn1 : sN z o = 1) : Ct l yL_blame wsL_blame ({ frames := 8, cells := 1, slots := 6, locals := 190 } : Room) G z [.ref x, .int (nI i), .ref o] (fun rv z' => rv = some (.int 0) ∧ lF z z' ∧ netI G z' x gl pt ol ga N ∧ ∃ r, isBlm N i r ∧ sF z' o 0 = r.toInt64) := by
  refine ct_ofH (cc := cL_blame) (maxL := 4) (ret := (some .int)) (lv0 := [(0, .ref x), (1, .int (nI i)), (2, .ref o)]) (by decide) rfl (by simp [lg_sl, cat_ref, cat_null, cat_int, cat_long, rf_cat]) (by simp [lv_args, cat_ref, cat_null, cat_int, cat_long, rf_cat]) ?_
  intro p e s m args below meth c C htb
  refine w_aload_n C 2 dL_blame_0 rfl rfl (by first | rfl | exact isRef_rf _) ?_
  refine w_iconst (v := 0) C dL_blame_1 (by decide) ?_
  refine w_aload_n C 0 dL_blame_2 rfl rfl (by first | rfl | exact isRef_rf _) ?_
  refine w_iload_n C 1 dL_blame_3 rfl rfl ?_
  refine w_callV (ci := 5) (As := [.int (nI i)]) (rest := [.int 0, .ref o]) C (cwV 1 C.1.2.2.2.2 gL_blame_X4_blame rfl rfl rfl (by decide +kernel) ⟨Nat.le_of_ble_eq_true rfl, Nat.le_of_ble_eq_true rfl⟩) h.2.1.1.1 rfl (by decide) rfl rfl (by first | decide | simp [cat_ref, cat_null, cat_int, cat_long, rf_cat]) dL_blame_4 ⟨Nat.le_of_ble_eq_true rfl, Nat.le_of_ble_eq_true rfl⟩ (c_blame l G z h hi) (fun rv z1 h9 => ?_)
  obtain ⟨r, rfl, hr, hk, hN⟩ := h9
  have ho1 := hk.1 _ _ ho
  have hn2 : sN z1 o = 1 := (hk.2.2.2 o ho.1).1.trans hn1
  refine w_i2l C dL_blame_7 rfl ?_
  refine w_last C dL_blame_8 ho1 (show (0 : Int32) = nI 0 from rfl) (by rw [hn2]; decide) (by rw [hn2]; decide) ?_
  refine w_sep C (fun hE => ?_)
  refine w_goto (tgt := 15) C dL_blame_9 (by decide) ?_
  refine w_iconst (v := 0) C dL_blame_15 (by decide) ?_
  refine w_widen (k := 1) (n := 6) (by decide) (by decide) ?_
  exact w_iret C dL_blame_16 ⟨rfl, hk.toLs _ _ _, netI_mk hN (mkF_F _ _ _ _) hE, r, hr, F_s _ _ _ _⟩
set_option maxHeartbeats 4000000 in
set_option maxRecDepth 100000 in
theorem c_Lcycle (l : Launch) (G : Gx) (z : Sto) {x gl pt ol o : Nat} {ga : Nat → Nat} {N : NT} (h : netI G z x gl pt ol ga N) {i : Nat} (hi : i < nN N) (ho : is z o 10) (hn1 : sN z o = 1) : Ct l yL_cycle wsL_cycle ({ frames := 12, cells := 900, slots := 3600, locals := 380 } : Room) G z [.ref x, .int (nI i), .ref o] (fun rv z' => rv = some (.int 0) ∧ lF z z' ∧ netI G z' x gl pt ol ga N ∧ ∃ r, isPart (nsc (nSo N) (nFd N)) i r ∧ sF z' o 0 = r.toInt64) := by
  refine ct_ofH (cc := cL_cycle) (maxL := 4) (ret := (some .int)) (lv0 := [(0, .ref x), (1, .int (nI i)), (2, .ref o)]) (by decide) rfl (by simp [lg_sl, cat_ref, cat_null, cat_int, cat_long, rf_cat]) (by simp [lv_args, cat_ref, cat_null, cat_int, cat_long, rf_cat]) ?_
  intro p e s m args below meth c C htb
  refine w_aload_n C 2 dL_cycle_0 rfl rfl (by first | rfl | exact isRef_rf _) ?_
  refine w_iconst (v := 0) C dL_cycle_1 (by decide) ?_
  refine w_aload_n C 0 dL_cycle_2 rfl rfl (by first | rfl | exact isRef_rf _) ?_
  refine w_iload_n C 1 dL_cycle_3 rfl rfl ?_
  refine w_callV (ci := 5) (As := [.int (nI i)]) (rest := [.int 0, .ref o]) C (cwV 1 C.1.2.2.2.2 gL_cycle_X4_cycle rfl rfl rfl (by decide +kernel) ⟨Nat.le_of_ble_eq_true rfl, Nat.le_of_ble_eq_true rfl⟩) h.2.1.1.1 rfl (by decide) rfl rfl (by first | decide | simp [cat_ref, cat_null, cat_int, cat_long, rf_cat]) dL_cycle_4 ⟨Nat.le_of_ble_eq_true rfl, Nat.le_of_ble_eq_true rfl⟩ (c_cycle l G z h hi) (fun rv z1 h9 => ?_)
  obtain ⟨r, rfl, hr, hk, hN⟩ := h9
  have ho1 := hk.1 _ _ ho
  have hn2 : sN z1 o = 1 := (hk.2.2.2 o ho.1).1.trans hn1
  refine w_i2l C dL_cycle_7 rfl ?_
  refine w_last C dL_cycle_8 ho1 (show (0 : Int32) = nI 0 from rfl) (by rw [hn2]; decide) (by rw [hn2]; decide) ?_
  refine w_sep C (fun hE => ?_)
  refine w_goto (tgt := 15) C dL_cycle_9 (by decide) ?_
  refine w_iconst (v := 0) C dL_cycle_15 (by decide) ?_
  refine w_widen (k := 900) (n := 3600) (by decide) (by decide) ?_
  exact w_iret C dL_cycle_16 ⟨rfl, hk.toLs _ _ _, netI_mk hN (mkF_F _ _ _ _) hE, r, hr, F_s _ _ _ _⟩
set_option maxHeartbeats 4000000 in
set_option maxRecDepth 100000 in
theorem c_Lset (l : Launch) (G : Gx) (z : Sto) {x gl pt ol o : Nat} {ga : Nat → Nat} {N : NT} (h : netI G z x gl pt ol ga N) {i : Nat} {v : Int32} (hi : i < nN N) (hs : nSo N i = 0) (hv0 : ¬ v < 0) (hv2 : v ≤ 2) (ho : is z o 10) (hn1 : sN z o = 1) : Ct l yL_set wsL_set ({ frames := 8, cells := 1, slots := 6, locals := 190 } : Room) G z [.ref x, .int (nI i), .int v, .ref o] (fun rv z' => rv = some (.int 0) ∧ lF z z' ∧ netI G z' x gl pt ol ga (nSet N i v) ∧ sF z' o 0 = (nHd N i).toInt64) := by
  refine ct_ofH (cc := cL_set) (maxL := 5) (ret := (some .int)) (lv0 := [(0, .ref x), (1, .int (nI i)), (2, .int v), (3, .ref o)]) (by decide) rfl (by simp [lg_sl, cat_ref, cat_null, cat_int, cat_long, rf_cat]) (by simp [lv_args, cat_ref, cat_null, cat_int, cat_long, rf_cat]) ?_
  intro p e s m args below meth c C htb
  refine w_aload_n C 3 dL_set_0 rfl rfl (by first | rfl | exact isRef_rf _) ?_
  refine w_iconst (v := 0) C dL_set_1 (by decide) ?_
  refine w_aload_n C 0 dL_set_2 rfl rfl (by first | rfl | exact isRef_rf _) ?_
  refine w_iload_n C 1 dL_set_3 rfl rfl ?_
  refine w_iload_n C 2 dL_set_4 rfl rfl ?_
  refine w_callV (ci := 5) (As := [.int (nI i), .int v]) (rest := [.int 0, .ref o]) C (cwV 2 C.1.2.2.2.2 gL_set_X4_set rfl rfl rfl (by decide +kernel) ⟨Nat.le_of_ble_eq_true rfl, Nat.le_of_ble_eq_true rfl⟩) h.2.1.1.1 rfl (by decide) rfl rfl (by first | decide | simp [cat_ref, cat_null, cat_int, cat_long, rf_cat]) dL_set_5 ⟨Nat.le_of_ble_eq_true rfl, Nat.le_of_ble_eq_true rfl⟩ (c_set l G z h hi hs hv0 hv2) (fun rv z1 h9 => ?_)
  obtain ⟨rfl, hk, hN⟩ := h9
  have ho1 := hk.1 _ _ ho
  have hn2 : sN z1 o = 1 := (hk.2.2.2 o ho.1).1.trans hn1
  refine w_i2l C dL_set_8 rfl ?_
  refine w_last C dL_set_9 ho1 (show (0 : Int32) = nI 0 from rfl) (by rw [hn2]; decide) (by rw [hn2]; decide) ?_
  refine w_sep C (fun hE => ?_)
  refine w_goto (tgt := 21) C dL_set_10 (by decide) ?_
  refine w_iconst (v := 0) C dL_set_21 (by decide) ?_
  refine w_widen (k := 1) (n := 6) (by decide) (by decide) ?_
  exact w_iret C dL_set_22 ⟨rfl, hk.toLs _ _ _, netI_mk hN (mkF_F _ _ _ _) hE, F_s _ _ _ _⟩
set_option maxHeartbeats 4000000 in
set_option maxRecDepth 100000 in
theorem c_Lfeed (l : Launch) (G : Gx) (z : Sto) {x gl pt ol o : Nat} {ga : Nat → Nat} {N : NT} (h : netI G z x gl pt ol ga N) {t f : Nat} {ng : Int32} (ht : t < nN N) (hf : f < nN N) (hng : ng = 0 ∨ ng = 1) (hc : nCan N t) (ho : is z o 10) (hn1 : sN z o = 1) : Ct l yL_feed wsL_feed ({ frames := 8, cells := 1, slots := 6, locals := 190 } : Room) G z [.ref x, .int (nI t), .int (nI f), .int ng, .ref o] (fun rv z' => rv = some (.int 0) ∧ lF z z' ∧ ∃ (N' : NT) (r : Int32), (((nFL N).length = 2400 ∧ r = -1 ∧ N' = N) ∨ ((nFL N).length < 2400 ∧ r = nI (nFd (nFeed N t f ng) t).length ∧ N' = nFeed N t f ng)) ∧ netI G z' x gl pt ol ga N' ∧ sF z' o 0 = r.toInt64) := by
  refine ct_ofH (cc := cL_feed) (maxL := 6) (ret := (some .int)) (lv0 := [(0, .ref x), (1, .int (nI t)), (2, .int (nI f)), (3, .int ng), (4, .ref o)]) (by decide) rfl (by simp [lg_sl, cat_ref, cat_null, cat_int, cat_long, rf_cat]) (by simp [lv_args, cat_ref, cat_null, cat_int, cat_long, rf_cat]) ?_
  intro p e s m args below meth c C htb
  refine w_aload C 4 dL_feed_0 rfl (by first | rfl | exact isRef_rf _) ?_
  refine w_iconst (v := 0) C dL_feed_2 (by decide) ?_
  refine w_aload_n C 0 dL_feed_3 rfl rfl (by first | rfl | exact isRef_rf _) ?_
  refine w_iload_n C 1 dL_feed_4 rfl rfl ?_
  refine w_iload_n C 2 dL_feed_5 rfl rfl ?_
  refine w_iload_n C 3 dL_feed_6 rfl rfl ?_
  refine w_callV (ci := 5) (As := [.int (nI t), .int (nI f), .int ng]) (rest := [.int 0, .ref o]) C (cwV 3 C.1.2.2.2.2 gL_feed_X4_feed rfl rfl rfl (by decide +kernel) ⟨Nat.le_of_ble_eq_true rfl, Nat.le_of_ble_eq_true rfl⟩) h.2.1.1.1 rfl (by decide) rfl rfl (by first | decide | simp [cat_ref, cat_null, cat_int, cat_long, rf_cat]) dL_feed_7 ⟨Nat.le_of_ble_eq_true rfl, Nat.le_of_ble_eq_true rfl⟩ (c_feed l G z h ht hf hng hc) (fun rv z1 h9 => ?_)
  have h9' : ∃ (N' : NT) (r : Int32), rv = some (.int r) ∧ (((nFL N).length = 2400 ∧ r = -1 ∧ N' = N) ∨ ((nFL N).length < 2400 ∧ r = nI (nFd (nFeed N t f ng) t).length ∧ N' = nFeed N t f ng)) ∧ kfr z z1 ∧ netI G z1 x gl pt ol ga N' := by
    rcases h9 with ⟨a1, a2, a3⟩ | ⟨a1, a2, a3, a4⟩
    · subst a3; exact ⟨N, _, a2, Or.inl ⟨a1, rfl, rfl⟩, kfr.rf _, h⟩
    · exact ⟨_, _, a2, Or.inr ⟨a1, rfl, rfl⟩, a3, a4⟩
  obtain ⟨N', r, rfl, hr, hk, hN⟩ := h9'
  have ho1 := hk.1 _ _ ho
  have hn2 : sN z1 o = 1 := (hk.2.2.2 o ho.1).1.trans hn1
  refine w_i2l C dL_feed_10 rfl ?_
  refine w_last C dL_feed_11 ho1 (show (0 : Int32) = nI 0 from rfl) (by rw [hn2]; decide) (by rw [hn2]; decide) ?_
  refine w_sep C (fun hE => ?_)
  refine w_goto (tgt := 23) C dL_feed_12 (by decide) ?_
  refine w_iconst (v := 0) C dL_feed_23 (by decide) ?_
  refine w_widen (k := 1) (n := 6) (by decide) (by decide) ?_
  exact w_iret C dL_feed_24 ⟨rfl, hk.toLs _ _ _, N', r, hr, netI_mk hN (mkF_F _ _ _ _) hE, F_s _ _ _ _⟩
set_option maxHeartbeats 4000000 in
set_option maxRecDepth 100000 in
theorem c_Lgate (l : Launch) (G : Gx) (z : Sto) {x gl pt ol o : Nat} {ga : Nat → Nat} {N : NT} (h : netI G z x gl pt ol ga N) {s0 : Int32} (hs0 : ¬ s0 < 0) (hs2 : s0 ≤ 3) (ho : is z o 10) (hn1 : sN z o = 1) : Ct l yL_gate wsL_gate ({ frames := 8, cells := 2, slots := 1000, locals := 260 } : Room) G z [.ref x, .int s0, .ref o] (fun rv z' => rv = some (.int 0) ∧ lF z z' ∧ ∃ (N' : NT) (r : Int32) (ga' : Nat → Nat), ((nFull N s0 ∧ r = -1 ∧ N' = N) ∨ (¬ nFull N s0 ∧ r = nI (nN N) ∧ N' = nGate N s0)) ∧ netI G z' x gl pt ol ga' N' ∧ sF z' o 0 = r.toInt64) := by
  refine ct_ofH (cc := cL_gate) (maxL := 4) (ret := (some .int)) (lv0 := [(0, .ref x), (1, .int s0), (2, .ref o)]) (by decide) rfl (by simp [lg_sl, cat_ref, cat_null, cat_int, cat_long, rf_cat]) (by simp [lv_args, cat_ref, cat_null, cat_int, cat_long, rf_cat]) ?_
  intro p e s m args below meth c C htb
  refine w_aload_n C 2 dL_gate_0 rfl rfl (by first | rfl | exact isRef_rf _) ?_
  refine w_iconst (v := 0) C dL_gate_1 (by decide) ?_
  refine w_aload_n C 0 dL_gate_2 rfl rfl (by first | rfl | exact isRef_rf _) ?_
  refine w_iload_n C 1 dL_gate_3 rfl rfl ?_
  refine w_callV (ci := 5) (As := [.int s0]) (rest := [.int 0, .ref o]) C (cwV 1 C.1.2.2.2.2 gL_gate_X4_gate rfl rfl rfl (by decide +kernel) ⟨Nat.le_of_ble_eq_true rfl, Nat.le_of_ble_eq_true rfl⟩) h.2.1.1.1 rfl (by decide) rfl rfl (by first | decide | simp [cat_ref, cat_null, cat_int, cat_long, rf_cat]) dL_gate_4 ⟨Nat.le_of_ble_eq_true rfl, Nat.le_of_ble_eq_true rfl⟩ (c_gate l G z h hs0 hs2) (fun rv z1 h9 => ?_)
  have h9' : ∃ (N' : NT) (r : Int32) (ga' : Nat → Nat), rv = some (.int r) ∧ ((nFull N s0 ∧ r = -1 ∧ N' = N) ∨ (¬ nFull N s0 ∧ r = nI (nN N) ∧ N' = nGate N s0)) ∧ kfr z z1 ∧ netI G z1 x gl pt ol ga' N' := by
    rcases h9 with ⟨a1, a2, a3⟩ | ⟨a1, a2, a3, ga', a4⟩
    · subst a3; exact ⟨N, _, ga, a2, Or.inl ⟨a1, rfl, rfl⟩, kfr.rf _, h⟩
    · exact ⟨_, _, ga', a2, Or.inr ⟨a1, rfl, rfl⟩, a3, a4⟩
  obtain ⟨N', r, ga', rfl, hr, hk, hN⟩ := h9'
  have ho1 := hk.1 _ _ ho
  have hn2 : sN z1 o = 1 := (hk.2.2.2 o ho.1).1.trans hn1
  refine w_i2l C dL_gate_7 rfl ?_
  refine w_last C dL_gate_8 ho1 (show (0 : Int32) = nI 0 from rfl) (by rw [hn2]; decide) (by rw [hn2]; decide) ?_
  refine w_sep C (fun hE => ?_)
  refine w_goto (tgt := 15) C dL_gate_9 (by decide) ?_
  refine w_iconst (v := 0) C dL_gate_15 (by decide) ?_
  refine w_widen (k := 2) (n := 1000) (by decide) (by decide) ?_
  exact w_iret C dL_gate_16 ⟨rfl, hk.toLs _ _ _, N', r, ga', hr, netI_mk hN (mkF_F _ _ _ _) hE, F_s _ _ _ _⟩
set_option maxHeartbeats 4000000 in
set_option maxRecDepth 100000 in
theorem x_Lvalue (l : Launch) (G : Gx) (z : Sto) {x gl pt ol o : Nat} {ga : Nat → Nat} {N : NT} (hl9 : l.stackTraces = false) (h : netI G z x gl pt ol ga N) {j : Int32} (hj : j < 0 ∨ nI (nN N) ≤ j) : Ct l yL_value wsL_value ({ frames := 8, cells := 1, slots := 6, locals := 190 } : Room) G z [.ref x, .int j, .ref o] (fun rv z' => rv = some (.int 1) ∧ z' = z) := by
  refine ct_ofH (cc := cL_value) (maxL := 4) (ret := (some .int)) (lv0 := [(0, .ref x), (1, .int j), (2, .ref o)]) (by decide) rfl (by simp [lg_sl, cat_ref, cat_null, cat_int, cat_long, rf_cat]) (by simp [lv_args, cat_ref, cat_null, cat_int, cat_long, rf_cat]) ?_
  intro p e s m args below meth c C htb
  refine w_aload_n C 2 dL_value_0 rfl rfl (by first | rfl | exact isRef_rf _) ?_
  refine w_iconst (v := 0) C dL_value_1 (by decide) ?_
  refine w_aload_n C 0 dL_value_2 rfl rfl (by first | rfl | exact isRef_rf _) ?_
  refine w_iload_n C 1 dL_value_3 rfl rfl ?_
  refine w_callVC (ci := 5) (As := [.int j]) (rest := [.int 0, .ref o]) (E := "java/lang/IndexOutOfBoundsException") (name := "java/lang/IndexOutOfBoundsException") C [] ⟨0, 9, 12, 19⟩ [] htb (fun w hw => (by cases hw)) (by decide) (by decide) (by decide +kernel) C.2.2.2.1.2.2.2.2.2.2.2.2.2.2.1.2.2 (cwV 1 C.1.2.2.2.2 gL_value_X4_value rfl rfl rfl (by decide +kernel) ⟨Nat.le_of_ble_eq_true rfl, Nat.le_of_ble_eq_true rfl⟩) h.2.1.1.1 rfl (by decide) rfl rfl (by first | decide | simp [cat_ref, cat_null, cat_int, cat_long, rf_cat]) dL_value_4 ⟨Nat.le_of_ble_eq_true rfl, Nat.le_of_ble_eq_true rfl⟩ (x_value l G z hl9 h hj) (fun q9 => ?_)
  refine w_astore_nB (lvq := [(3, _), (0, _), (1, _), (2, _)]) C 2 rfl rfl (by first | rfl | exact rf_cat _) dL_value_12 rfl (by first | rfl | exact isRef_rf _) (by decide) rfl ?_
  refine w_iconst (v := 1) C dL_value_13 (by decide) ?_
  refine w_widen (k := 1) (n := 6) (by decide) (by decide) ?_
  exact w_iret C dL_value_14 ⟨rfl, rfl⟩
set_option maxHeartbeats 4000000 in
set_option maxRecDepth 100000 in
theorem x_Lround (l : Launch) (G : Gx) (z : Sto) {x gl pt ol o : Nat} {ga : Nat → Nat} {N : NT} (hl9 : l.stackTraces = false) (h : netI G z x gl pt ol ga N) {j : Int32} (hj : j < 0 ∨ nI (nN N) ≤ j) : Ct l yL_round wsL_round ({ frames := 8, cells := 1, slots := 6, locals := 190 } : Room) G z [.ref x, .int j, .ref o] (fun rv z' => rv = some (.int 1) ∧ z' = z) := by
  refine ct_ofH (cc := cL_round) (maxL := 4) (ret := (some .int)) (lv0 := [(0, .ref x), (1, .int j), (2, .ref o)]) (by decide) rfl (by simp [lg_sl, cat_ref, cat_null, cat_int, cat_long, rf_cat]) (by simp [lv_args, cat_ref, cat_null, cat_int, cat_long, rf_cat]) ?_
  intro p e s m args below meth c C htb
  refine w_aload_n C 2 dL_round_0 rfl rfl (by first | rfl | exact isRef_rf _) ?_
  refine w_iconst (v := 0) C dL_round_1 (by decide) ?_
  refine w_aload_n C 0 dL_round_2 rfl rfl (by first | rfl | exact isRef_rf _) ?_
  refine w_iload_n C 1 dL_round_3 rfl rfl ?_
  refine w_callVC (ci := 5) (As := [.int j]) (rest := [.int 0, .ref o]) (E := "java/lang/IndexOutOfBoundsException") (name := "java/lang/IndexOutOfBoundsException") C [] ⟨0, 9, 12, 19⟩ [] htb (fun w hw => (by cases hw)) (by decide) (by decide) (by decide +kernel) C.2.2.2.1.2.2.2.2.2.2.2.2.2.2.1.2.2 (cwV 1 C.1.2.2.2.2 gL_round_X4_round rfl rfl rfl (by decide +kernel) ⟨Nat.le_of_ble_eq_true rfl, Nat.le_of_ble_eq_true rfl⟩) h.2.1.1.1 rfl (by decide) rfl rfl (by first | decide | simp [cat_ref, cat_null, cat_int, cat_long, rf_cat]) dL_round_4 ⟨Nat.le_of_ble_eq_true rfl, Nat.le_of_ble_eq_true rfl⟩ (x_round l G z hl9 h hj) (fun q9 => ?_)
  refine w_astore_nB (lvq := [(3, _), (0, _), (1, _), (2, _)]) C 2 rfl rfl (by first | rfl | exact rf_cat _) dL_round_12 rfl (by first | rfl | exact isRef_rf _) (by decide) rfl ?_
  refine w_iconst (v := 1) C dL_round_13 (by decide) ?_
  refine w_widen (k := 1) (n := 6) (by decide) (by decide) ?_
  exact w_iret C dL_round_14 ⟨rfl, rfl⟩
set_option maxHeartbeats 4000000 in
set_option maxRecDepth 100000 in
theorem x_Lcut (l : Launch) (G : Gx) (z : Sto) {x gl pt ol o : Nat} {ga : Nat → Nat} {N : NT} (hl9 : l.stackTraces = false) (h : netI G z x gl pt ol ga N) {j : Int32} (hj : j < 0 ∨ nI (nN N) ≤ j) : Ct l yL_cut wsL_cut ({ frames := 8, cells := 1, slots := 6, locals := 190 } : Room) G z [.ref x, .int j, .ref o] (fun rv z' => rv = some (.int 1) ∧ z' = z) := by
  refine ct_ofH (cc := cL_cut) (maxL := 4) (ret := (some .int)) (lv0 := [(0, .ref x), (1, .int j), (2, .ref o)]) (by decide) rfl (by simp [lg_sl, cat_ref, cat_null, cat_int, cat_long, rf_cat]) (by simp [lv_args, cat_ref, cat_null, cat_int, cat_long, rf_cat]) ?_
  intro p e s m args below meth c C htb
  refine w_aload_n C 2 dL_cut_0 rfl rfl (by first | rfl | exact isRef_rf _) ?_
  refine w_iconst (v := 0) C dL_cut_1 (by decide) ?_
  refine w_aload_n C 0 dL_cut_2 rfl rfl (by first | rfl | exact isRef_rf _) ?_
  refine w_iload_n C 1 dL_cut_3 rfl rfl ?_
  refine w_callVC (ci := 5) (As := [.int j]) (rest := [.int 0, .ref o]) (E := "java/lang/IndexOutOfBoundsException") (name := "java/lang/IndexOutOfBoundsException") C [] ⟨0, 9, 12, 19⟩ [] htb (fun w hw => (by cases hw)) (by decide) (by decide) (by decide +kernel) C.2.2.2.1.2.2.2.2.2.2.2.2.2.2.1.2.2 (cwV 1 C.1.2.2.2.2 gL_cut_X4_cut rfl rfl rfl (by decide +kernel) ⟨Nat.le_of_ble_eq_true rfl, Nat.le_of_ble_eq_true rfl⟩) h.2.1.1.1 rfl (by decide) rfl rfl (by first | decide | simp [cat_ref, cat_null, cat_int, cat_long, rf_cat]) dL_cut_4 ⟨Nat.le_of_ble_eq_true rfl, Nat.le_of_ble_eq_true rfl⟩ (x_cut l G z hl9 h hj) (fun q9 => ?_)
  refine w_astore_nB (lvq := [(3, _), (0, _), (1, _), (2, _)]) C 2 rfl rfl (by first | rfl | exact rf_cat _) dL_cut_12 rfl (by first | rfl | exact isRef_rf _) (by decide) rfl ?_
  refine w_iconst (v := 1) C dL_cut_13 (by decide) ?_
  refine w_widen (k := 1) (n := 6) (by decide) (by decide) ?_
  exact w_iret C dL_cut_14 ⟨rfl, rfl⟩
set_option maxHeartbeats 4000000 in
set_option maxRecDepth 100000 in
theorem x_Lblame (l : Launch) (G : Gx) (z : Sto) {x gl pt ol o : Nat} {ga : Nat → Nat} {N : NT} (hl9 : l.stackTraces = false) (h : netI G z x gl pt ol ga N) {j : Int32} (hj : j < 0 ∨ nI (nN N) ≤ j) : Ct l yL_blame wsL_blame ({ frames := 8, cells := 1, slots := 6, locals := 190 } : Room) G z [.ref x, .int j, .ref o] (fun rv z' => rv = some (.int 1) ∧ z' = z) := by
  refine ct_ofH (cc := cL_blame) (maxL := 4) (ret := (some .int)) (lv0 := [(0, .ref x), (1, .int j), (2, .ref o)]) (by decide) rfl (by simp [lg_sl, cat_ref, cat_null, cat_int, cat_long, rf_cat]) (by simp [lv_args, cat_ref, cat_null, cat_int, cat_long, rf_cat]) ?_
  intro p e s m args below meth c C htb
  refine w_aload_n C 2 dL_blame_0 rfl rfl (by first | rfl | exact isRef_rf _) ?_
  refine w_iconst (v := 0) C dL_blame_1 (by decide) ?_
  refine w_aload_n C 0 dL_blame_2 rfl rfl (by first | rfl | exact isRef_rf _) ?_
  refine w_iload_n C 1 dL_blame_3 rfl rfl ?_
  refine w_callVC (ci := 5) (As := [.int j]) (rest := [.int 0, .ref o]) (E := "java/lang/IndexOutOfBoundsException") (name := "java/lang/IndexOutOfBoundsException") C [] ⟨0, 9, 12, 19⟩ [] htb (fun w hw => (by cases hw)) (by decide) (by decide) (by decide +kernel) C.2.2.2.1.2.2.2.2.2.2.2.2.2.2.1.2.2 (cwV 1 C.1.2.2.2.2 gL_blame_X4_blame rfl rfl rfl (by decide +kernel) ⟨Nat.le_of_ble_eq_true rfl, Nat.le_of_ble_eq_true rfl⟩) h.2.1.1.1 rfl (by decide) rfl rfl (by first | decide | simp [cat_ref, cat_null, cat_int, cat_long, rf_cat]) dL_blame_4 ⟨Nat.le_of_ble_eq_true rfl, Nat.le_of_ble_eq_true rfl⟩ (x_blame l G z hl9 h hj) (fun q9 => ?_)
  refine w_astore_nB (lvq := [(3, _), (0, _), (1, _), (2, _)]) C 2 rfl rfl (by first | rfl | exact rf_cat _) dL_blame_12 rfl (by first | rfl | exact isRef_rf _) (by decide) rfl ?_
  refine w_iconst (v := 1) C dL_blame_13 (by decide) ?_
  refine w_widen (k := 1) (n := 6) (by decide) (by decide) ?_
  exact w_iret C dL_blame_14 ⟨rfl, rfl⟩
set_option maxHeartbeats 4000000 in
set_option maxRecDepth 100000 in
theorem x_Lcycle (l : Launch) (G : Gx) (z : Sto) {x gl pt ol o : Nat} {ga : Nat → Nat} {N : NT} (hl9 : l.stackTraces = false) (h : netI G z x gl pt ol ga N) {j : Int32} (hj : j < 0 ∨ nI (nN N) ≤ j) : Ct l yL_cycle wsL_cycle ({ frames := 12, cells := 900, slots := 3600, locals := 380 } : Room) G z [.ref x, .int j, .ref o] (fun rv z' => rv = some (.int 1) ∧ z' = z) := by
  refine ct_ofH (cc := cL_cycle) (maxL := 4) (ret := (some .int)) (lv0 := [(0, .ref x), (1, .int j), (2, .ref o)]) (by decide) rfl (by simp [lg_sl, cat_ref, cat_null, cat_int, cat_long, rf_cat]) (by simp [lv_args, cat_ref, cat_null, cat_int, cat_long, rf_cat]) ?_
  intro p e s m args below meth c C htb
  refine w_aload_n C 2 dL_cycle_0 rfl rfl (by first | rfl | exact isRef_rf _) ?_
  refine w_iconst (v := 0) C dL_cycle_1 (by decide) ?_
  refine w_aload_n C 0 dL_cycle_2 rfl rfl (by first | rfl | exact isRef_rf _) ?_
  refine w_iload_n C 1 dL_cycle_3 rfl rfl ?_
  refine w_callVC (ci := 5) (As := [.int j]) (rest := [.int 0, .ref o]) (E := "java/lang/IndexOutOfBoundsException") (name := "java/lang/IndexOutOfBoundsException") C [] ⟨0, 9, 12, 19⟩ [] htb (fun w hw => (by cases hw)) (by decide) (by decide) (by decide +kernel) C.2.2.2.1.2.2.2.2.2.2.2.2.2.2.1.2.2 (cwV 1 C.1.2.2.2.2 gL_cycle_X4_cycle rfl rfl rfl (by decide +kernel) ⟨Nat.le_of_ble_eq_true rfl, Nat.le_of_ble_eq_true rfl⟩) h.2.1.1.1 rfl (by decide) rfl rfl (by first | decide | simp [cat_ref, cat_null, cat_int, cat_long, rf_cat]) dL_cycle_4 ⟨Nat.le_of_ble_eq_true rfl, Nat.le_of_ble_eq_true rfl⟩ (x_cycle l G z hl9 h hj) (fun q9 => ?_)
  refine w_astore_nB (lvq := [(3, _), (0, _), (1, _), (2, _)]) C 2 rfl rfl (by first | rfl | exact rf_cat _) dL_cycle_12 rfl (by first | rfl | exact isRef_rf _) (by decide) rfl ?_
  refine w_iconst (v := 1) C dL_cycle_13 (by decide) ?_
  refine w_widen (k := 900) (n := 3600) (by decide) (by decide) ?_
  exact w_iret C dL_cycle_14 ⟨rfl, rfl⟩
set_option maxHeartbeats 4000000 in
set_option maxRecDepth 100000 in
theorem x_Lset (l : Launch) (G : Gx) (z : Sto) {x gl pt ol o : Nat} {ga : Nat → Nat} {N : NT} (hl9 : l.stackTraces = false) (h : netI G z x gl pt ol ga N) {j v : Int32} (hj : j < 0 ∨ nI (nN N) ≤ j) : Ct l yL_set wsL_set ({ frames := 8, cells := 1, slots := 6, locals := 190 } : Room) G z [.ref x, .int j, .int v, .ref o] (fun rv z' => rv = some (.int 1) ∧ z' = z) := by
  refine ct_ofH (cc := cL_set) (maxL := 5) (ret := (some .int)) (lv0 := [(0, .ref x), (1, .int j), (2, .int v), (3, .ref o)]) (by decide) rfl (by simp [lg_sl, cat_ref, cat_null, cat_int, cat_long, rf_cat]) (by simp [lv_args, cat_ref, cat_null, cat_int, cat_long, rf_cat]) ?_
  intro p e s m args below meth c C htb
  refine w_aload_n C 3 dL_set_0 rfl rfl (by first | rfl | exact isRef_rf _) ?_
  refine w_iconst (v := 0) C dL_set_1 (by decide) ?_
  refine w_aload_n C 0 dL_set_2 rfl rfl (by first | rfl | exact isRef_rf _) ?_
  refine w_iload_n C 1 dL_set_3 rfl rfl ?_
  refine w_iload_n C 2 dL_set_4 rfl rfl ?_
  refine w_callVC (ci := 5) (As := [.int j, .int v]) (rest := [.int 0, .ref o]) (E := "java/lang/IndexOutOfBoundsException") (name := "java/lang/IndexOutOfBoundsException") C [] ⟨0, 10, 13, 19⟩ [⟨0, 10, 17, 13⟩] htb (fun w hw => (by cases hw)) (by decide) (by decide) (by decide +kernel) C.2.2.2.1.2.2.2.2.2.2.2.2.2.2.1.2.2 (cwV 2 C.1.2.2.2.2 gL_set_X4_set rfl rfl rfl (by decide +kernel) ⟨Nat.le_of_ble_eq_true rfl, Nat.le_of_ble_eq_true rfl⟩) h.2.1.1.1 rfl (by decide) rfl rfl (by first | decide | simp [cat_ref, cat_null, cat_int, cat_long, rf_cat]) dL_set_5 ⟨Nat.le_of_ble_eq_true rfl, Nat.le_of_ble_eq_true rfl⟩ (x_set l G z hl9 h hj) (fun q9 => ?_)
  refine w_astoreB (lvq := [(4, _), (0, _), (1, _), (2, _), (3, _)]) C 3 rfl rfl (by first | rfl | exact rf_cat _) dL_set_13 (by first | rfl | exact isRef_rf _) (by decide) rfl ?_
  refine w_iconst (v := 1) C dL_set_15 (by decide) ?_
  refine w_widen (k := 1) (n := 6) (by decide) (by decide) ?_
  exact w_iret C dL_set_16 ⟨rfl, rfl⟩
set_option maxHeartbeats 4000000 in
set_option maxRecDepth 100000 in
theorem x_Lset2 (l : Launch) (G : Gx) (z : Sto) {x gl pt ol o : Nat} {ga : Nat → Nat} {N : NT} (hl9 : l.stackTraces = false) (h : netI G z x gl pt ol ga N) {i : Nat} {v : Int32} (hi : i < nN N) (hb : ¬ nSo N i = 0 ∨ v < 0 ∨ 2 < v) : Ct l yL_set wsL_set ({ frames := 8, cells := 1, slots := 6, locals := 190 } : Room) G z [.ref x, .int (nI i), .int v, .ref o] (fun rv z' => rv = some (.int 2) ∧ z' = z) := by
  refine ct_ofH (cc := cL_set) (maxL := 5) (ret := (some .int)) (lv0 := [(0, .ref x), (1, .int (nI i)), (2, .int v), (3, .ref o)]) (by decide) rfl (by simp [lg_sl, cat_ref, cat_null, cat_int, cat_long, rf_cat]) (by simp [lv_args, cat_ref, cat_null, cat_int, cat_long, rf_cat]) ?_
  intro p e s m args below meth c C htb
  refine w_aload_n C 3 dL_set_0 rfl rfl (by first | rfl | exact isRef_rf _) ?_
  refine w_iconst (v := 0) C dL_set_1 (by decide) ?_
  refine w_aload_n C 0 dL_set_2 rfl rfl (by first | rfl | exact isRef_rf _) ?_
  refine w_iload_n C 1 dL_set_3 rfl rfl ?_
  refine w_iload_n C 2 dL_set_4 rfl rfl ?_
  refine w_callVC (ci := 5) (As := [.int (nI i), .int v]) (rest := [.int 0, .ref o]) (E := "java/lang/IllegalArgumentException") (name := "java/lang/IllegalArgumentException") C [⟨0, 10, 13, 19⟩] ⟨0, 10, 17, 13⟩ [] htb (fun w hw => Or.inr (by rw [List.mem_singleton.mp hw]; exact ⟨by decide, "java/lang/IndexOutOfBoundsException", by decide +kernel, C.2.2.2.1.2.2.2.2.2.2.2.2.2.2.2.1.2⟩)) (by decide) (by decide) (by decide +kernel) C.2.2.2.1.2.2.2.2.2.2.2.2.2.2.1.1 (cwV 2 C.1.2.2.2.2 gL_set_X4_set rfl rfl rfl (by decide +kernel) ⟨Nat.le_of_ble_eq_true rfl, Nat.le_of_ble_eq_true rfl⟩) h.2.1.1.1 rfl (by decide) rfl rfl (by first | decide | simp [cat_ref, cat_null, cat_int, cat_long, rf_cat]) dL_set_5 ⟨Nat.le_of_ble_eq_true rfl, Nat.le_of_ble_eq_true rfl⟩ (x_set2 l G z hl9 h hi hb) (fun q9 => ?_)
  refine w_astoreB (lvq := [(4, _), (0, _), (1, _), (2, _), (3, _)]) C 3 rfl rfl (by first | rfl | exact rf_cat _) dL_set_17 (by first | rfl | exact isRef_rf _) (by decide) rfl ?_
  refine w_iconst (v := 2) C dL_set_19 (by decide) ?_
  refine w_widen (k := 1) (n := 6) (by decide) (by decide) ?_
  exact w_iret C dL_set_20 ⟨rfl, rfl⟩
set_option maxHeartbeats 4000000 in
set_option maxRecDepth 100000 in
theorem x_Lfeed (l : Launch) (G : Gx) (z : Sto) {x gl pt ol o : Nat} {ga : Nat → Nat} {N : NT} (hl9 : l.stackTraces = false) (h : netI G z x gl pt ol ga N) {j j2 ng : Int32} (hj : j < 0 ∨ nI (nN N) ≤ j) : Ct l yL_feed wsL_feed ({ frames := 8, cells := 1, slots := 6, locals := 190 } : Room) G z [.ref x, .int j, .int j2, .int ng, .ref o] (fun rv z' => rv = some (.int 1) ∧ z' = z) := by
  refine ct_ofH (cc := cL_feed) (maxL := 6) (ret := (some .int)) (lv0 := [(0, .ref x), (1, .int j), (2, .int j2), (3, .int ng), (4, .ref o)]) (by decide) rfl (by simp [lg_sl, cat_ref, cat_null, cat_int, cat_long, rf_cat]) (by simp [lv_args, cat_ref, cat_null, cat_int, cat_long, rf_cat]) ?_
  intro p e s m args below meth c C htb
  refine w_aload C 4 dL_feed_0 rfl (by first | rfl | exact isRef_rf _) ?_
  refine w_iconst (v := 0) C dL_feed_2 (by decide) ?_
  refine w_aload_n C 0 dL_feed_3 rfl rfl (by first | rfl | exact isRef_rf _) ?_
  refine w_iload_n C 1 dL_feed_4 rfl rfl ?_
  refine w_iload_n C 2 dL_feed_5 rfl rfl ?_
  refine w_iload_n C 3 dL_feed_6 rfl rfl ?_
  refine w_callVC (ci := 5) (As := [.int j, .int j2, .int ng]) (rest := [.int 0, .ref o]) (E := "java/lang/IndexOutOfBoundsException") (name := "java/lang/IndexOutOfBoundsException") C [] ⟨0, 12, 15, 19⟩ [⟨0, 12, 19, 21⟩] htb (fun w hw => (by cases hw)) (by decide) (by decide) (by decide +kernel) C.2.2.2.1.2.2.2.2.2.2.2.2.2.2.1.2.2 (cwV 3 C.1.2.2.2.2 gL_feed_X4_feed rfl rfl rfl (by decide +kernel) ⟨Nat.le_of_ble_eq_true rfl, Nat.le_of_ble_eq_true rfl⟩) h.2.1.1.1 rfl (by decide) rfl rfl (by first | decide | simp [cat_ref, cat_null, cat_int, cat_long, rf_cat]) dL_feed_7 ⟨Nat.le_of_ble_eq_true rfl, Nat.le_of_ble_eq_true rfl⟩ (x_feed l G z hl9 h hj) (fun q9 => ?_)
  refine w_astoreB (lvq := [(5, _), (0, _), (1, _), (2, _), (3, _), (4, _)]) C 4 rfl rfl (by first | rfl | exact rf_cat _) dL_feed_15 (by first | rfl | exact isRef_rf _) (by decide) rfl ?_
  refine w_iconst (v := 1) C dL_feed_17 (by decide) ?_
  refine w_widen (k := 1) (n := 6) (by decide) (by decide) ?_
  exact w_iret C dL_feed_18 ⟨rfl, rfl⟩
set_option maxHeartbeats 4000000 in
set_option maxRecDepth 100000 in
theorem x_Lfeed2 (l : Launch) (G : Gx) (z : Sto) {x gl pt ol o : Nat} {ga : Nat → Nat} {N : NT} (hl9 : l.stackTraces = false) (h : netI G z x gl pt ol ga N) {t : Nat} {j ng : Int32} (ht : t < nN N) (hj : j < 0 ∨ nI (nN N) ≤ j) : Ct l yL_feed wsL_feed ({ frames := 8, cells := 1, slots := 6, locals := 190 } : Room) G z [.ref x, .int (nI t), .int j, .int ng, .ref o] (fun rv z' => rv = some (.int 1) ∧ z' = z) := by
  refine ct_ofH (cc := cL_feed) (maxL := 6) (ret := (some .int)) (lv0 := [(0, .ref x), (1, .int (nI t)), (2, .int j), (3, .int ng), (4, .ref o)]) (by decide) rfl (by simp [lg_sl, cat_ref, cat_null, cat_int, cat_long, rf_cat]) (by simp [lv_args, cat_ref, cat_null, cat_int, cat_long, rf_cat]) ?_
  intro p e s m args below meth c C htb
  refine w_aload C 4 dL_feed_0 rfl (by first | rfl | exact isRef_rf _) ?_
  refine w_iconst (v := 0) C dL_feed_2 (by decide) ?_
  refine w_aload_n C 0 dL_feed_3 rfl rfl (by first | rfl | exact isRef_rf _) ?_
  refine w_iload_n C 1 dL_feed_4 rfl rfl ?_
  refine w_iload_n C 2 dL_feed_5 rfl rfl ?_
  refine w_iload_n C 3 dL_feed_6 rfl rfl ?_
  refine w_callVC (ci := 5) (As := [.int (nI t), .int j, .int ng]) (rest := [.int 0, .ref o]) (E := "java/lang/IndexOutOfBoundsException") (name := "java/lang/IndexOutOfBoundsException") C [] ⟨0, 12, 15, 19⟩ [⟨0, 12, 19, 21⟩] htb (fun w hw => (by cases hw)) (by decide) (by decide) (by decide +kernel) C.2.2.2.1.2.2.2.2.2.2.2.2.2.2.1.2.2 (cwV 3 C.1.2.2.2.2 gL_feed_X4_feed rfl rfl rfl (by decide +kernel) ⟨Nat.le_of_ble_eq_true rfl, Nat.le_of_ble_eq_true rfl⟩) h.2.1.1.1 rfl (by decide) rfl rfl (by first | decide | simp [cat_ref, cat_null, cat_int, cat_long, rf_cat]) dL_feed_7 ⟨Nat.le_of_ble_eq_true rfl, Nat.le_of_ble_eq_true rfl⟩ (x_feed2 l G z hl9 h ht hj) (fun q9 => ?_)
  refine w_astoreB (lvq := [(5, _), (0, _), (1, _), (2, _), (3, _), (4, _)]) C 4 rfl rfl (by first | rfl | exact rf_cat _) dL_feed_15 (by first | rfl | exact isRef_rf _) (by decide) rfl ?_
  refine w_iconst (v := 1) C dL_feed_17 (by decide) ?_
  refine w_widen (k := 1) (n := 6) (by decide) (by decide) ?_
  exact w_iret C dL_feed_18 ⟨rfl, rfl⟩
set_option maxHeartbeats 4000000 in
set_option maxRecDepth 100000 in
theorem x_Lfeed3 (l : Launch) (G : Gx) (z : Sto) {x gl pt ol o : Nat} {ga : Nat → Nat} {N : NT} (hl9 : l.stackTraces = false) (h : netI G z x gl pt ol ga N) {t f : Nat} {ng : Int32} (ht : t < nN N) (hf : f < nN N) (hc : ¬ nCan N t) : Ct l yL_feed wsL_feed ({ frames := 8, cells := 1, slots := 6, locals := 190 } : Room) G z [.ref x, .int (nI t), .int (nI f), .int ng, .ref o] (fun rv z' => rv = some (.int 2) ∧ z' = z) := by
  refine ct_ofH (cc := cL_feed) (maxL := 6) (ret := (some .int)) (lv0 := [(0, .ref x), (1, .int (nI t)), (2, .int (nI f)), (3, .int ng), (4, .ref o)]) (by decide) rfl (by simp [lg_sl, cat_ref, cat_null, cat_int, cat_long, rf_cat]) (by simp [lv_args, cat_ref, cat_null, cat_int, cat_long, rf_cat]) ?_
  intro p e s m args below meth c C htb
  refine w_aload C 4 dL_feed_0 rfl (by first | rfl | exact isRef_rf _) ?_
  refine w_iconst (v := 0) C dL_feed_2 (by decide) ?_
  refine w_aload_n C 0 dL_feed_3 rfl rfl (by first | rfl | exact isRef_rf _) ?_
  refine w_iload_n C 1 dL_feed_4 rfl rfl ?_
  refine w_iload_n C 2 dL_feed_5 rfl rfl ?_
  refine w_iload_n C 3 dL_feed_6 rfl rfl ?_
  refine w_callVC (ci := 5) (As := [.int (nI t), .int (nI f), .int ng]) (rest := [.int 0, .ref o]) (E := "java/lang/IllegalStateException") (name := "java/lang/IllegalStateException") C [⟨0, 12, 15, 19⟩] ⟨0, 12, 19, 21⟩ [] htb (fun w hw => Or.inr (by rw [List.mem_singleton.mp hw]; exact ⟨by decide, "java/lang/IndexOutOfBoundsException", by decide +kernel, C.2.2.2.1.2.2.2.2.2.2.2.2.2.2.2.1.1⟩)) (by decide) (by decide) (by decide +kernel) C.2.2.2.1.2.2.2.2.2.2.2.2.2.2.1.2.1 (cwV 3 C.1.2.2.2.2 gL_feed_X4_feed rfl rfl rfl (by decide +kernel) ⟨Nat.le_of_ble_eq_true rfl, Nat.le_of_ble_eq_true rfl⟩) h.2.1.1.1 rfl (by decide) rfl rfl (by first | decide | simp [cat_ref, cat_null, cat_int, cat_long, rf_cat]) dL_feed_7 ⟨Nat.le_of_ble_eq_true rfl, Nat.le_of_ble_eq_true rfl⟩ (x_feed3 l G z hl9 h ht hf hc) (fun q9 => ?_)
  refine w_astoreB (lvq := [(5, _), (0, _), (1, _), (2, _), (3, _), (4, _)]) C 4 rfl rfl (by first | rfl | exact rf_cat _) dL_feed_19 (by first | rfl | exact isRef_rf _) (by decide) rfl ?_
  refine w_iconst (v := 2) C dL_feed_21 (by decide) ?_
  refine w_widen (k := 1) (n := 6) (by decide) (by decide) ?_
  exact w_iret C dL_feed_22 ⟨rfl, rfl⟩
set_option maxHeartbeats 4000000 in
set_option maxRecDepth 100000 in
theorem x_Lgate (l : Launch) (G : Gx) (z : Sto) {x gl pt ol o : Nat} {ga : Nat → Nat} {N : NT} (hl9 : l.stackTraces = false) (h : netI G z x gl pt ol ga N) {s0 : Int32} (hb : s0 < 0 ∨ 3 < s0) : Ct l yL_gate wsL_gate ({ frames := 8, cells := 2, slots := 1000, locals := 260 } : Room) G z [.ref x, .int s0, .ref o] (fun rv z' => rv = some (.int 1) ∧ z' = z) := by
  refine ct_ofH (cc := cL_gate) (maxL := 4) (ret := (some .int)) (lv0 := [(0, .ref x), (1, .int s0), (2, .ref o)]) (by decide) rfl (by simp [lg_sl, cat_ref, cat_null, cat_int, cat_long, rf_cat]) (by simp [lv_args, cat_ref, cat_null, cat_int, cat_long, rf_cat]) ?_
  intro p e s m args below meth c C htb
  refine w_aload_n C 2 dL_gate_0 rfl rfl (by first | rfl | exact isRef_rf _) ?_
  refine w_iconst (v := 0) C dL_gate_1 (by decide) ?_
  refine w_aload_n C 0 dL_gate_2 rfl rfl (by first | rfl | exact isRef_rf _) ?_
  refine w_iload_n C 1 dL_gate_3 rfl rfl ?_
  refine w_callVC (ci := 5) (As := [.int s0]) (rest := [.int 0, .ref o]) (E := "java/lang/IllegalArgumentException") (name := "java/lang/IllegalArgumentException") C [] ⟨0, 9, 12, 13⟩ [] htb (fun w hw => (by cases hw)) (by decide) (by decide) (by decide +kernel) C.2.2.2.1.2.2.2.2.2.2.2.2.2.2.1.1 (cwV 1 C.1.2.2.2.2 gL_gate_X4_gate rfl rfl rfl (by decide +kernel) ⟨Nat.le_of_ble_eq_true rfl, Nat.le_of_ble_eq_true rfl⟩) h.2.1.1.1 rfl (by decide) rfl rfl (by first | decide | simp [cat_ref, cat_null, cat_int, cat_long, rf_cat]) dL_gate_4 ⟨Nat.le_of_ble_eq_true rfl, Nat.le_of_ble_eq_true rfl⟩ (x_gate l G z hl9 hb) (fun q9 => ?_)
  refine w_astore_nB (lvq := [(3, _), (0, _), (1, _), (2, _)]) C 2 rfl rfl (by first | rfl | exact rf_cat _) dL_gate_12 rfl (by first | rfl | exact isRef_rf _) (by decide) rfl ?_
  refine w_iconst (v := 1) C dL_gate_13 (by decide) ?_
  refine w_widen (k := 2) (n := 1000) (by decide) (by decide) ?_
  exact w_iret C dL_gate_14 ⟨rfl, rfl⟩
