/-! ===== THE LAW: one call of the class beside one of the reference ===== -/
theorem nI_p (a d : Nat) : nI a + nI d = nI (a + d) := by rw [nI_add]
theorem lgc (x : Int64) : lg_cmp x x = 0 := by
  unfold lg_cmp
  simp
theorem and15 (x : Int32) : ∃ j : Nat, j < 16 ∧ x &&& 15 = nI j := by
  refine ⟨(x &&& 15).toBitVec.toNat, ?_, ?_⟩
  · rw [Int32.toBitVec_and, BitVec.toNat_and]
    exact Nat.lt_of_le_of_lt Nat.and_le_right (by decide)
  · apply Int32.toBitVec_inj.mp
    show _ = (Int32.ofNat _).toBitVec
    rw [Int32.toBitVec_ofNat', BitVec.ofNat_toNat, BitVec.setWidth_eq]
theorem idx_of {x : Int32} {n : Nat} (hn : n ≤ 600) (h : ¬ (x < 0 ∨ nI n ≤ x)) : ∃ i, i < n ∧ x = nI i := by
  obtain ⟨j, hj, rfl⟩ := nI_of (fun q => h (Or.inl q))
  refine ⟨j, Decidable.byContradiction fun q => h (Or.inr (nI_le (by omega) hj)), rfl⟩
theorem sub4 {L i : Nat} (hL : L ≤ 2048) (hi : i ≤ 2052) : (nI L - 4 < nI i) ↔ L < i + 4 := by
  by_cases h4 : 4 ≤ L
  · have e : nI L - 4 = nI (L - 4) := by
      have h9 : nI (L - 4 + 4) - nI 4 = nI (L - 4) := nI_sub
      rw [show L - 4 + 4 = L by omega] at h9
      exact h9
    rw [e, nI_ltI (by omega) (by omega)]
    omega
  · have h0 : nI L - 4 < 0 := by
      rcases (show L = 0 ∨ L = 1 ∨ L = 2 ∨ L = 3 by omega) with rfl | rfl | rfl | rfl <;> decide
    have h1 : (0 : Int32) ≤ nI i := nI_pos' (by omega)
    exact ⟨fun _ => by omega, fun _ => Int32.lt_of_lt_of_le h0 h1⟩
theorem w_callSW {p : Program} {l : Launch} {e : Env} {R : Room} {s : State} {m : MethodId} {args : Array Value} {below : List Frame} {meth : Method} {c : Code} {G : Gx} {nL cells slots : Nat} {Q : State → Prop} {z : Sto} {pc : Nat} {lv : List (Nat × Value)} {st rest : List Value} {cc : ByteArray} {Ts : List Cond} {own : String} {ret9 : Option FieldType} {Post : Option Value → Sto → Prop} {y : MethodName} {bytes : ByteArray} {maxL n index : Nat} {ret' : Option FieldType} {hh : List (Nat × Nat × Nat × Nat)} {ws : List Cond} {rm : Room} {As : List Value}
    (C : Cx p s m args meth c cc nL Ts own ret9 G) (cw : vx_CSW R s args own index y bytes maxL ret' hh ws rm rm.cells rm.slots n) (hn : As.length = n) (hst : st = As.reverse ++ rest) (hW : (rest.map fun v => v.category).sum ≤ 8) (hdg : decode cc pc = .ok (.invokestatic index, 3)) (hf : cells + rm.cells ≤ R.cells ∧ slots + rm.slots ≤ R.slots)
    (hM : Ct l y ws rm G z As Post)
    (kk : ∀ (rv : Option Value) (z' : Sto), Post rv z' → Wp p l e R s m args below meth c G nL (cells + rm.cells) (slots + rm.slots) Q z' (pc + 3) lv (rv.toList ++ rest)) : Wp p l e R s m args below meth c G nL cells slots Q z pc lv st :=
  w_run (a := As.toArray) (fun H locs ls hp hl => vx_runSW C.1 hM cw ⟨cPre_blind _ _ _, fun U hU hWU => pre_of C hp hU hWU⟩ rfl hn hl.1 hst (lv_room hW) hdg hf) kk
theorem w_sld {p : Program} {l : Launch} {e : Env} {R : Room} {s : State} {m : MethodId} {args : Array Value} {below : List Frame} {meth : Method} {c : Code} {G : Gx} {nL cells slots : Nat} {Q : State → Prop} {z : Sto} {pc : Nat} {lv : List (Nat × Value)} {rest : List Value} {cc : ByteArray} {Ts : List Cond} {own : String} {ret9 : Option FieldType} {b L n : Nat} {xs : Nat → Int32} {i : Int32}
    (C : Cx p s m args meth c cc nL Ts own ret9 G) (hX : va_X b L xs s s.heap) (hbl : b < s.heap.size) (hGs : G.2.2.1 = s.heap.size) (hL : L ≤ 2048) (hi : i = nI n) (hn : n < L) (hdg : decode cc pc = .ok (.iaload, 1)) (kk : Wp p l e R s m args below meth c G nL cells slots Q z (pc + 1) lv (.int (xs n) :: rest)) : Wp p l e R s m args below meth c G nL cells slots Q z pc lv (.int i :: .ref b :: rest) := by
  intro H locs ls hp hl
  subst hi
  refine va_sld C.1.1 C.1.2.1 hX hbl (show ¬ gA G b from Nat.not_le.mpr (by rw [hGs]; exact hbl)) hp.2 (vp_in_nI hn (by omega)) hdg ?_
  rw [nI_clamp (by omega)]
  exact kk H locs ls hp hl
theorem w_slen {p : Program} {l : Launch} {e : Env} {R : Room} {s : State} {m : MethodId} {args : Array Value} {below : List Frame} {meth : Method} {c : Code} {G : Gx} {nL cells slots : Nat} {Q : State → Prop} {z : Sto} {pc : Nat} {lv : List (Nat × Value)} {rest : List Value} {cc : ByteArray} {Ts : List Cond} {own : String} {ret9 : Option FieldType} {b L : Nat} {xs : Nat → Int32}
    (C : Cx p s m args meth c cc nL Ts own ret9 G) (hX : va_X b L xs s s.heap) (hbl : b < s.heap.size) (hGs : G.2.2.1 = s.heap.size) (hdg : decode cc pc = .ok (.arraylength, 1)) (kk : Wp p l e R s m args below meth c G nL cells slots Q z (pc + 1) lv (.int (nI L) :: rest)) : Wp p l e R s m args below meth c G nL cells slots Q z pc lv (.ref b :: rest) := fun H locs ls hp hl => va_slen C.1.1 C.1.2.1 hX hbl (show ¬ gA G b from Nat.not_le.mpr (by rw [hGs]; exact hbl)) hp.2 hdg (kk H locs ls hp hl)
/-- the class's net and the reference's are the same -/
def lwI (G : Gx) (z : Sto) (x mo o : Nat) : Prop := ∃ gl pt ol ga N A I M, netI G z x gl pt ol ga N ∧ mst z mo A I M ∧ mv I M N ∧ is z o 10 ∧ sN z o = 1
theorem mst_lF {z z1 : Sto} {mo : Nat} {A : Nat → Nat} {I : Nat → Int32} {M : Nat → Nat → Int32} (h : mst z mo A I M) (hk : lF z z1) : mst z1 mo A (fun f => sI z1 f mo) M ∧ ∀ f, 192 ≤ f → sI z1 f mo = I f := by
  obtain ⟨h1, h2, h3, h4⟩ := h
  obtain ⟨k1, k2, k3, k4⟩ := hk
  refine ⟨⟨k1 _ _ h1, fun f hf => ?_, h3, fun f => rfl⟩, fun f hf => (k2 f mo hf h1.1).trans (h4 f)⟩
  obtain ⟨q1, q2, q3, q4⟩ := h2 f hf
  have h192 : 192 ≤ f := by
    unfold aFd at hf
    rw [Bool.and_eq_true, Bool.and_eq_true, decide_eq_true_iff] at hf
    omega
  exact ⟨(k3 f mo h192 h1.1).trans q1, k1 _ _ q2, (k4 _ q2.1).1.trans q3, (k4 _ q2.1).2.trans q4⟩
theorem mv_cg {I I' : Nat → Int32} {M : Nat → Nat → Int32} {N : NT} (h : mv I M N) (hI : ∀ f, 192 ≤ f → I' f = I f) : mv I' M N := ⟨⟨(hI 193 (by decide)).trans h.n, (hI 194 (by decide)).trans h.l, (hI 195 (by decide)).trans h.u⟩, h.2⟩
theorem lwI_mk {G : Gx} {z1 z2 : Sto} {x gl pt ol mo o : Nat} {ga : Nat → Nat} {N : NT} {A : Nat → Nat} {I : Nat → Int32} {M : Nat → Nat → Int32} (hN : netI G z1 x gl pt ol ga N) (hm : mR z1 z2 mo A I M) (hv : mv I M N) (hE : ∀ b, b ∈ sL z2 → b ≠ G.2.2.2 0) (ho : is z1 o 10) (hn1 : sN z1 o = 1) : lwI G z2 x mo o :=
  ⟨gl, pt, ol, ga, N, A, I, M, netI_mk hN hm.mkF hE, hm.2, hv, hm.mkF.1 _ _ ho, (hm.mkF.2.2.2 o ho.1).1.trans hn1⟩
theorem mR.F {z z1 : Sto} {mo : Nat} {A : Nat → Nat} {I : Nat → Int32} {M : Nat → Nat → Int32} (h : mR z z1 mo A I M) : sF z1 = sF z := h.1.2.2.2.2.2.1
theorem hfW {k : Nat} {rm : Room} (hk : k < 512) (h1 : rm.cells ≤ 901) (h2 : rm.slots ≤ 3602) : 20 + 901 * k + rm.cells ≤ room_1.cells ∧ 11500 + 3602 * k + rm.slots ≤ room_1.slots := by
  show _ ≤ 601024 ∧ _ ≤ 7293034
  omega
theorem wdW {k : Nat} {rm : Room} (h1 : rm.cells ≤ 901) : 20 + 901 * k + rm.cells ≤ 20 + 901 * (k + 1) := by omega
theorem wdS {k : Nat} {rm : Room} (h1 : rm.slots ≤ 3602) : 11500 + 3602 * k + rm.slots ≤ 11500 + 3602 * (k + 1) := by omega
theorem hfM {k : Nat} {rm : Room} (hk : k < 512) (h1 : rm.cells = 0) (h2 : rm.slots = 0) : 20 + 901 * (k + 1) + rm.cells ≤ room_1.cells ∧ 11500 + 3602 * (k + 1) + rm.slots ≤ room_1.slots := by
  show _ ≤ 601024 ∧ _ ≤ 7293034
  omega
theorem wdM {a : Nat} {n : Nat} (h : n = 0) : a + n ≤ a := by omega
theorem isBlm_uniq {N : NT} {i : Nat} {r s : Int32} (h1 : isBlm N i r) (h2 : isBlm N i s) : r = s := by
  rcases h1 with ⟨a, rfl⟩ | ⟨a, b, rfl⟩ | ⟨a, b, c⟩ <;> rcases h2 with ⟨a', rfl⟩ | ⟨a', b', rfl⟩ | ⟨a', b', c'⟩
  · rfl
  · exact absurd a' a
  · exact absurd a' a
  · exact absurd a a'
  · rfl
  · exact absurd b b'
  · exact absurd a a'
  · exact absurd b' b
  · exact c.uniq c'
set_option maxHeartbeats 4000000 in
set_option maxRecDepth 100000 in
theorem lw_value {p : Program} {l : Launch} {e : Env} {s : State} {m : MethodId} {below : List Frame} {meth : Method} {c : Code} {G : Gx} {Q : State → Prop} {b L k x mo o : Nat} {xs : Nat → Int32} {z : Sto} (C : Cx p s m #[Value.ref b] meth c cL_law 7 wsL_law RL ret G) (hX : va_X b L xs s s.heap) (hbl : b < s.heap.size) (hGs : G.2.2.1 = s.heap.size) (hL : L ≤ 2048) (hl9 : l.stackTraces = false) (hk : 4 * k + 4 ≤ L) (hI : lwI G z x mo o) (kk : ∀ z', lwI G z' x mo o → Wp p l e room_1 s m #[Value.ref b] below meth c G 7 (20 + 901 * (k + 1)) (11500 + 3602 * (k + 1)) Q z' 664 [(4, .int (nI (4 * k))), (3, .ref o), (2, .ref mo), (1, .ref x), (0, .ref b)] []) : Wp p l e room_1 s m #[Value.ref b] below meth c G 7 (20 + 901 * k) (11500 + 3602 * k) Q z 376 [(4, .int (nI (4 * k))), (3, .ref o), (2, .ref mo), (1, .ref x), (0, .ref b)] [] := by
  obtain ⟨gl, pt, ol, ga, N, A, I, M, h, h0, hv, ho, hn1⟩ := hI
  have hO := h.1
  have hn := hO.1
  have hk5 : k < 512 := by omega
  by_cases hj : xs (4 * k + 1) < 0 ∨ nI (nN N) ≤ xs (4 * k + 1)
  ·
    refine w_aload_n C 3 dL_law_376 rfl rfl (by first | rfl | exact isRef_rf _) ?_
    refine w_aload_n C 4 dL_law_377 rfl rfl (by first | rfl | exact isRef_rf _) ?_
    refine w_iload C 0 dL_law_378 rfl ?_
    refine w_iconst (v := 1) C dL_law_380 (by decide) ?_
    refine w_iadd C dL_law_381 ?_
    refine w_sld (n := 4 * k + 1) C hX hbl hGs hL (show nI (4 * k) + 1 = nI (4 * k + 1) from nI_p (4 * k) 1) (by omega) dL_law_382 ?_
    refine w_aload_n C 1 dL_law_383 rfl rfl (by first | rfl | exact isRef_rf _) ?_
    refine w_callSW (As := [.ref x, .int (xs (4 * k + 1)), .ref o]) (rest := []) C (vx_cwSW 3 C.1.2.2.2.2 gL_law_L_value rfl rfl rfl (by decide +kernel) ⟨Nat.le_of_ble_eq_true rfl, Nat.le_of_ble_eq_true rfl⟩) rfl rfl (by first | decide | simp [cat_ref, cat_null, cat_int, cat_long, rf_cat]) dL_law_384 (hfW hk5 (by decide) (by decide)) (x_Lvalue l G z hl9 h hj) (fun rv z1 h9 => ?_)
    obtain ⟨rfl, e9⟩ := h9
    replace e9 := e9.symm
    subst e9
    have hN1 := h
    have h01 := h0
    have hv1 := hv
    have ho1 := ho
    have hn2 := hn1
    refine w_widen (k := 20 + 901 * (k + 1)) (n := 11500 + 3602 * (k + 1)) (wdW (by decide)) (wdS (by decide)) ?_
    refine w_istoreB (lvq := [(5, _), (4, _), (3, _), (2, _), (1, _), (0, _)]) C 0 rfl rfl (by first | rfl | exact rf_cat _) dL_law_387 (by decide) rfl ?_
    refine w_aload_n C 3 dL_law_389 rfl rfl (by first | rfl | exact isRef_rf _) ?_
    refine w_aload_n C 5 dL_law_390 rfl rfl (by first | rfl | exact isRef_rf _) ?_
    refine w_iload C 1 dL_law_391 rfl ?_
    refine w_iconst (v := 1) C dL_law_393 (by decide) ?_
    refine w_iadd C dL_law_394 ?_
    refine w_sld (n := 4 * k + 1) C hX hbl hGs hL (show nI (4 * k) + 1 = nI (4 * k + 1) from nI_p (4 * k) 1) (by omega) dL_law_395 ?_
    refine w_callV (ci := 6) (As := [.int (xs (4 * k + 1))]) (rest := []) C (cwV 1 C.1.2.2.2.2 gL_law_X5_value rfl rfl rfl (by decide +kernel) ⟨Nat.le_of_ble_eq_true rfl, Nat.le_of_ble_eq_true rfl⟩) h01.1 rfl (by decide) rfl rfl (by first | decide | simp [cat_ref, cat_null, cat_int, cat_long, rf_cat]) dL_law_396 (hfM hk5 rfl rfl) (x_mvalue l G _ h01 hv1 hO hj) (fun rv z2 h9 => ?_)
    obtain ⟨⟨v2, rfl⟩, hm⟩ := h9
    have h192 : va_up I 192 1 192 = 1 := if_pos rfl
    have hv2 := hv1.P (f := 192) 1 (by decide) (by decide) (by decide)
    refine w_widen (k := 20 + 901 * (k + 1)) (n := 11500 + 3602 * (k + 1)) (wdM rfl) (wdM rfl) ?_
    refine w_istoreB (lvq := [(6, _), (5, _), (4, _), (3, _), (2, _), (1, _), (0, _)]) C 0 rfl rfl (by first | rfl | exact rf_cat _) dL_law_399 (by decide) rfl ?_
    refine w_aload_n C 4 dL_law_401 rfl rfl (by first | rfl | exact isRef_rf _) ?_
    refine w_callV (ci := 6) (As := []) (rest := []) C (cwV 0 C.1.2.2.2.2 gL_law_X5_thrown rfl rfl rfl (by decide +kernel) ⟨Nat.le_of_ble_eq_true rfl, Nat.le_of_ble_eq_true rfl⟩) hm.2.1 rfl (by decide) rfl rfl (by first | decide | simp [cat_ref, cat_null, cat_int, cat_long, rf_cat]) dL_law_402 (hfM hk5 rfl rfl) (c_mThrown l G _ hm.2) (fun rv z3 h9 => ?_)
    obtain ⟨rfl, e9⟩ := h9
    replace e9 := e9.symm
    subst e9
    refine w_widen (k := 20 + 901 * (k + 1)) (n := 11500 + 3602 * (k + 1)) (wdM rfl) (wdM rfl) ?_
    refine w_iload C 1 dL_law_405 rfl ?_
    refine w_icmp_eq (tgt := 412) C dL_law_407 (by decide) (fun c1 => ?_) (fun c1 => ?_)
    · refine w_iload C 1 dL_law_412 rfl ?_
      refine w_if_ne (tgt := 429) C dL_law_414 (by decide) (fun c2 => ?_) (fun c2 => ?_)
      · refine w_goto (tgt := 664) C dL_law_429 (by decide) ?_
        refine w_sep C (fun hE => ?_)
        exact w_sub [2, 3, 4, 5, 6] rfl (kk _ (lwI_mk hN1 hm hv2 hE ho1 hn2))
      · exact absurd c2 (by decide)
    · exact absurd h192 c1
  · obtain ⟨i, hi, e1⟩ := idx_of hn hj
    have hX1 : xs (4 * k + 1) = nI i := e1
    refine w_aload_n C 3 dL_law_376 rfl rfl (by first | rfl | exact isRef_rf _) ?_
    refine w_aload_n C 4 dL_law_377 rfl rfl (by first | rfl | exact isRef_rf _) ?_
    refine w_iload C 0 dL_law_378 rfl ?_
    refine w_iconst (v := 1) C dL_law_380 (by decide) ?_
    refine w_iadd C dL_law_381 ?_
    refine w_sld (n := 4 * k + 1) C hX hbl hGs hL (show nI (4 * k) + 1 = nI (4 * k + 1) from nI_p (4 * k) 1) (by omega) dL_law_382 ?_
    rw [hX1]
    refine w_aload_n C 1 dL_law_383 rfl rfl (by first | rfl | exact isRef_rf _) ?_
    refine w_callSW (As := [.ref x, .int (nI i), .ref o]) (rest := []) C (vx_cwSW 3 C.1.2.2.2.2 gL_law_L_value rfl rfl rfl (by decide +kernel) ⟨Nat.le_of_ble_eq_true rfl, Nat.le_of_ble_eq_true rfl⟩) rfl rfl (by first | decide | simp [cat_ref, cat_null, cat_int, cat_long, rf_cat]) dL_law_384 (hfW hk5 (by decide) (by decide)) (c_Lvalue l G z h hi ho hn1) (fun rv z1 h9 => ?_)
    obtain ⟨rfl, hlF, hN1, hF1⟩ := h9
    have ho1 := hlF.1 _ _ ho
    have hn2 : sN z1 o = 1 := (hlF.2.2.2 o ho.1).1.trans hn1
    obtain ⟨h01, hII⟩ := mst_lF h0 hlF
    have hv1 : mv (fun f => sI z1 f mo) M N := mv_cg hv hII
    refine w_widen (k := 20 + 901 * (k + 1)) (n := 11500 + 3602 * (k + 1)) (wdW (by decide)) (wdS (by decide)) ?_
    refine w_istoreB (lvq := [(5, _), (4, _), (3, _), (2, _), (1, _), (0, _)]) C 0 rfl rfl (by first | rfl | exact rf_cat _) dL_law_387 (by decide) rfl ?_
    refine w_aload_n C 3 dL_law_389 rfl rfl (by first | rfl | exact isRef_rf _) ?_
    refine w_aload_n C 5 dL_law_390 rfl rfl (by first | rfl | exact isRef_rf _) ?_
    refine w_iload C 1 dL_law_391 rfl ?_
    refine w_iconst (v := 1) C dL_law_393 (by decide) ?_
    refine w_iadd C dL_law_394 ?_
    refine w_sld (n := 4 * k + 1) C hX hbl hGs hL (show nI (4 * k) + 1 = nI (4 * k + 1) from nI_p (4 * k) 1) (by omega) dL_law_395 ?_
    rw [hX1]
    refine w_callV (ci := 6) (As := [.int (nI i)]) (rest := []) C (cwV 1 C.1.2.2.2.2 gL_law_X5_value rfl rfl rfl (by decide +kernel) ⟨Nat.le_of_ble_eq_true rfl, Nat.le_of_ble_eq_true rfl⟩) h01.1 rfl (by decide) rfl rfl (by first | decide | simp [cat_ref, cat_null, cat_int, cat_long, rf_cat]) dL_law_396 (hfM hk5 rfl rfl) (c_mvalue l G _ h01 hv1 hO hi) (fun rv z2 h9 => ?_)
    obtain ⟨I2, M2, hm, h192, rfl, hv2⟩ := h9
    refine w_widen (k := 20 + 901 * (k + 1)) (n := 11500 + 3602 * (k + 1)) (wdM rfl) (wdM rfl) ?_
    refine w_istoreB (lvq := [(6, _), (5, _), (4, _), (3, _), (2, _), (1, _), (0, _)]) C 0 rfl rfl (by first | rfl | exact rf_cat _) dL_law_399 (by decide) rfl ?_
    refine w_aload_n C 4 dL_law_401 rfl rfl (by first | rfl | exact isRef_rf _) ?_
    refine w_callV (ci := 6) (As := []) (rest := []) C (cwV 0 C.1.2.2.2.2 gL_law_X5_thrown rfl rfl rfl (by decide +kernel) ⟨Nat.le_of_ble_eq_true rfl, Nat.le_of_ble_eq_true rfl⟩) hm.2.1 rfl (by decide) rfl rfl (by first | decide | simp [cat_ref, cat_null, cat_int, cat_long, rf_cat]) dL_law_402 (hfM hk5 rfl rfl) (c_mThrown l G _ hm.2) (fun rv z3 h9 => ?_)
    obtain ⟨rfl, e9⟩ := h9
    replace e9 := e9.symm
    subst e9
    refine w_widen (k := 20 + 901 * (k + 1)) (n := 11500 + 3602 * (k + 1)) (wdM rfl) (wdM rfl) ?_
    refine w_iload C 1 dL_law_405 rfl ?_
    refine w_icmp_eq (tgt := 412) C dL_law_407 (by decide) (fun c1 => ?_) (fun c1 => ?_)
    · refine w_iload C 1 dL_law_412 rfl ?_
      refine w_if_ne (tgt := 429) C dL_law_414 (by decide) (fun c2 => ?_) (fun c2 => ?_)
      · exact absurd rfl c2
      · refine w_aload_n C 3 dL_law_417 rfl rfl (by first | rfl | exact isRef_rf _) ?_
        refine w_iconst (v := 0) C dL_law_418 (by decide) ?_
        refine w_lald C dL_law_419 (hm.mkF.1 _ _ ho1) (show (0 : Int32) = nI 0 from rfl) (by rw [(hm.mkF.2.2.2 o ho1.1).1, hn2]; decide) (by rw [(hm.mkF.2.2.2 o ho1.1).1, hn2]; decide) ((congrFun (congrFun hm.F o) 0).trans hF1) ?_
        refine w_iload C 0 dL_law_420 rfl ?_
        refine w_i2l C dL_law_422 rfl ?_
        refine w_lcmp C dL_law_423 ?_
        refine w_if_eq (tgt := 429) C dL_law_424 (by decide) (fun c3 => ?_) (fun c3 => ?_)
        · refine w_goto (tgt := 664) C dL_law_429 (by decide) ?_
          refine w_sep C (fun hE => ?_)
          exact w_sub [2, 3, 4, 5, 6] rfl (kk _ (lwI_mk hN1 hm hv2 hE ho1 hn2))
        · exact absurd (lgc _) c3
    · exact absurd h192 c1
set_option maxHeartbeats 4000000 in
set_option maxRecDepth 100000 in
theorem lw_round {p : Program} {l : Launch} {e : Env} {s : State} {m : MethodId} {below : List Frame} {meth : Method} {c : Code} {G : Gx} {Q : State → Prop} {b L k x mo o : Nat} {xs : Nat → Int32} {z : Sto} (C : Cx p s m #[Value.ref b] meth c cL_law 7 wsL_law RL ret G) (hX : va_X b L xs s s.heap) (hbl : b < s.heap.size) (hGs : G.2.2.1 = s.heap.size) (hL : L ≤ 2048) (hl9 : l.stackTraces = false) (hk : 4 * k + 4 ≤ L) (hI : lwI G z x mo o) (kk : ∀ z', lwI G z' x mo o → Wp p l e room_1 s m #[Value.ref b] below meth c G 7 (20 + 901 * (k + 1)) (11500 + 3602 * (k + 1)) Q z' 664 [(4, .int (nI (4 * k))), (3, .ref o), (2, .ref mo), (1, .ref x), (0, .ref b)] []) : Wp p l e room_1 s m #[Value.ref b] below meth c G 7 (20 + 901 * k) (11500 + 3602 * k) Q z 432 [(4, .int (nI (4 * k))), (3, .ref o), (2, .ref mo), (1, .ref x), (0, .ref b)] [] := by
  obtain ⟨gl, pt, ol, ga, N, A, I, M, h, h0, hv, ho, hn1⟩ := hI
  have hO := h.1
  have hn := hO.1
  have hk5 : k < 512 := by omega
  by_cases hj : xs (4 * k + 1) < 0 ∨ nI (nN N) ≤ xs (4 * k + 1)
  ·
    refine w_aload_n C 3 dL_law_432 rfl rfl (by first | rfl | exact isRef_rf _) ?_
    refine w_aload_n C 4 dL_law_433 rfl rfl (by first | rfl | exact isRef_rf _) ?_
    refine w_iload C 0 dL_law_434 rfl ?_
    refine w_iconst (v := 1) C dL_law_436 (by decide) ?_
    refine w_iadd C dL_law_437 ?_
    refine w_sld (n := 4 * k + 1) C hX hbl hGs hL (show nI (4 * k) + 1 = nI (4 * k + 1) from nI_p (4 * k) 1) (by omega) dL_law_438 ?_
    refine w_aload_n C 1 dL_law_439 rfl rfl (by first | rfl | exact isRef_rf _) ?_
    refine w_callSW (As := [.ref x, .int (xs (4 * k + 1)), .ref o]) (rest := []) C (vx_cwSW 3 C.1.2.2.2.2 gL_law_L_round rfl rfl rfl (by decide +kernel) ⟨Nat.le_of_ble_eq_true rfl, Nat.le_of_ble_eq_true rfl⟩) rfl rfl (by first | decide | simp [cat_ref, cat_null, cat_int, cat_long, rf_cat]) dL_law_440 (hfW hk5 (by decide) (by decide)) (x_Lround l G z hl9 h hj) (fun rv z1 h9 => ?_)
    obtain ⟨rfl, e9⟩ := h9
    replace e9 := e9.symm
    subst e9
    have hN1 := h
    have h01 := h0
    have hv1 := hv
    have ho1 := ho
    have hn2 := hn1
    refine w_widen (k := 20 + 901 * (k + 1)) (n := 11500 + 3602 * (k + 1)) (wdW (by decide)) (wdS (by decide)) ?_
    refine w_istoreB (lvq := [(5, _), (4, _), (3, _), (2, _), (1, _), (0, _)]) C 0 rfl rfl (by first | rfl | exact rf_cat _) dL_law_443 (by decide) rfl ?_
    refine w_aload_n C 3 dL_law_445 rfl rfl (by first | rfl | exact isRef_rf _) ?_
    refine w_aload_n C 5 dL_law_446 rfl rfl (by first | rfl | exact isRef_rf _) ?_
    refine w_iload C 1 dL_law_447 rfl ?_
    refine w_iconst (v := 1) C dL_law_449 (by decide) ?_
    refine w_iadd C dL_law_450 ?_
    refine w_sld (n := 4 * k + 1) C hX hbl hGs hL (show nI (4 * k) + 1 = nI (4 * k + 1) from nI_p (4 * k) 1) (by omega) dL_law_451 ?_
    refine w_callV (ci := 6) (As := [.int (xs (4 * k + 1))]) (rest := []) C (cwV 1 C.1.2.2.2.2 gL_law_X5_round rfl rfl rfl (by decide +kernel) ⟨Nat.le_of_ble_eq_true rfl, Nat.le_of_ble_eq_true rfl⟩) h01.1 rfl (by decide) rfl rfl (by first | decide | simp [cat_ref, cat_null, cat_int, cat_long, rf_cat]) dL_law_452 (hfM hk5 rfl rfl) (x_mround l G _ h01 hv1 hO hj) (fun rv z2 h9 => ?_)
    obtain ⟨⟨v2, rfl⟩, hm⟩ := h9
    have h192 : va_up I 192 1 192 = 1 := if_pos rfl
    have hv2 := hv1.P (f := 192) 1 (by decide) (by decide) (by decide)
    refine w_widen (k := 20 + 901 * (k + 1)) (n := 11500 + 3602 * (k + 1)) (wdM rfl) (wdM rfl) ?_
    refine w_istoreB (lvq := [(6, _), (5, _), (4, _), (3, _), (2, _), (1, _), (0, _)]) C 0 rfl rfl (by first | rfl | exact rf_cat _) dL_law_455 (by decide) rfl ?_
    refine w_aload_n C 4 dL_law_457 rfl rfl (by first | rfl | exact isRef_rf _) ?_
    refine w_callV (ci := 6) (As := []) (rest := []) C (cwV 0 C.1.2.2.2.2 gL_law_X5_thrown rfl rfl rfl (by decide +kernel) ⟨Nat.le_of_ble_eq_true rfl, Nat.le_of_ble_eq_true rfl⟩) hm.2.1 rfl (by decide) rfl rfl (by first | decide | simp [cat_ref, cat_null, cat_int, cat_long, rf_cat]) dL_law_458 (hfM hk5 rfl rfl) (c_mThrown l G _ hm.2) (fun rv z3 h9 => ?_)
    obtain ⟨rfl, e9⟩ := h9
    replace e9 := e9.symm
    subst e9
    refine w_widen (k := 20 + 901 * (k + 1)) (n := 11500 + 3602 * (k + 1)) (wdM rfl) (wdM rfl) ?_
    refine w_iload C 1 dL_law_461 rfl ?_
    refine w_icmp_eq (tgt := 468) C dL_law_463 (by decide) (fun c1 => ?_) (fun c1 => ?_)
    · refine w_iload C 1 dL_law_468 rfl ?_
      refine w_if_ne (tgt := 485) C dL_law_470 (by decide) (fun c2 => ?_) (fun c2 => ?_)
      · refine w_goto (tgt := 664) C dL_law_485 (by decide) ?_
        refine w_sep C (fun hE => ?_)
        exact w_sub [2, 3, 4, 5, 6] rfl (kk _ (lwI_mk hN1 hm hv2 hE ho1 hn2))
      · exact absurd c2 (by decide)
    · exact absurd h192 c1
  · obtain ⟨i, hi, e1⟩ := idx_of hn hj
    have hX1 : xs (4 * k + 1) = nI i := e1
    refine w_aload_n C 3 dL_law_432 rfl rfl (by first | rfl | exact isRef_rf _) ?_
    refine w_aload_n C 4 dL_law_433 rfl rfl (by first | rfl | exact isRef_rf _) ?_
    refine w_iload C 0 dL_law_434 rfl ?_
    refine w_iconst (v := 1) C dL_law_436 (by decide) ?_
    refine w_iadd C dL_law_437 ?_
    refine w_sld (n := 4 * k + 1) C hX hbl hGs hL (show nI (4 * k) + 1 = nI (4 * k + 1) from nI_p (4 * k) 1) (by omega) dL_law_438 ?_
    rw [hX1]
    refine w_aload_n C 1 dL_law_439 rfl rfl (by first | rfl | exact isRef_rf _) ?_
    refine w_callSW (As := [.ref x, .int (nI i), .ref o]) (rest := []) C (vx_cwSW 3 C.1.2.2.2.2 gL_law_L_round rfl rfl rfl (by decide +kernel) ⟨Nat.le_of_ble_eq_true rfl, Nat.le_of_ble_eq_true rfl⟩) rfl rfl (by first | decide | simp [cat_ref, cat_null, cat_int, cat_long, rf_cat]) dL_law_440 (hfW hk5 (by decide) (by decide)) (c_Lround l G z h hi ho hn1) (fun rv z1 h9 => ?_)
    obtain ⟨rfl, hlF, hN1, hF1⟩ := h9
    have ho1 := hlF.1 _ _ ho
    have hn2 : sN z1 o = 1 := (hlF.2.2.2 o ho.1).1.trans hn1
    obtain ⟨h01, hII⟩ := mst_lF h0 hlF
    have hv1 : mv (fun f => sI z1 f mo) M N := mv_cg hv hII
    refine w_widen (k := 20 + 901 * (k + 1)) (n := 11500 + 3602 * (k + 1)) (wdW (by decide)) (wdS (by decide)) ?_
    refine w_istoreB (lvq := [(5, _), (4, _), (3, _), (2, _), (1, _), (0, _)]) C 0 rfl rfl (by first | rfl | exact rf_cat _) dL_law_443 (by decide) rfl ?_
    refine w_aload_n C 3 dL_law_445 rfl rfl (by first | rfl | exact isRef_rf _) ?_
    refine w_aload_n C 5 dL_law_446 rfl rfl (by first | rfl | exact isRef_rf _) ?_
    refine w_iload C 1 dL_law_447 rfl ?_
    refine w_iconst (v := 1) C dL_law_449 (by decide) ?_
    refine w_iadd C dL_law_450 ?_
    refine w_sld (n := 4 * k + 1) C hX hbl hGs hL (show nI (4 * k) + 1 = nI (4 * k + 1) from nI_p (4 * k) 1) (by omega) dL_law_451 ?_
    rw [hX1]
    refine w_callV (ci := 6) (As := [.int (nI i)]) (rest := []) C (cwV 1 C.1.2.2.2.2 gL_law_X5_round rfl rfl rfl (by decide +kernel) ⟨Nat.le_of_ble_eq_true rfl, Nat.le_of_ble_eq_true rfl⟩) h01.1 rfl (by decide) rfl rfl (by first | decide | simp [cat_ref, cat_null, cat_int, cat_long, rf_cat]) dL_law_452 (hfM hk5 rfl rfl) (c_mround l G _ h01 hv1 hO hi) (fun rv z2 h9 => ?_)
    obtain ⟨I2, M2, hm, h192, rfl, hv2⟩ := h9
    refine w_widen (k := 20 + 901 * (k + 1)) (n := 11500 + 3602 * (k + 1)) (wdM rfl) (wdM rfl) ?_
    refine w_istoreB (lvq := [(6, _), (5, _), (4, _), (3, _), (2, _), (1, _), (0, _)]) C 0 rfl rfl (by first | rfl | exact rf_cat _) dL_law_455 (by decide) rfl ?_
    refine w_aload_n C 4 dL_law_457 rfl rfl (by first | rfl | exact isRef_rf _) ?_
    refine w_callV (ci := 6) (As := []) (rest := []) C (cwV 0 C.1.2.2.2.2 gL_law_X5_thrown rfl rfl rfl (by decide +kernel) ⟨Nat.le_of_ble_eq_true rfl, Nat.le_of_ble_eq_true rfl⟩) hm.2.1 rfl (by decide) rfl rfl (by first | decide | simp [cat_ref, cat_null, cat_int, cat_long, rf_cat]) dL_law_458 (hfM hk5 rfl rfl) (c_mThrown l G _ hm.2) (fun rv z3 h9 => ?_)
    obtain ⟨rfl, e9⟩ := h9
    replace e9 := e9.symm
    subst e9
    refine w_widen (k := 20 + 901 * (k + 1)) (n := 11500 + 3602 * (k + 1)) (wdM rfl) (wdM rfl) ?_
    refine w_iload C 1 dL_law_461 rfl ?_
    refine w_icmp_eq (tgt := 468) C dL_law_463 (by decide) (fun c1 => ?_) (fun c1 => ?_)
    · refine w_iload C 1 dL_law_468 rfl ?_
      refine w_if_ne (tgt := 485) C dL_law_470 (by decide) (fun c2 => ?_) (fun c2 => ?_)
      · exact absurd rfl c2
      · refine w_aload_n C 3 dL_law_473 rfl rfl (by first | rfl | exact isRef_rf _) ?_
        refine w_iconst (v := 0) C dL_law_474 (by decide) ?_
        refine w_lald C dL_law_475 (hm.mkF.1 _ _ ho1) (show (0 : Int32) = nI 0 from rfl) (by rw [(hm.mkF.2.2.2 o ho1.1).1, hn2]; decide) (by rw [(hm.mkF.2.2.2 o ho1.1).1, hn2]; decide) ((congrFun (congrFun hm.F o) 0).trans hF1) ?_
        refine w_iload C 0 dL_law_476 rfl ?_
        refine w_i2l C dL_law_478 rfl ?_
        refine w_lcmp C dL_law_479 ?_
        refine w_if_eq (tgt := 485) C dL_law_480 (by decide) (fun c3 => ?_) (fun c3 => ?_)
        · refine w_goto (tgt := 664) C dL_law_485 (by decide) ?_
          refine w_sep C (fun hE => ?_)
          exact w_sub [2, 3, 4, 5, 6] rfl (kk _ (lwI_mk hN1 hm hv2 hE ho1 hn2))
        · exact absurd (lgc _) c3
    · exact absurd h192 c1
set_option maxHeartbeats 4000000 in
set_option maxRecDepth 100000 in
theorem lw_cut {p : Program} {l : Launch} {e : Env} {s : State} {m : MethodId} {below : List Frame} {meth : Method} {c : Code} {G : Gx} {Q : State → Prop} {b L k x mo o : Nat} {xs : Nat → Int32} {z : Sto} (C : Cx p s m #[Value.ref b] meth c cL_law 7 wsL_law RL ret G) (hX : va_X b L xs s s.heap) (hbl : b < s.heap.size) (hGs : G.2.2.1 = s.heap.size) (hL : L ≤ 2048) (hl9 : l.stackTraces = false) (hk : 4 * k + 4 ≤ L) (hI : lwI G z x mo o) (kk : ∀ z', lwI G z' x mo o → Wp p l e room_1 s m #[Value.ref b] below meth c G 7 (20 + 901 * (k + 1)) (11500 + 3602 * (k + 1)) Q z' 664 [(4, .int (nI (4 * k))), (3, .ref o), (2, .ref mo), (1, .ref x), (0, .ref b)] []) : Wp p l e room_1 s m #[Value.ref b] below meth c G 7 (20 + 901 * k) (11500 + 3602 * k) Q z 252 [(4, .int (nI (4 * k))), (3, .ref o), (2, .ref mo), (1, .ref x), (0, .ref b)] [] := by
  obtain ⟨gl, pt, ol, ga, N, A, I, M, h, h0, hv, ho, hn1⟩ := hI
  have hO := h.1
  have hn := hO.1
  have hk5 : k < 512 := by omega
  by_cases hj : xs (4 * k + 1) < 0 ∨ nI (nN N) ≤ xs (4 * k + 1)
  ·
    refine w_aload_n C 3 dL_law_252 rfl rfl (by first | rfl | exact isRef_rf _) ?_
    refine w_aload_n C 4 dL_law_253 rfl rfl (by first | rfl | exact isRef_rf _) ?_
    refine w_iload C 0 dL_law_254 rfl ?_
    refine w_iconst (v := 1) C dL_law_256 (by decide) ?_
    refine w_iadd C dL_law_257 ?_
    refine w_sld (n := 4 * k + 1) C hX hbl hGs hL (show nI (4 * k) + 1 = nI (4 * k + 1) from nI_p (4 * k) 1) (by omega) dL_law_258 ?_
    refine w_aload_n C 1 dL_law_259 rfl rfl (by first | rfl | exact isRef_rf _) ?_
    refine w_callSW (As := [.ref x, .int (xs (4 * k + 1)), .ref o]) (rest := []) C (vx_cwSW 3 C.1.2.2.2.2 gL_law_L_cut rfl rfl rfl (by decide +kernel) ⟨Nat.le_of_ble_eq_true rfl, Nat.le_of_ble_eq_true rfl⟩) rfl rfl (by first | decide | simp [cat_ref, cat_null, cat_int, cat_long, rf_cat]) dL_law_260 (hfW hk5 (by decide) (by decide)) (x_Lcut l G z hl9 h hj) (fun rv z1 h9 => ?_)
    obtain ⟨rfl, e9⟩ := h9
    replace e9 := e9.symm
    subst e9
    have hN1 := h
    have h01 := h0
    have hv1 := hv
    have ho1 := ho
    have hn2 := hn1
    refine w_widen (k := 20 + 901 * (k + 1)) (n := 11500 + 3602 * (k + 1)) (wdW (by decide)) (wdS (by decide)) ?_
    refine w_istoreB (lvq := [(5, _), (4, _), (3, _), (2, _), (1, _), (0, _)]) C 0 rfl rfl (by first | rfl | exact rf_cat _) dL_law_263 (by decide) rfl ?_
    refine w_aload_n C 3 dL_law_265 rfl rfl (by first | rfl | exact isRef_rf _) ?_
    refine w_aload_n C 5 dL_law_266 rfl rfl (by first | rfl | exact isRef_rf _) ?_
    refine w_iload C 1 dL_law_267 rfl ?_
    refine w_iconst (v := 1) C dL_law_269 (by decide) ?_
    refine w_iadd C dL_law_270 ?_
    refine w_sld (n := 4 * k + 1) C hX hbl hGs hL (show nI (4 * k) + 1 = nI (4 * k + 1) from nI_p (4 * k) 1) (by omega) dL_law_271 ?_
    refine w_callV (ci := 6) (As := [.int (xs (4 * k + 1))]) (rest := []) C (cwV 1 C.1.2.2.2.2 gL_law_X5_cut rfl rfl rfl (by decide +kernel) ⟨Nat.le_of_ble_eq_true rfl, Nat.le_of_ble_eq_true rfl⟩) h01.1 rfl (by decide) rfl rfl (by first | decide | simp [cat_ref, cat_null, cat_int, cat_long, rf_cat]) dL_law_272 (hfM hk5 rfl rfl) (x_mcut l G _ h01 hv1 hO hj) (fun rv z2 h9 => ?_)
    obtain ⟨⟨v2, rfl⟩, hm⟩ := h9
    have h192 : va_up I 192 1 192 = 1 := if_pos rfl
    have hv2 := hv1.P (f := 192) 1 (by decide) (by decide) (by decide)
    refine w_widen (k := 20 + 901 * (k + 1)) (n := 11500 + 3602 * (k + 1)) (wdM rfl) (wdM rfl) ?_
    refine w_istoreB (lvq := [(6, _), (5, _), (4, _), (3, _), (2, _), (1, _), (0, _)]) C 0 rfl rfl (by first | rfl | exact rf_cat _) dL_law_275 (by decide) rfl ?_
    refine w_aload_n C 4 dL_law_277 rfl rfl (by first | rfl | exact isRef_rf _) ?_
    refine w_callV (ci := 6) (As := []) (rest := []) C (cwV 0 C.1.2.2.2.2 gL_law_X5_thrown rfl rfl rfl (by decide +kernel) ⟨Nat.le_of_ble_eq_true rfl, Nat.le_of_ble_eq_true rfl⟩) hm.2.1 rfl (by decide) rfl rfl (by first | decide | simp [cat_ref, cat_null, cat_int, cat_long, rf_cat]) dL_law_278 (hfM hk5 rfl rfl) (c_mThrown l G _ hm.2) (fun rv z3 h9 => ?_)
    obtain ⟨rfl, e9⟩ := h9
    replace e9 := e9.symm
    subst e9
    refine w_widen (k := 20 + 901 * (k + 1)) (n := 11500 + 3602 * (k + 1)) (wdM rfl) (wdM rfl) ?_
    refine w_iload C 1 dL_law_281 rfl ?_
    refine w_icmp_eq (tgt := 288) C dL_law_283 (by decide) (fun c1 => ?_) (fun c1 => ?_)
    · refine w_iload C 1 dL_law_288 rfl ?_
      refine w_if_ne (tgt := 305) C dL_law_290 (by decide) (fun c2 => ?_) (fun c2 => ?_)
      · refine w_goto (tgt := 664) C dL_law_305 (by decide) ?_
        refine w_sep C (fun hE => ?_)
        exact w_sub [2, 3, 4, 5, 6] rfl (kk _ (lwI_mk hN1 hm hv2 hE ho1 hn2))
      · exact absurd c2 (by decide)
    · exact absurd h192 c1
  · obtain ⟨i, hi, e1⟩ := idx_of hn hj
    have hX1 : xs (4 * k + 1) = nI i := e1
    refine w_aload_n C 3 dL_law_252 rfl rfl (by first | rfl | exact isRef_rf _) ?_
    refine w_aload_n C 4 dL_law_253 rfl rfl (by first | rfl | exact isRef_rf _) ?_
    refine w_iload C 0 dL_law_254 rfl ?_
    refine w_iconst (v := 1) C dL_law_256 (by decide) ?_
    refine w_iadd C dL_law_257 ?_
    refine w_sld (n := 4 * k + 1) C hX hbl hGs hL (show nI (4 * k) + 1 = nI (4 * k + 1) from nI_p (4 * k) 1) (by omega) dL_law_258 ?_
    rw [hX1]
    refine w_aload_n C 1 dL_law_259 rfl rfl (by first | rfl | exact isRef_rf _) ?_
    refine w_callSW (As := [.ref x, .int (nI i), .ref o]) (rest := []) C (vx_cwSW 3 C.1.2.2.2.2 gL_law_L_cut rfl rfl rfl (by decide +kernel) ⟨Nat.le_of_ble_eq_true rfl, Nat.le_of_ble_eq_true rfl⟩) rfl rfl (by first | decide | simp [cat_ref, cat_null, cat_int, cat_long, rf_cat]) dL_law_260 (hfW hk5 (by decide) (by decide)) (c_Lcut l G z h hi ho hn1) (fun rv z1 h9 => ?_)
    obtain ⟨rfl, hlF, hN1, hF1⟩ := h9
    have ho1 := hlF.1 _ _ ho
    have hn2 : sN z1 o = 1 := (hlF.2.2.2 o ho.1).1.trans hn1
    obtain ⟨h01, hII⟩ := mst_lF h0 hlF
    have hv1 : mv (fun f => sI z1 f mo) M N := mv_cg hv hII
    refine w_widen (k := 20 + 901 * (k + 1)) (n := 11500 + 3602 * (k + 1)) (wdW (by decide)) (wdS (by decide)) ?_
    refine w_istoreB (lvq := [(5, _), (4, _), (3, _), (2, _), (1, _), (0, _)]) C 0 rfl rfl (by first | rfl | exact rf_cat _) dL_law_263 (by decide) rfl ?_
    refine w_aload_n C 3 dL_law_265 rfl rfl (by first | rfl | exact isRef_rf _) ?_
    refine w_aload_n C 5 dL_law_266 rfl rfl (by first | rfl | exact isRef_rf _) ?_
    refine w_iload C 1 dL_law_267 rfl ?_
    refine w_iconst (v := 1) C dL_law_269 (by decide) ?_
    refine w_iadd C dL_law_270 ?_
    refine w_sld (n := 4 * k + 1) C hX hbl hGs hL (show nI (4 * k) + 1 = nI (4 * k + 1) from nI_p (4 * k) 1) (by omega) dL_law_271 ?_
    rw [hX1]
    refine w_callV (ci := 6) (As := [.int (nI i)]) (rest := []) C (cwV 1 C.1.2.2.2.2 gL_law_X5_cut rfl rfl rfl (by decide +kernel) ⟨Nat.le_of_ble_eq_true rfl, Nat.le_of_ble_eq_true rfl⟩) h01.1 rfl (by decide) rfl rfl (by first | decide | simp [cat_ref, cat_null, cat_int, cat_long, rf_cat]) dL_law_272 (hfM hk5 rfl rfl) (c_mcut l G _ h01 hv1 hO hi) (fun rv z2 h9 => ?_)
    obtain ⟨I2, M2, hm, h192, rfl, hv2⟩ := h9
    refine w_widen (k := 20 + 901 * (k + 1)) (n := 11500 + 3602 * (k + 1)) (wdM rfl) (wdM rfl) ?_
    refine w_istoreB (lvq := [(6, _), (5, _), (4, _), (3, _), (2, _), (1, _), (0, _)]) C 0 rfl rfl (by first | rfl | exact rf_cat _) dL_law_275 (by decide) rfl ?_
    refine w_aload_n C 4 dL_law_277 rfl rfl (by first | rfl | exact isRef_rf _) ?_
    refine w_callV (ci := 6) (As := []) (rest := []) C (cwV 0 C.1.2.2.2.2 gL_law_X5_thrown rfl rfl rfl (by decide +kernel) ⟨Nat.le_of_ble_eq_true rfl, Nat.le_of_ble_eq_true rfl⟩) hm.2.1 rfl (by decide) rfl rfl (by first | decide | simp [cat_ref, cat_null, cat_int, cat_long, rf_cat]) dL_law_278 (hfM hk5 rfl rfl) (c_mThrown l G _ hm.2) (fun rv z3 h9 => ?_)
    obtain ⟨rfl, e9⟩ := h9
    replace e9 := e9.symm
    subst e9
    refine w_widen (k := 20 + 901 * (k + 1)) (n := 11500 + 3602 * (k + 1)) (wdM rfl) (wdM rfl) ?_
    refine w_iload C 1 dL_law_281 rfl ?_
    refine w_icmp_eq (tgt := 288) C dL_law_283 (by decide) (fun c1 => ?_) (fun c1 => ?_)
    · refine w_iload C 1 dL_law_288 rfl ?_
      refine w_if_ne (tgt := 305) C dL_law_290 (by decide) (fun c2 => ?_) (fun c2 => ?_)
      · exact absurd rfl c2
      · refine w_aload_n C 3 dL_law_293 rfl rfl (by first | rfl | exact isRef_rf _) ?_
        refine w_iconst (v := 0) C dL_law_294 (by decide) ?_
        refine w_lald C dL_law_295 (hm.mkF.1 _ _ ho1) (show (0 : Int32) = nI 0 from rfl) (by rw [(hm.mkF.2.2.2 o ho1.1).1, hn2]; decide) (by rw [(hm.mkF.2.2.2 o ho1.1).1, hn2]; decide) ((congrFun (congrFun hm.F o) 0).trans hF1) ?_
        refine w_iload C 0 dL_law_296 rfl ?_
        refine w_i2l C dL_law_298 rfl ?_
        refine w_lcmp C dL_law_299 ?_
        refine w_if_eq (tgt := 305) C dL_law_300 (by decide) (fun c3 => ?_) (fun c3 => ?_)
        · refine w_goto (tgt := 664) C dL_law_305 (by decide) ?_
          refine w_sep C (fun hE => ?_)
          exact w_sub [2, 3, 4, 5, 6] rfl (kk _ (lwI_mk hN1 hm hv2 hE ho1 hn2))
        · exact absurd (lgc _) c3
    · exact absurd h192 c1
set_option maxHeartbeats 4000000 in
set_option maxRecDepth 100000 in
theorem lw_blame {p : Program} {l : Launch} {e : Env} {s : State} {m : MethodId} {below : List Frame} {meth : Method} {c : Code} {G : Gx} {Q : State → Prop} {b L k x mo o : Nat} {xs : Nat → Int32} {z : Sto} (C : Cx p s m #[Value.ref b] meth c cL_law 7 wsL_law RL ret G) (hX : va_X b L xs s s.heap) (hbl : b < s.heap.size) (hGs : G.2.2.1 = s.heap.size) (hL : L ≤ 2048) (hl9 : l.stackTraces = false) (hk : 4 * k + 4 ≤ L) (hI : lwI G z x mo o) (kk : ∀ z', lwI G z' x mo o → Wp p l e room_1 s m #[Value.ref b] below meth c G 7 (20 + 901 * (k + 1)) (11500 + 3602 * (k + 1)) Q z' 664 [(4, .int (nI (4 * k))), (3, .ref o), (2, .ref mo), (1, .ref x), (0, .ref b)] []) : Wp p l e room_1 s m #[Value.ref b] below meth c G 7 (20 + 901 * k) (11500 + 3602 * k) Q z 514 [(4, .int (nI (4 * k))), (3, .ref o), (2, .ref mo), (1, .ref x), (0, .ref b)] [] := by
  obtain ⟨gl, pt, ol, ga, N, A, I, M, h, h0, hv, ho, hn1⟩ := hI
  have hO := h.1
  have hn := hO.1
  have hk5 : k < 512 := by omega
  by_cases hj : xs (4 * k + 1) < 0 ∨ nI (nN N) ≤ xs (4 * k + 1)
  ·
    refine w_aload_n C 3 dL_law_514 rfl rfl (by first | rfl | exact isRef_rf _) ?_
    refine w_aload_n C 4 dL_law_515 rfl rfl (by first | rfl | exact isRef_rf _) ?_
    refine w_iload C 0 dL_law_516 rfl ?_
    refine w_iconst (v := 1) C dL_law_518 (by decide) ?_
    refine w_iadd C dL_law_519 ?_
    refine w_sld (n := 4 * k + 1) C hX hbl hGs hL (show nI (4 * k) + 1 = nI (4 * k + 1) from nI_p (4 * k) 1) (by omega) dL_law_520 ?_
    refine w_aload_n C 1 dL_law_521 rfl rfl (by first | rfl | exact isRef_rf _) ?_
    refine w_callSW (As := [.ref x, .int (xs (4 * k + 1)), .ref o]) (rest := []) C (vx_cwSW 3 C.1.2.2.2.2 gL_law_L_blame rfl rfl rfl (by decide +kernel) ⟨Nat.le_of_ble_eq_true rfl, Nat.le_of_ble_eq_true rfl⟩) rfl rfl (by first | decide | simp [cat_ref, cat_null, cat_int, cat_long, rf_cat]) dL_law_522 (hfW hk5 (by decide) (by decide)) (x_Lblame l G z hl9 h hj) (fun rv z1 h9 => ?_)
    obtain ⟨rfl, e9⟩ := h9
    replace e9 := e9.symm
    subst e9
    have hN1 := h
    have h01 := h0
    have hv1 := hv
    have ho1 := ho
    have hn2 := hn1
    refine w_widen (k := 20 + 901 * (k + 1)) (n := 11500 + 3602 * (k + 1)) (wdW (by decide)) (wdS (by decide)) ?_
    refine w_istoreB (lvq := [(5, _), (4, _), (3, _), (2, _), (1, _), (0, _)]) C 0 rfl rfl (by first | rfl | exact rf_cat _) dL_law_525 (by decide) rfl ?_
    refine w_aload_n C 3 dL_law_527 rfl rfl (by first | rfl | exact isRef_rf _) ?_
    refine w_aload_n C 5 dL_law_528 rfl rfl (by first | rfl | exact isRef_rf _) ?_
    refine w_iload C 1 dL_law_529 rfl ?_
    refine w_iconst (v := 1) C dL_law_531 (by decide) ?_
    refine w_iadd C dL_law_532 ?_
    refine w_sld (n := 4 * k + 1) C hX hbl hGs hL (show nI (4 * k) + 1 = nI (4 * k + 1) from nI_p (4 * k) 1) (by omega) dL_law_533 ?_
    refine w_callV (ci := 6) (As := [.int (xs (4 * k + 1))]) (rest := []) C (cwV 1 C.1.2.2.2.2 gL_law_X5_blame rfl rfl rfl (by decide +kernel) ⟨Nat.le_of_ble_eq_true rfl, Nat.le_of_ble_eq_true rfl⟩) h01.1 rfl (by decide) rfl rfl (by first | decide | simp [cat_ref, cat_null, cat_int, cat_long, rf_cat]) dL_law_534 (hfM hk5 rfl rfl) (x_mblame l G _ h01 hv1 hO hj) (fun rv z2 h9 => ?_)
    obtain ⟨⟨v2, rfl⟩, hm⟩ := h9
    have h192 : va_up I 192 1 192 = 1 := if_pos rfl
    have hv2 := hv1.P (f := 192) 1 (by decide) (by decide) (by decide)
    refine w_widen (k := 20 + 901 * (k + 1)) (n := 11500 + 3602 * (k + 1)) (wdM rfl) (wdM rfl) ?_
    refine w_istoreB (lvq := [(6, _), (5, _), (4, _), (3, _), (2, _), (1, _), (0, _)]) C 0 rfl rfl (by first | rfl | exact rf_cat _) dL_law_537 (by decide) rfl ?_
    refine w_aload_n C 4 dL_law_539 rfl rfl (by first | rfl | exact isRef_rf _) ?_
    refine w_callV (ci := 6) (As := []) (rest := []) C (cwV 0 C.1.2.2.2.2 gL_law_X5_thrown rfl rfl rfl (by decide +kernel) ⟨Nat.le_of_ble_eq_true rfl, Nat.le_of_ble_eq_true rfl⟩) hm.2.1 rfl (by decide) rfl rfl (by first | decide | simp [cat_ref, cat_null, cat_int, cat_long, rf_cat]) dL_law_540 (hfM hk5 rfl rfl) (c_mThrown l G _ hm.2) (fun rv z3 h9 => ?_)
    obtain ⟨rfl, e9⟩ := h9
    replace e9 := e9.symm
    subst e9
    refine w_widen (k := 20 + 901 * (k + 1)) (n := 11500 + 3602 * (k + 1)) (wdM rfl) (wdM rfl) ?_
    refine w_iload C 1 dL_law_543 rfl ?_
    refine w_icmp_eq (tgt := 550) C dL_law_545 (by decide) (fun c1 => ?_) (fun c1 => ?_)
    · refine w_iload C 1 dL_law_550 rfl ?_
      refine w_if_ne (tgt := 567) C dL_law_552 (by decide) (fun c2 => ?_) (fun c2 => ?_)
      · refine w_goto (tgt := 664) C dL_law_567 (by decide) ?_
        refine w_sep C (fun hE => ?_)
        exact w_sub [2, 3, 4, 5, 6] rfl (kk _ (lwI_mk hN1 hm hv2 hE ho1 hn2))
      · exact absurd c2 (by decide)
    · exact absurd h192 c1
  · obtain ⟨i, hi, e1⟩ := idx_of hn hj
    have hX1 : xs (4 * k + 1) = nI i := e1
    refine w_aload_n C 3 dL_law_514 rfl rfl (by first | rfl | exact isRef_rf _) ?_
    refine w_aload_n C 4 dL_law_515 rfl rfl (by first | rfl | exact isRef_rf _) ?_
    refine w_iload C 0 dL_law_516 rfl ?_
    refine w_iconst (v := 1) C dL_law_518 (by decide) ?_
    refine w_iadd C dL_law_519 ?_
    refine w_sld (n := 4 * k + 1) C hX hbl hGs hL (show nI (4 * k) + 1 = nI (4 * k + 1) from nI_p (4 * k) 1) (by omega) dL_law_520 ?_
    rw [hX1]
    refine w_aload_n C 1 dL_law_521 rfl rfl (by first | rfl | exact isRef_rf _) ?_
    refine w_callSW (As := [.ref x, .int (nI i), .ref o]) (rest := []) C (vx_cwSW 3 C.1.2.2.2.2 gL_law_L_blame rfl rfl rfl (by decide +kernel) ⟨Nat.le_of_ble_eq_true rfl, Nat.le_of_ble_eq_true rfl⟩) rfl rfl (by first | decide | simp [cat_ref, cat_null, cat_int, cat_long, rf_cat]) dL_law_522 (hfW hk5 (by decide) (by decide)) (c_Lblame l G z h hi ho hn1) (fun rv z1 h9 => ?_)
    obtain ⟨rfl, hlF, hN1, r1, hr1, hF1⟩ := h9
    have ho1 := hlF.1 _ _ ho
    have hn2 : sN z1 o = 1 := (hlF.2.2.2 o ho.1).1.trans hn1
    obtain ⟨h01, hII⟩ := mst_lF h0 hlF
    have hv1 : mv (fun f => sI z1 f mo) M N := mv_cg hv hII
    refine w_widen (k := 20 + 901 * (k + 1)) (n := 11500 + 3602 * (k + 1)) (wdW (by decide)) (wdS (by decide)) ?_
    refine w_istoreB (lvq := [(5, _), (4, _), (3, _), (2, _), (1, _), (0, _)]) C 0 rfl rfl (by first | rfl | exact rf_cat _) dL_law_525 (by decide) rfl ?_
    refine w_aload_n C 3 dL_law_527 rfl rfl (by first | rfl | exact isRef_rf _) ?_
    refine w_aload_n C 5 dL_law_528 rfl rfl (by first | rfl | exact isRef_rf _) ?_
    refine w_iload C 1 dL_law_529 rfl ?_
    refine w_iconst (v := 1) C dL_law_531 (by decide) ?_
    refine w_iadd C dL_law_532 ?_
    refine w_sld (n := 4 * k + 1) C hX hbl hGs hL (show nI (4 * k) + 1 = nI (4 * k + 1) from nI_p (4 * k) 1) (by omega) dL_law_533 ?_
    rw [hX1]
    refine w_callV (ci := 6) (As := [.int (nI i)]) (rest := []) C (cwV 1 C.1.2.2.2.2 gL_law_X5_blame rfl rfl rfl (by decide +kernel) ⟨Nat.le_of_ble_eq_true rfl, Nat.le_of_ble_eq_true rfl⟩) h01.1 rfl (by decide) rfl rfl (by first | decide | simp [cat_ref, cat_null, cat_int, cat_long, rf_cat]) dL_law_534 (hfM hk5 rfl rfl) (c_mblame l G _ h01 hv1 hO hi) (fun rv z2 h9 => ?_)
    obtain ⟨r2, rfl, I2, M2, hm, h192, hr2, hv2⟩ := h9
    have er := isBlm_uniq hr1 hr2
    subst er
    refine w_widen (k := 20 + 901 * (k + 1)) (n := 11500 + 3602 * (k + 1)) (wdM rfl) (wdM rfl) ?_
    refine w_istoreB (lvq := [(6, _), (5, _), (4, _), (3, _), (2, _), (1, _), (0, _)]) C 0 rfl rfl (by first | rfl | exact rf_cat _) dL_law_537 (by decide) rfl ?_
    refine w_aload_n C 4 dL_law_539 rfl rfl (by first | rfl | exact isRef_rf _) ?_
    refine w_callV (ci := 6) (As := []) (rest := []) C (cwV 0 C.1.2.2.2.2 gL_law_X5_thrown rfl rfl rfl (by decide +kernel) ⟨Nat.le_of_ble_eq_true rfl, Nat.le_of_ble_eq_true rfl⟩) hm.2.1 rfl (by decide) rfl rfl (by first | decide | simp [cat_ref, cat_null, cat_int, cat_long, rf_cat]) dL_law_540 (hfM hk5 rfl rfl) (c_mThrown l G _ hm.2) (fun rv z3 h9 => ?_)
    obtain ⟨rfl, e9⟩ := h9
    replace e9 := e9.symm
    subst e9
    refine w_widen (k := 20 + 901 * (k + 1)) (n := 11500 + 3602 * (k + 1)) (wdM rfl) (wdM rfl) ?_
    refine w_iload C 1 dL_law_543 rfl ?_
    refine w_icmp_eq (tgt := 550) C dL_law_545 (by decide) (fun c1 => ?_) (fun c1 => ?_)
    · refine w_iload C 1 dL_law_550 rfl ?_
      refine w_if_ne (tgt := 567) C dL_law_552 (by decide) (fun c2 => ?_) (fun c2 => ?_)
      · exact absurd rfl c2
      · refine w_aload_n C 3 dL_law_555 rfl rfl (by first | rfl | exact isRef_rf _) ?_
        refine w_iconst (v := 0) C dL_law_556 (by decide) ?_
        refine w_lald C dL_law_557 (hm.mkF.1 _ _ ho1) (show (0 : Int32) = nI 0 from rfl) (by rw [(hm.mkF.2.2.2 o ho1.1).1, hn2]; decide) (by rw [(hm.mkF.2.2.2 o ho1.1).1, hn2]; decide) ((congrFun (congrFun hm.F o) 0).trans hF1) ?_
        refine w_iload C 0 dL_law_558 rfl ?_
        refine w_i2l C dL_law_560 rfl ?_
        refine w_lcmp C dL_law_561 ?_
        refine w_if_eq (tgt := 567) C dL_law_562 (by decide) (fun c3 => ?_) (fun c3 => ?_)
        · refine w_goto (tgt := 664) C dL_law_567 (by decide) ?_
          refine w_sep C (fun hE => ?_)
          exact w_sub [2, 3, 4, 5, 6] rfl (kk _ (lwI_mk hN1 hm hv2 hE ho1 hn2))
        · exact absurd (lgc _) c3
    · exact absurd h192 c1
set_option maxHeartbeats 4000000 in
set_option maxRecDepth 100000 in
theorem lw_cycle {p : Program} {l : Launch} {e : Env} {s : State} {m : MethodId} {below : List Frame} {meth : Method} {c : Code} {G : Gx} {Q : State → Prop} {b L k x mo o : Nat} {xs : Nat → Int32} {z : Sto} (C : Cx p s m #[Value.ref b] meth c cL_law 7 wsL_law RL ret G) (hX : va_X b L xs s s.heap) (hbl : b < s.heap.size) (hGs : G.2.2.1 = s.heap.size) (hL : L ≤ 2048) (hl9 : l.stackTraces = false) (hk : 4 * k + 4 ≤ L) (hI : lwI G z x mo o) (kk : ∀ z', lwI G z' x mo o → Wp p l e room_1 s m #[Value.ref b] below meth c G 7 (20 + 901 * (k + 1)) (11500 + 3602 * (k + 1)) Q z' 664 [(4, .int (nI (4 * k))), (3, .ref o), (2, .ref mo), (1, .ref x), (0, .ref b)] []) : Wp p l e room_1 s m #[Value.ref b] below meth c G 7 (20 + 901 * k) (11500 + 3602 * k) Q z 570 [(4, .int (nI (4 * k))), (3, .ref o), (2, .ref mo), (1, .ref x), (0, .ref b)] [] := by
  obtain ⟨gl, pt, ol, ga, N, A, I, M, h, h0, hv, ho, hn1⟩ := hI
  have hO := h.1
  have hn := hO.1
  have hk5 : k < 512 := by omega
  by_cases hj : xs (4 * k + 1) < 0 ∨ nI (nN N) ≤ xs (4 * k + 1)
  ·
    refine w_aload_n C 3 dL_law_570 rfl rfl (by first | rfl | exact isRef_rf _) ?_
    refine w_aload_n C 4 dL_law_571 rfl rfl (by first | rfl | exact isRef_rf _) ?_
    refine w_iload C 0 dL_law_572 rfl ?_
    refine w_iconst (v := 1) C dL_law_574 (by decide) ?_
    refine w_iadd C dL_law_575 ?_
    refine w_sld (n := 4 * k + 1) C hX hbl hGs hL (show nI (4 * k) + 1 = nI (4 * k + 1) from nI_p (4 * k) 1) (by omega) dL_law_576 ?_
    refine w_aload_n C 1 dL_law_577 rfl rfl (by first | rfl | exact isRef_rf _) ?_
    refine w_callSW (As := [.ref x, .int (xs (4 * k + 1)), .ref o]) (rest := []) C (vx_cwSW 3 C.1.2.2.2.2 gL_law_L_cycle rfl rfl rfl (by decide +kernel) ⟨Nat.le_of_ble_eq_true rfl, Nat.le_of_ble_eq_true rfl⟩) rfl rfl (by first | decide | simp [cat_ref, cat_null, cat_int, cat_long, rf_cat]) dL_law_578 (hfW hk5 (by decide) (by decide)) (x_Lcycle l G z hl9 h hj) (fun rv z1 h9 => ?_)
    obtain ⟨rfl, e9⟩ := h9
    replace e9 := e9.symm
    subst e9
    have hN1 := h
    have h01 := h0
    have hv1 := hv
    have ho1 := ho
    have hn2 := hn1
    refine w_widen (k := 20 + 901 * (k + 1)) (n := 11500 + 3602 * (k + 1)) (wdW (by decide)) (wdS (by decide)) ?_
    refine w_istoreB (lvq := [(5, _), (4, _), (3, _), (2, _), (1, _), (0, _)]) C 0 rfl rfl (by first | rfl | exact rf_cat _) dL_law_581 (by decide) rfl ?_
    refine w_aload_n C 3 dL_law_583 rfl rfl (by first | rfl | exact isRef_rf _) ?_
    refine w_aload_n C 5 dL_law_584 rfl rfl (by first | rfl | exact isRef_rf _) ?_
    refine w_iload C 1 dL_law_585 rfl ?_
    refine w_iconst (v := 1) C dL_law_587 (by decide) ?_
    refine w_iadd C dL_law_588 ?_
    refine w_sld (n := 4 * k + 1) C hX hbl hGs hL (show nI (4 * k) + 1 = nI (4 * k + 1) from nI_p (4 * k) 1) (by omega) dL_law_589 ?_
    refine w_callV (ci := 6) (As := [.int (xs (4 * k + 1))]) (rest := []) C (cwV 1 C.1.2.2.2.2 gL_law_X5_cycle rfl rfl rfl (by decide +kernel) ⟨Nat.le_of_ble_eq_true rfl, Nat.le_of_ble_eq_true rfl⟩) h01.1 rfl (by decide) rfl rfl (by first | decide | simp [cat_ref, cat_null, cat_int, cat_long, rf_cat]) dL_law_590 (hfM hk5 rfl rfl) (x_mcycle l G _ h01 hv1 hO hj) (fun rv z2 h9 => ?_)
    obtain ⟨⟨v2, rfl⟩, hm⟩ := h9
    have h192 : va_up I 192 1 192 = 1 := if_pos rfl
    have hv2 := hv1.P (f := 192) 1 (by decide) (by decide) (by decide)
    refine w_widen (k := 20 + 901 * (k + 1)) (n := 11500 + 3602 * (k + 1)) (wdM rfl) (wdM rfl) ?_
    refine w_istoreB (lvq := [(6, _), (5, _), (4, _), (3, _), (2, _), (1, _), (0, _)]) C 0 rfl rfl (by first | rfl | exact rf_cat _) dL_law_593 (by decide) rfl ?_
    refine w_aload_n C 4 dL_law_595 rfl rfl (by first | rfl | exact isRef_rf _) ?_
    refine w_callV (ci := 6) (As := []) (rest := []) C (cwV 0 C.1.2.2.2.2 gL_law_X5_thrown rfl rfl rfl (by decide +kernel) ⟨Nat.le_of_ble_eq_true rfl, Nat.le_of_ble_eq_true rfl⟩) hm.2.1 rfl (by decide) rfl rfl (by first | decide | simp [cat_ref, cat_null, cat_int, cat_long, rf_cat]) dL_law_596 (hfM hk5 rfl rfl) (c_mThrown l G _ hm.2) (fun rv z3 h9 => ?_)
    obtain ⟨rfl, e9⟩ := h9
    replace e9 := e9.symm
    subst e9
    refine w_widen (k := 20 + 901 * (k + 1)) (n := 11500 + 3602 * (k + 1)) (wdM rfl) (wdM rfl) ?_
    refine w_iload C 1 dL_law_599 rfl ?_
    refine w_icmp_eq (tgt := 606) C dL_law_601 (by decide) (fun c1 => ?_) (fun c1 => ?_)
    · refine w_iload C 1 dL_law_606 rfl ?_
      refine w_if_ne (tgt := 623) C dL_law_608 (by decide) (fun c2 => ?_) (fun c2 => ?_)
      · refine w_goto (tgt := 664) C dL_law_623 (by decide) ?_
        refine w_sep C (fun hE => ?_)
        exact w_sub [2, 3, 4, 5, 6] rfl (kk _ (lwI_mk hN1 hm hv2 hE ho1 hn2))
      · exact absurd c2 (by decide)
    · exact absurd h192 c1
  · obtain ⟨i, hi, e1⟩ := idx_of hn hj
    have hX1 : xs (4 * k + 1) = nI i := e1
    refine w_aload_n C 3 dL_law_570 rfl rfl (by first | rfl | exact isRef_rf _) ?_
    refine w_aload_n C 4 dL_law_571 rfl rfl (by first | rfl | exact isRef_rf _) ?_
    refine w_iload C 0 dL_law_572 rfl ?_
    refine w_iconst (v := 1) C dL_law_574 (by decide) ?_
    refine w_iadd C dL_law_575 ?_
    refine w_sld (n := 4 * k + 1) C hX hbl hGs hL (show nI (4 * k) + 1 = nI (4 * k + 1) from nI_p (4 * k) 1) (by omega) dL_law_576 ?_
    rw [hX1]
    refine w_aload_n C 1 dL_law_577 rfl rfl (by first | rfl | exact isRef_rf _) ?_
    refine w_callSW (As := [.ref x, .int (nI i), .ref o]) (rest := []) C (vx_cwSW 3 C.1.2.2.2.2 gL_law_L_cycle rfl rfl rfl (by decide +kernel) ⟨Nat.le_of_ble_eq_true rfl, Nat.le_of_ble_eq_true rfl⟩) rfl rfl (by first | decide | simp [cat_ref, cat_null, cat_int, cat_long, rf_cat]) dL_law_578 (hfW hk5 (by decide) (by decide)) (c_Lcycle l G z h hi ho hn1) (fun rv z1 h9 => ?_)
    obtain ⟨rfl, hlF, hN1, r1, hr1, hF1⟩ := h9
    have ho1 := hlF.1 _ _ ho
    have hn2 : sN z1 o = 1 := (hlF.2.2.2 o ho.1).1.trans hn1
    obtain ⟨h01, hII⟩ := mst_lF h0 hlF
    have hv1 : mv (fun f => sI z1 f mo) M N := mv_cg hv hII
    refine w_widen (k := 20 + 901 * (k + 1)) (n := 11500 + 3602 * (k + 1)) (wdW (by decide)) (wdS (by decide)) ?_
    refine w_istoreB (lvq := [(5, _), (4, _), (3, _), (2, _), (1, _), (0, _)]) C 0 rfl rfl (by first | rfl | exact rf_cat _) dL_law_581 (by decide) rfl ?_
    refine w_aload_n C 3 dL_law_583 rfl rfl (by first | rfl | exact isRef_rf _) ?_
    refine w_aload_n C 5 dL_law_584 rfl rfl (by first | rfl | exact isRef_rf _) ?_
    refine w_iload C 1 dL_law_585 rfl ?_
    refine w_iconst (v := 1) C dL_law_587 (by decide) ?_
    refine w_iadd C dL_law_588 ?_
    refine w_sld (n := 4 * k + 1) C hX hbl hGs hL (show nI (4 * k) + 1 = nI (4 * k + 1) from nI_p (4 * k) 1) (by omega) dL_law_589 ?_
    rw [hX1]
    refine w_callV (ci := 6) (As := [.int (nI i)]) (rest := []) C (cwV 1 C.1.2.2.2.2 gL_law_X5_cycle rfl rfl rfl (by decide +kernel) ⟨Nat.le_of_ble_eq_true rfl, Nat.le_of_ble_eq_true rfl⟩) h01.1 rfl (by decide) rfl rfl (by first | decide | simp [cat_ref, cat_null, cat_int, cat_long, rf_cat]) dL_law_590 (hfM hk5 rfl rfl) (c_mcycle l G _ h01 hv1 hO hi) (fun rv z2 h9 => ?_)
    obtain ⟨r2, rfl, I2, M2, hm, h192, hr2, hv2⟩ := h9
    have er := hr1.uniq hr2
    subst er
    refine w_widen (k := 20 + 901 * (k + 1)) (n := 11500 + 3602 * (k + 1)) (wdM rfl) (wdM rfl) ?_
    refine w_istoreB (lvq := [(6, _), (5, _), (4, _), (3, _), (2, _), (1, _), (0, _)]) C 0 rfl rfl (by first | rfl | exact rf_cat _) dL_law_593 (by decide) rfl ?_
    refine w_aload_n C 4 dL_law_595 rfl rfl (by first | rfl | exact isRef_rf _) ?_
    refine w_callV (ci := 6) (As := []) (rest := []) C (cwV 0 C.1.2.2.2.2 gL_law_X5_thrown rfl rfl rfl (by decide +kernel) ⟨Nat.le_of_ble_eq_true rfl, Nat.le_of_ble_eq_true rfl⟩) hm.2.1 rfl (by decide) rfl rfl (by first | decide | simp [cat_ref, cat_null, cat_int, cat_long, rf_cat]) dL_law_596 (hfM hk5 rfl rfl) (c_mThrown l G _ hm.2) (fun rv z3 h9 => ?_)
    obtain ⟨rfl, e9⟩ := h9
    replace e9 := e9.symm
    subst e9
    refine w_widen (k := 20 + 901 * (k + 1)) (n := 11500 + 3602 * (k + 1)) (wdM rfl) (wdM rfl) ?_
    refine w_iload C 1 dL_law_599 rfl ?_
    refine w_icmp_eq (tgt := 606) C dL_law_601 (by decide) (fun c1 => ?_) (fun c1 => ?_)
    · refine w_iload C 1 dL_law_606 rfl ?_
      refine w_if_ne (tgt := 623) C dL_law_608 (by decide) (fun c2 => ?_) (fun c2 => ?_)
      · exact absurd rfl c2
      · refine w_aload_n C 3 dL_law_611 rfl rfl (by first | rfl | exact isRef_rf _) ?_
        refine w_iconst (v := 0) C dL_law_612 (by decide) ?_
        refine w_lald C dL_law_613 (hm.mkF.1 _ _ ho1) (show (0 : Int32) = nI 0 from rfl) (by rw [(hm.mkF.2.2.2 o ho1.1).1, hn2]; decide) (by rw [(hm.mkF.2.2.2 o ho1.1).1, hn2]; decide) ((congrFun (congrFun hm.F o) 0).trans hF1) ?_
        refine w_iload C 0 dL_law_614 rfl ?_
        refine w_i2l C dL_law_616 rfl ?_
        refine w_lcmp C dL_law_617 ?_
        refine w_if_eq (tgt := 623) C dL_law_618 (by decide) (fun c3 => ?_) (fun c3 => ?_)
        · refine w_goto (tgt := 664) C dL_law_623 (by decide) ?_
          refine w_sep C (fun hE => ?_)
          exact w_sub [2, 3, 4, 5, 6] rfl (kk _ (lwI_mk hN1 hm hv2 hE ho1 hn2))
        · exact absurd (lgc _) c3
    · exact absurd h192 c1
set_option maxHeartbeats 4000000 in
set_option maxRecDepth 100000 in
theorem lw_gate {p : Program} {l : Launch} {e : Env} {s : State} {m : MethodId} {below : List Frame} {meth : Method} {c : Code} {G : Gx} {Q : State → Prop} {b L k x mo o : Nat} {xs : Nat → Int32} {z : Sto} (C : Cx p s m #[Value.ref b] meth c cL_law 7 wsL_law RL ret G) (hX : va_X b L xs s s.heap) (hbl : b < s.heap.size) (hGs : G.2.2.1 = s.heap.size) (hL : L ≤ 2048) (hl9 : l.stackTraces = false) (hk : 4 * k + 4 ≤ L) (hI : lwI G z x mo o) (kk : ∀ z', lwI G z' x mo o → Wp p l e room_1 s m #[Value.ref b] below meth c G 7 (20 + 901 * (k + 1)) (11500 + 3602 * (k + 1)) Q z' 664 [(4, .int (nI (4 * k))), (3, .ref o), (2, .ref mo), (1, .ref x), (0, .ref b)] []) : Wp p l e room_1 s m #[Value.ref b] below meth c G 7 (20 + 901 * k) (11500 + 3602 * k) Q z 100 [(4, .int (nI (4 * k))), (3, .ref o), (2, .ref mo), (1, .ref x), (0, .ref b)] [] := by
  obtain ⟨gl, pt, ol, ga, N, A, I, M, h, h0, hv, ho, hn1⟩ := hI
  have hO := h.1
  have hn := hO.1
  have hk5 : k < 512 := by omega
  by_cases hb : xs (4 * k + 1) < 0 ∨ 3 < xs (4 * k + 1)
  ·
    refine w_aload_n C 3 dL_law_100 rfl rfl (by first | rfl | exact isRef_rf _) ?_
    refine w_aload_n C 4 dL_law_101 rfl rfl (by first | rfl | exact isRef_rf _) ?_
    refine w_iload C 0 dL_law_102 rfl ?_
    refine w_iconst (v := 1) C dL_law_104 (by decide) ?_
    refine w_iadd C dL_law_105 ?_
    refine w_sld (n := 4 * k + 1) C hX hbl hGs hL (show nI (4 * k) + 1 = nI (4 * k + 1) from nI_p (4 * k) 1) (by omega) dL_law_106 ?_
    refine w_aload_n C 1 dL_law_107 rfl rfl (by first | rfl | exact isRef_rf _) ?_
    refine w_callSW (As := [.ref x, .int (xs (4 * k + 1)), .ref o]) (rest := []) C (vx_cwSW 3 C.1.2.2.2.2 gL_law_L_gate rfl rfl rfl (by decide +kernel) ⟨Nat.le_of_ble_eq_true rfl, Nat.le_of_ble_eq_true rfl⟩) rfl rfl (by first | decide | simp [cat_ref, cat_null, cat_int, cat_long, rf_cat]) dL_law_108 (hfW hk5 (by decide) (by decide)) (x_Lgate l G z hl9 h hb) (fun rv z1 h9 => ?_)
    obtain ⟨rfl, e9⟩ := h9
    replace e9 := e9.symm
    subst e9
    have hN1 := h
    have h01 := h0
    have hv1 := hv
    have ho1 := ho
    have hn2 := hn1
    refine w_widen (k := 20 + 901 * (k + 1)) (n := 11500 + 3602 * (k + 1)) (wdW (by decide)) (wdS (by decide)) ?_
    refine w_istoreB (lvq := [(5, _), (4, _), (3, _), (2, _), (1, _), (0, _)]) C 0 rfl rfl (by first | rfl | exact rf_cat _) dL_law_111 (by decide) rfl ?_
    refine w_aload_n C 3 dL_law_113 rfl rfl (by first | rfl | exact isRef_rf _) ?_
    refine w_aload_n C 5 dL_law_114 rfl rfl (by first | rfl | exact isRef_rf _) ?_
    refine w_iload C 1 dL_law_115 rfl ?_
    refine w_iconst (v := 1) C dL_law_117 (by decide) ?_
    refine w_iadd C dL_law_118 ?_
    refine w_sld (n := 4 * k + 1) C hX hbl hGs hL (show nI (4 * k) + 1 = nI (4 * k + 1) from nI_p (4 * k) 1) (by omega) dL_law_119 ?_
    refine w_callV (ci := 6) (As := [.int (xs (4 * k + 1))]) (rest := []) C (cwV 1 C.1.2.2.2.2 gL_law_X5_gate rfl rfl rfl (by decide +kernel) ⟨Nat.le_of_ble_eq_true rfl, Nat.le_of_ble_eq_true rfl⟩) h01.1 rfl (by decide) rfl rfl (by first | decide | simp [cat_ref, cat_null, cat_int, cat_long, rf_cat]) dL_law_120 (hfM hk5 rfl rfl) (x_mgate l G _ h01 hb) (fun rv z2 h9 => ?_)
    obtain ⟨⟨v2, rfl⟩, hm⟩ := h9
    have h192 : va_up I 192 1 192 = 1 := if_pos rfl
    have hv2 := hv1.P (f := 192) 1 (by decide) (by decide) (by decide)
    refine w_widen (k := 20 + 901 * (k + 1)) (n := 11500 + 3602 * (k + 1)) (wdM rfl) (wdM rfl) ?_
    refine w_istoreB (lvq := [(6, _), (5, _), (4, _), (3, _), (2, _), (1, _), (0, _)]) C 0 rfl rfl (by first | rfl | exact rf_cat _) dL_law_123 (by decide) rfl ?_
    refine w_aload_n C 4 dL_law_125 rfl rfl (by first | rfl | exact isRef_rf _) ?_
    refine w_callV (ci := 6) (As := []) (rest := []) C (cwV 0 C.1.2.2.2.2 gL_law_X5_thrown rfl rfl rfl (by decide +kernel) ⟨Nat.le_of_ble_eq_true rfl, Nat.le_of_ble_eq_true rfl⟩) hm.2.1 rfl (by decide) rfl rfl (by first | decide | simp [cat_ref, cat_null, cat_int, cat_long, rf_cat]) dL_law_126 (hfM hk5 rfl rfl) (c_mThrown l G _ hm.2) (fun rv z3 h9 => ?_)
    obtain ⟨rfl, e9⟩ := h9
    replace e9 := e9.symm
    subst e9
    refine w_widen (k := 20 + 901 * (k + 1)) (n := 11500 + 3602 * (k + 1)) (wdM rfl) (wdM rfl) ?_
    refine w_iload C 1 dL_law_129 rfl ?_
    refine w_icmp_eq (tgt := 136) C dL_law_131 (by decide) (fun c1 => ?_) (fun c1 => ?_)
    · refine w_iload C 1 dL_law_136 rfl ?_
      refine w_if_ne (tgt := 153) C dL_law_138 (by decide) (fun c2 => ?_) (fun c2 => ?_)
      · refine w_goto (tgt := 664) C dL_law_153 (by decide) ?_
        refine w_sep C (fun hE => ?_)
        exact w_sub [2, 3, 4, 5, 6] rfl (kk _ (lwI_mk hN1 hm hv2 hE ho1 hn2))
      · exact absurd c2 (by decide)
    · exact absurd h192 c1
  ·
    refine w_aload_n C 3 dL_law_100 rfl rfl (by first | rfl | exact isRef_rf _) ?_
    refine w_aload_n C 4 dL_law_101 rfl rfl (by first | rfl | exact isRef_rf _) ?_
    refine w_iload C 0 dL_law_102 rfl ?_
    refine w_iconst (v := 1) C dL_law_104 (by decide) ?_
    refine w_iadd C dL_law_105 ?_
    refine w_sld (n := 4 * k + 1) C hX hbl hGs hL (show nI (4 * k) + 1 = nI (4 * k + 1) from nI_p (4 * k) 1) (by omega) dL_law_106 ?_
    refine w_aload_n C 1 dL_law_107 rfl rfl (by first | rfl | exact isRef_rf _) ?_
    refine w_callSW (As := [.ref x, .int (xs (4 * k + 1)), .ref o]) (rest := []) C (vx_cwSW 3 C.1.2.2.2.2 gL_law_L_gate rfl rfl rfl (by decide +kernel) ⟨Nat.le_of_ble_eq_true rfl, Nat.le_of_ble_eq_true rfl⟩) rfl rfl (by first | decide | simp [cat_ref, cat_null, cat_int, cat_long, rf_cat]) dL_law_108 (hfW hk5 (by decide) (by decide)) (c_Lgate l G z h (fun q => hb (Or.inl q)) (Int32.not_lt.mp (fun q => hb (Or.inr q))) ho hn1) (fun rv z1 h9 => ?_)
    obtain ⟨rfl, hlF, N', r1, ga', hr1, hN1, hF1⟩ := h9
    have ho1 := hlF.1 _ _ ho
    have hn2 : sN z1 o = 1 := (hlF.2.2.2 o ho.1).1.trans hn1
    obtain ⟨h01, hII⟩ := mst_lF h0 hlF
    have hv1 : mv (fun f => sI z1 f mo) M N := mv_cg hv hII
    refine w_widen (k := 20 + 901 * (k + 1)) (n := 11500 + 3602 * (k + 1)) (wdW (by decide)) (wdS (by decide)) ?_
    refine w_istoreB (lvq := [(5, _), (4, _), (3, _), (2, _), (1, _), (0, _)]) C 0 rfl rfl (by first | rfl | exact rf_cat _) dL_law_111 (by decide) rfl ?_
    refine w_aload_n C 3 dL_law_113 rfl rfl (by first | rfl | exact isRef_rf _) ?_
    refine w_aload_n C 5 dL_law_114 rfl rfl (by first | rfl | exact isRef_rf _) ?_
    refine w_iload C 1 dL_law_115 rfl ?_
    refine w_iconst (v := 1) C dL_law_117 (by decide) ?_
    refine w_iadd C dL_law_118 ?_
    refine w_sld (n := 4 * k + 1) C hX hbl hGs hL (show nI (4 * k) + 1 = nI (4 * k + 1) from nI_p (4 * k) 1) (by omega) dL_law_119 ?_
    refine w_callV (ci := 6) (As := [.int (xs (4 * k + 1))]) (rest := []) C (cwV 1 C.1.2.2.2.2 gL_law_X5_gate rfl rfl rfl (by decide +kernel) ⟨Nat.le_of_ble_eq_true rfl, Nat.le_of_ble_eq_true rfl⟩) h01.1 rfl (by decide) rfl rfl (by first | decide | simp [cat_ref, cat_null, cat_int, cat_long, rf_cat]) dL_law_120 (hfM hk5 rfl rfl) (c_mgate l G _ h01 hv1 hO (fun q => hb (Or.inl q)) (Int32.not_lt.mp (fun q => hb (Or.inr q)))) (fun rv z2 h9 => ?_)
    obtain ⟨I2, M2, hm, h192, h9⟩ := h9
    have h9' : rv = some (.int r1) ∧ mv I2 M2 N' := by
      rcases hr1 with ⟨a1, a2, a3⟩ | ⟨a1, a2, a3⟩ <;> rcases h9 with ⟨b1, b2, b3⟩ | ⟨b1, b2, b3⟩
      · rw [a2, a3]; exact ⟨b2, b3⟩
      · exact absurd a1 b1
      · exact absurd b1 a1
      · rw [a2, a3]; exact ⟨b2, b3⟩
    obtain ⟨rfl, hv2⟩ := h9'
    refine w_widen (k := 20 + 901 * (k + 1)) (n := 11500 + 3602 * (k + 1)) (wdM rfl) (wdM rfl) ?_
    refine w_istoreB (lvq := [(6, _), (5, _), (4, _), (3, _), (2, _), (1, _), (0, _)]) C 0 rfl rfl (by first | rfl | exact rf_cat _) dL_law_123 (by decide) rfl ?_
    refine w_aload_n C 4 dL_law_125 rfl rfl (by first | rfl | exact isRef_rf _) ?_
    refine w_callV (ci := 6) (As := []) (rest := []) C (cwV 0 C.1.2.2.2.2 gL_law_X5_thrown rfl rfl rfl (by decide +kernel) ⟨Nat.le_of_ble_eq_true rfl, Nat.le_of_ble_eq_true rfl⟩) hm.2.1 rfl (by decide) rfl rfl (by first | decide | simp [cat_ref, cat_null, cat_int, cat_long, rf_cat]) dL_law_126 (hfM hk5 rfl rfl) (c_mThrown l G _ hm.2) (fun rv z3 h9 => ?_)
    obtain ⟨rfl, e9⟩ := h9
    replace e9 := e9.symm
    subst e9
    refine w_widen (k := 20 + 901 * (k + 1)) (n := 11500 + 3602 * (k + 1)) (wdM rfl) (wdM rfl) ?_
    refine w_iload C 1 dL_law_129 rfl ?_
    refine w_icmp_eq (tgt := 136) C dL_law_131 (by decide) (fun c1 => ?_) (fun c1 => ?_)
    · refine w_iload C 1 dL_law_136 rfl ?_
      refine w_if_ne (tgt := 153) C dL_law_138 (by decide) (fun c2 => ?_) (fun c2 => ?_)
      · exact absurd rfl c2
      · refine w_aload_n C 3 dL_law_141 rfl rfl (by first | rfl | exact isRef_rf _) ?_
        refine w_iconst (v := 0) C dL_law_142 (by decide) ?_
        refine w_lald C dL_law_143 (hm.mkF.1 _ _ ho1) (show (0 : Int32) = nI 0 from rfl) (by rw [(hm.mkF.2.2.2 o ho1.1).1, hn2]; decide) (by rw [(hm.mkF.2.2.2 o ho1.1).1, hn2]; decide) ((congrFun (congrFun hm.F o) 0).trans hF1) ?_
        refine w_iload C 0 dL_law_144 rfl ?_
        refine w_i2l C dL_law_146 rfl ?_
        refine w_lcmp C dL_law_147 ?_
        refine w_if_eq (tgt := 153) C dL_law_148 (by decide) (fun c3 => ?_) (fun c3 => ?_)
        · refine w_goto (tgt := 664) C dL_law_153 (by decide) ?_
          refine w_sep C (fun hE => ?_)
          exact w_sub [2, 3, 4, 5, 6] rfl (kk _ (lwI_mk hN1 hm hv2 hE ho1 hn2))
        · exact absurd (lgc _) c3
    · exact absurd h192 c1
set_option maxHeartbeats 4000000 in
set_option maxRecDepth 100000 in
theorem lw_set {p : Program} {l : Launch} {e : Env} {s : State} {m : MethodId} {below : List Frame} {meth : Method} {c : Code} {G : Gx} {Q : State → Prop} {b L k x mo o : Nat} {xs : Nat → Int32} {z : Sto} (C : Cx p s m #[Value.ref b] meth c cL_law 7 wsL_law RL ret G) (hX : va_X b L xs s s.heap) (hbl : b < s.heap.size) (hGs : G.2.2.1 = s.heap.size) (hL : L ≤ 2048) (hl9 : l.stackTraces = false) (hk : 4 * k + 4 ≤ L) (hI : lwI G z x mo o) (kk : ∀ z', lwI G z' x mo o → Wp p l e room_1 s m #[Value.ref b] below meth c G 7 (20 + 901 * (k + 1)) (11500 + 3602 * (k + 1)) Q z' 664 [(4, .int (nI (4 * k))), (3, .ref o), (2, .ref mo), (1, .ref x), (0, .ref b)] []) : Wp p l e room_1 s m #[Value.ref b] below meth c G 7 (20 + 901 * k) (11500 + 3602 * k) Q z 308 [(4, .int (nI (4 * k))), (3, .ref o), (2, .ref mo), (1, .ref x), (0, .ref b)] [] := by
  obtain ⟨gl, pt, ol, ga, N, A, I, M, h, h0, hv, ho, hn1⟩ := hI
  have hO := h.1
  have hn := hO.1
  have hk5 : k < 512 := by omega
  by_cases hj : xs (4 * k + 1) < 0 ∨ nI (nN N) ≤ xs (4 * k + 1)
  ·
    refine w_aload_n C 3 dL_law_308 rfl rfl (by first | rfl | exact isRef_rf _) ?_
    refine w_aload_n C 4 dL_law_309 rfl rfl (by first | rfl | exact isRef_rf _) ?_
    refine w_iload C 0 dL_law_310 rfl ?_
    refine w_iconst (v := 1) C dL_law_312 (by decide) ?_
    refine w_iadd C dL_law_313 ?_
    refine w_sld (n := 4 * k + 1) C hX hbl hGs hL (show nI (4 * k) + 1 = nI (4 * k + 1) from nI_p (4 * k) 1) (by omega) dL_law_314 ?_
    refine w_aload_n C 4 dL_law_315 rfl rfl (by first | rfl | exact isRef_rf _) ?_
    refine w_iload C 0 dL_law_316 rfl ?_
    refine w_iconst (v := 2) C dL_law_318 (by decide) ?_
    refine w_iadd C dL_law_319 ?_
    refine w_sld (n := 4 * k + 2) C hX hbl hGs hL (show nI (4 * k) + 2 = nI (4 * k + 2) from nI_p (4 * k) 2) (by omega) dL_law_320 ?_
    refine w_aload_n C 1 dL_law_321 rfl rfl (by first | rfl | exact isRef_rf _) ?_
    refine w_callSW (As := [.ref x, .int (xs (4 * k + 1)), .int (xs (4 * k + 2)), .ref o]) (rest := []) C (vx_cwSW 4 C.1.2.2.2.2 gL_law_L_set rfl rfl rfl (by decide +kernel) ⟨Nat.le_of_ble_eq_true rfl, Nat.le_of_ble_eq_true rfl⟩) rfl rfl (by first | decide | simp [cat_ref, cat_null, cat_int, cat_long, rf_cat]) dL_law_322 (hfW hk5 (by decide) (by decide)) (x_Lset l G z hl9 h hj) (fun rv z1 h9 => ?_)
    obtain ⟨rfl, e9⟩ := h9
    replace e9 := e9.symm
    subst e9
    have hN1 := h
    have h01 := h0
    have hv1 := hv
    have ho1 := ho
    have hn2 := hn1
    refine w_widen (k := 20 + 901 * (k + 1)) (n := 11500 + 3602 * (k + 1)) (wdW (by decide)) (wdS (by decide)) ?_
    refine w_istoreB (lvq := [(5, _), (4, _), (3, _), (2, _), (1, _), (0, _)]) C 0 rfl rfl (by first | rfl | exact rf_cat _) dL_law_325 (by decide) rfl ?_
    refine w_aload_n C 3 dL_law_327 rfl rfl (by first | rfl | exact isRef_rf _) ?_
    refine w_aload_n C 5 dL_law_328 rfl rfl (by first | rfl | exact isRef_rf _) ?_
    refine w_iload C 1 dL_law_329 rfl ?_
    refine w_iconst (v := 1) C dL_law_331 (by decide) ?_
    refine w_iadd C dL_law_332 ?_
    refine w_sld (n := 4 * k + 1) C hX hbl hGs hL (show nI (4 * k) + 1 = nI (4 * k + 1) from nI_p (4 * k) 1) (by omega) dL_law_333 ?_
    refine w_aload_n C 5 dL_law_334 rfl rfl (by first | rfl | exact isRef_rf _) ?_
    refine w_iload C 1 dL_law_335 rfl ?_
    refine w_iconst (v := 2) C dL_law_337 (by decide) ?_
    refine w_iadd C dL_law_338 ?_
    refine w_sld (n := 4 * k + 2) C hX hbl hGs hL (show nI (4 * k) + 2 = nI (4 * k + 2) from nI_p (4 * k) 2) (by omega) dL_law_339 ?_
    refine w_callV (ci := 6) (As := [.int (xs (4 * k + 1)), .int (xs (4 * k + 2))]) (rest := []) C (cwV 2 C.1.2.2.2.2 gL_law_X5_set rfl rfl rfl (by decide +kernel) ⟨Nat.le_of_ble_eq_true rfl, Nat.le_of_ble_eq_true rfl⟩) h01.1 rfl (by decide) rfl rfl (by first | decide | simp [cat_ref, cat_null, cat_int, cat_long, rf_cat]) dL_law_340 (hfM hk5 rfl rfl) (x_mset l G _ h01 hv1 hO hj) (fun rv z2 h9 => ?_)
    obtain ⟨⟨v2, rfl⟩, hm⟩ := h9
    have h192 : va_up I 192 1 192 = 1 := if_pos rfl
    have hv2 := hv1.P (f := 192) 1 (by decide) (by decide) (by decide)
    refine w_widen (k := 20 + 901 * (k + 1)) (n := 11500 + 3602 * (k + 1)) (wdM rfl) (wdM rfl) ?_
    refine w_istoreB (lvq := [(6, _), (5, _), (4, _), (3, _), (2, _), (1, _), (0, _)]) C 0 rfl rfl (by first | rfl | exact rf_cat _) dL_law_343 (by decide) rfl ?_
    refine w_aload_n C 4 dL_law_345 rfl rfl (by first | rfl | exact isRef_rf _) ?_
    refine w_callV (ci := 6) (As := []) (rest := []) C (cwV 0 C.1.2.2.2.2 gL_law_X5_thrown rfl rfl rfl (by decide +kernel) ⟨Nat.le_of_ble_eq_true rfl, Nat.le_of_ble_eq_true rfl⟩) hm.2.1 rfl (by decide) rfl rfl (by first | decide | simp [cat_ref, cat_null, cat_int, cat_long, rf_cat]) dL_law_346 (hfM hk5 rfl rfl) (c_mThrown l G _ hm.2) (fun rv z3 h9 => ?_)
    obtain ⟨rfl, e9⟩ := h9
    replace e9 := e9.symm
    subst e9
    refine w_widen (k := 20 + 901 * (k + 1)) (n := 11500 + 3602 * (k + 1)) (wdM rfl) (wdM rfl) ?_
    refine w_iload C 1 dL_law_349 rfl ?_
    refine w_icmp_eq (tgt := 356) C dL_law_351 (by decide) (fun c1 => ?_) (fun c1 => ?_)
    · refine w_iload C 1 dL_law_356 rfl ?_
      refine w_if_ne (tgt := 373) C dL_law_358 (by decide) (fun c2 => ?_) (fun c2 => ?_)
      · refine w_goto (tgt := 664) C dL_law_373 (by decide) ?_
        refine w_sep C (fun hE => ?_)
        exact w_sub [2, 3, 4, 5, 6] rfl (kk _ (lwI_mk hN1 hm hv2 hE ho1 hn2))
      · exact absurd c2 (by decide)
    · exact absurd h192 c1
  · obtain ⟨i, hi, e1⟩ := idx_of hn hj
    have hX1 : xs (4 * k + 1) = nI i := e1
    by_cases hb : ¬ nSo N i = 0 ∨ xs (4 * k + 2) < 0 ∨ 2 < xs (4 * k + 2)
    ·
      refine w_aload_n C 3 dL_law_308 rfl rfl (by first | rfl | exact isRef_rf _) ?_
      refine w_aload_n C 4 dL_law_309 rfl rfl (by first | rfl | exact isRef_rf _) ?_
      refine w_iload C 0 dL_law_310 rfl ?_
      refine w_iconst (v := 1) C dL_law_312 (by decide) ?_
      refine w_iadd C dL_law_313 ?_
      refine w_sld (n := 4 * k + 1) C hX hbl hGs hL (show nI (4 * k) + 1 = nI (4 * k + 1) from nI_p (4 * k) 1) (by omega) dL_law_314 ?_
      rw [hX1]
      refine w_aload_n C 4 dL_law_315 rfl rfl (by first | rfl | exact isRef_rf _) ?_
      refine w_iload C 0 dL_law_316 rfl ?_
      refine w_iconst (v := 2) C dL_law_318 (by decide) ?_
      refine w_iadd C dL_law_319 ?_
      refine w_sld (n := 4 * k + 2) C hX hbl hGs hL (show nI (4 * k) + 2 = nI (4 * k + 2) from nI_p (4 * k) 2) (by omega) dL_law_320 ?_
      refine w_aload_n C 1 dL_law_321 rfl rfl (by first | rfl | exact isRef_rf _) ?_
      refine w_callSW (As := [.ref x, .int (nI i), .int (xs (4 * k + 2)), .ref o]) (rest := []) C (vx_cwSW 4 C.1.2.2.2.2 gL_law_L_set rfl rfl rfl (by decide +kernel) ⟨Nat.le_of_ble_eq_true rfl, Nat.le_of_ble_eq_true rfl⟩) rfl rfl (by first | decide | simp [cat_ref, cat_null, cat_int, cat_long, rf_cat]) dL_law_322 (hfW hk5 (by decide) (by decide)) (x_Lset2 l G z hl9 h hi hb) (fun rv z1 h9 => ?_)
      obtain ⟨rfl, e9⟩ := h9
      replace e9 := e9.symm
      subst e9
      have hN1 := h
      have h01 := h0
      have hv1 := hv
      have ho1 := ho
      have hn2 := hn1
      refine w_widen (k := 20 + 901 * (k + 1)) (n := 11500 + 3602 * (k + 1)) (wdW (by decide)) (wdS (by decide)) ?_
      refine w_istoreB (lvq := [(5, _), (4, _), (3, _), (2, _), (1, _), (0, _)]) C 0 rfl rfl (by first | rfl | exact rf_cat _) dL_law_325 (by decide) rfl ?_
      refine w_aload_n C 3 dL_law_327 rfl rfl (by first | rfl | exact isRef_rf _) ?_
      refine w_aload_n C 5 dL_law_328 rfl rfl (by first | rfl | exact isRef_rf _) ?_
      refine w_iload C 1 dL_law_329 rfl ?_
      refine w_iconst (v := 1) C dL_law_331 (by decide) ?_
      refine w_iadd C dL_law_332 ?_
      refine w_sld (n := 4 * k + 1) C hX hbl hGs hL (show nI (4 * k) + 1 = nI (4 * k + 1) from nI_p (4 * k) 1) (by omega) dL_law_333 ?_
      rw [hX1]
      refine w_aload_n C 5 dL_law_334 rfl rfl (by first | rfl | exact isRef_rf _) ?_
      refine w_iload C 1 dL_law_335 rfl ?_
      refine w_iconst (v := 2) C dL_law_337 (by decide) ?_
      refine w_iadd C dL_law_338 ?_
      refine w_sld (n := 4 * k + 2) C hX hbl hGs hL (show nI (4 * k) + 2 = nI (4 * k + 2) from nI_p (4 * k) 2) (by omega) dL_law_339 ?_
      refine w_callV (ci := 6) (As := [.int (nI i), .int (xs (4 * k + 2))]) (rest := []) C (cwV 2 C.1.2.2.2.2 gL_law_X5_set rfl rfl rfl (by decide +kernel) ⟨Nat.le_of_ble_eq_true rfl, Nat.le_of_ble_eq_true rfl⟩) h01.1 rfl (by decide) rfl rfl (by first | decide | simp [cat_ref, cat_null, cat_int, cat_long, rf_cat]) dL_law_340 (hfM hk5 rfl rfl) (x_mset2 l G _ h01 hv1 hO hi hb) (fun rv z2 h9 => ?_)
      obtain ⟨⟨v2, rfl⟩, hm⟩ := h9
      have h192 : va_up I 192 2 192 = 2 := if_pos rfl
      have hv2 := hv1.P (f := 192) 2 (by decide) (by decide) (by decide)
      refine w_widen (k := 20 + 901 * (k + 1)) (n := 11500 + 3602 * (k + 1)) (wdM rfl) (wdM rfl) ?_
      refine w_istoreB (lvq := [(6, _), (5, _), (4, _), (3, _), (2, _), (1, _), (0, _)]) C 0 rfl rfl (by first | rfl | exact rf_cat _) dL_law_343 (by decide) rfl ?_
      refine w_aload_n C 4 dL_law_345 rfl rfl (by first | rfl | exact isRef_rf _) ?_
      refine w_callV (ci := 6) (As := []) (rest := []) C (cwV 0 C.1.2.2.2.2 gL_law_X5_thrown rfl rfl rfl (by decide +kernel) ⟨Nat.le_of_ble_eq_true rfl, Nat.le_of_ble_eq_true rfl⟩) hm.2.1 rfl (by decide) rfl rfl (by first | decide | simp [cat_ref, cat_null, cat_int, cat_long, rf_cat]) dL_law_346 (hfM hk5 rfl rfl) (c_mThrown l G _ hm.2) (fun rv z3 h9 => ?_)
      obtain ⟨rfl, e9⟩ := h9
      replace e9 := e9.symm
      subst e9
      refine w_widen (k := 20 + 901 * (k + 1)) (n := 11500 + 3602 * (k + 1)) (wdM rfl) (wdM rfl) ?_
      refine w_iload C 1 dL_law_349 rfl ?_
      refine w_icmp_eq (tgt := 356) C dL_law_351 (by decide) (fun c1 => ?_) (fun c1 => ?_)
      · refine w_iload C 1 dL_law_356 rfl ?_
        refine w_if_ne (tgt := 373) C dL_law_358 (by decide) (fun c2 => ?_) (fun c2 => ?_)
        · refine w_goto (tgt := 664) C dL_law_373 (by decide) ?_
          refine w_sep C (fun hE => ?_)
          exact w_sub [2, 3, 4, 5, 6] rfl (kk _ (lwI_mk hN1 hm hv2 hE ho1 hn2))
        · exact absurd c2 (by decide)
      · exact absurd h192 c1
    ·
      refine w_aload_n C 3 dL_law_308 rfl rfl (by first | rfl | exact isRef_rf _) ?_
      refine w_aload_n C 4 dL_law_309 rfl rfl (by first | rfl | exact isRef_rf _) ?_
      refine w_iload C 0 dL_law_310 rfl ?_
      refine w_iconst (v := 1) C dL_law_312 (by decide) ?_
      refine w_iadd C dL_law_313 ?_
      refine w_sld (n := 4 * k + 1) C hX hbl hGs hL (show nI (4 * k) + 1 = nI (4 * k + 1) from nI_p (4 * k) 1) (by omega) dL_law_314 ?_
      rw [hX1]
      refine w_aload_n C 4 dL_law_315 rfl rfl (by first | rfl | exact isRef_rf _) ?_
      refine w_iload C 0 dL_law_316 rfl ?_
      refine w_iconst (v := 2) C dL_law_318 (by decide) ?_
      refine w_iadd C dL_law_319 ?_
      refine w_sld (n := 4 * k + 2) C hX hbl hGs hL (show nI (4 * k) + 2 = nI (4 * k + 2) from nI_p (4 * k) 2) (by omega) dL_law_320 ?_
      refine w_aload_n C 1 dL_law_321 rfl rfl (by first | rfl | exact isRef_rf _) ?_
      refine w_callSW (As := [.ref x, .int (nI i), .int (xs (4 * k + 2)), .ref o]) (rest := []) C (vx_cwSW 4 C.1.2.2.2.2 gL_law_L_set rfl rfl rfl (by decide +kernel) ⟨Nat.le_of_ble_eq_true rfl, Nat.le_of_ble_eq_true rfl⟩) rfl rfl (by first | decide | simp [cat_ref, cat_null, cat_int, cat_long, rf_cat]) dL_law_322 (hfW hk5 (by decide) (by decide)) (c_Lset l G z h hi (Decidable.byContradiction fun q => hb (Or.inl q)) (fun q => hb (Or.inr (Or.inl q))) (Int32.not_lt.mp (fun q => hb (Or.inr (Or.inr q)))) ho hn1) (fun rv z1 h9 => ?_)
      obtain ⟨rfl, hlF, hN1, hF1⟩ := h9
      have ho1 := hlF.1 _ _ ho
      have hn2 : sN z1 o = 1 := (hlF.2.2.2 o ho.1).1.trans hn1
      obtain ⟨h01, hII⟩ := mst_lF h0 hlF
      have hv1 : mv (fun f => sI z1 f mo) M N := mv_cg hv hII
      refine w_widen (k := 20 + 901 * (k + 1)) (n := 11500 + 3602 * (k + 1)) (wdW (by decide)) (wdS (by decide)) ?_
      refine w_istoreB (lvq := [(5, _), (4, _), (3, _), (2, _), (1, _), (0, _)]) C 0 rfl rfl (by first | rfl | exact rf_cat _) dL_law_325 (by decide) rfl ?_
      refine w_aload_n C 3 dL_law_327 rfl rfl (by first | rfl | exact isRef_rf _) ?_
      refine w_aload_n C 5 dL_law_328 rfl rfl (by first | rfl | exact isRef_rf _) ?_
      refine w_iload C 1 dL_law_329 rfl ?_
      refine w_iconst (v := 1) C dL_law_331 (by decide) ?_
      refine w_iadd C dL_law_332 ?_
      refine w_sld (n := 4 * k + 1) C hX hbl hGs hL (show nI (4 * k) + 1 = nI (4 * k + 1) from nI_p (4 * k) 1) (by omega) dL_law_333 ?_
      rw [hX1]
      refine w_aload_n C 5 dL_law_334 rfl rfl (by first | rfl | exact isRef_rf _) ?_
      refine w_iload C 1 dL_law_335 rfl ?_
      refine w_iconst (v := 2) C dL_law_337 (by decide) ?_
      refine w_iadd C dL_law_338 ?_
      refine w_sld (n := 4 * k + 2) C hX hbl hGs hL (show nI (4 * k) + 2 = nI (4 * k + 2) from nI_p (4 * k) 2) (by omega) dL_law_339 ?_
      refine w_callV (ci := 6) (As := [.int (nI i), .int (xs (4 * k + 2))]) (rest := []) C (cwV 2 C.1.2.2.2.2 gL_law_X5_set rfl rfl rfl (by decide +kernel) ⟨Nat.le_of_ble_eq_true rfl, Nat.le_of_ble_eq_true rfl⟩) h01.1 rfl (by decide) rfl rfl (by first | decide | simp [cat_ref, cat_null, cat_int, cat_long, rf_cat]) dL_law_340 (hfM hk5 rfl rfl) (c_mset l G _ h01 hv1 hO hi (Decidable.byContradiction fun q => hb (Or.inl q)) (fun q => hb (Or.inr (Or.inl q))) (Int32.not_lt.mp (fun q => hb (Or.inr (Or.inr q))))) (fun rv z2 h9 => ?_)
      obtain ⟨I2, M2, hm, h192, rfl, hv2⟩ := h9
      refine w_widen (k := 20 + 901 * (k + 1)) (n := 11500 + 3602 * (k + 1)) (wdM rfl) (wdM rfl) ?_
      refine w_istoreB (lvq := [(6, _), (5, _), (4, _), (3, _), (2, _), (1, _), (0, _)]) C 0 rfl rfl (by first | rfl | exact rf_cat _) dL_law_343 (by decide) rfl ?_
      refine w_aload_n C 4 dL_law_345 rfl rfl (by first | rfl | exact isRef_rf _) ?_
      refine w_callV (ci := 6) (As := []) (rest := []) C (cwV 0 C.1.2.2.2.2 gL_law_X5_thrown rfl rfl rfl (by decide +kernel) ⟨Nat.le_of_ble_eq_true rfl, Nat.le_of_ble_eq_true rfl⟩) hm.2.1 rfl (by decide) rfl rfl (by first | decide | simp [cat_ref, cat_null, cat_int, cat_long, rf_cat]) dL_law_346 (hfM hk5 rfl rfl) (c_mThrown l G _ hm.2) (fun rv z3 h9 => ?_)
      obtain ⟨rfl, e9⟩ := h9
      replace e9 := e9.symm
      subst e9
      refine w_widen (k := 20 + 901 * (k + 1)) (n := 11500 + 3602 * (k + 1)) (wdM rfl) (wdM rfl) ?_
      refine w_iload C 1 dL_law_349 rfl ?_
      refine w_icmp_eq (tgt := 356) C dL_law_351 (by decide) (fun c1 => ?_) (fun c1 => ?_)
      · refine w_iload C 1 dL_law_356 rfl ?_
        refine w_if_ne (tgt := 373) C dL_law_358 (by decide) (fun c2 => ?_) (fun c2 => ?_)
        · exact absurd rfl c2
        · refine w_aload_n C 3 dL_law_361 rfl rfl (by first | rfl | exact isRef_rf _) ?_
          refine w_iconst (v := 0) C dL_law_362 (by decide) ?_
          refine w_lald C dL_law_363 (hm.mkF.1 _ _ ho1) (show (0 : Int32) = nI 0 from rfl) (by rw [(hm.mkF.2.2.2 o ho1.1).1, hn2]; decide) (by rw [(hm.mkF.2.2.2 o ho1.1).1, hn2]; decide) ((congrFun (congrFun hm.F o) 0).trans hF1) ?_
          refine w_iload C 0 dL_law_364 rfl ?_
          refine w_i2l C dL_law_366 rfl ?_
          refine w_lcmp C dL_law_367 ?_
          refine w_if_eq (tgt := 373) C dL_law_368 (by decide) (fun c3 => ?_) (fun c3 => ?_)
          · refine w_goto (tgt := 664) C dL_law_373 (by decide) ?_
            refine w_sep C (fun hE => ?_)
            exact w_sub [2, 3, 4, 5, 6] rfl (kk _ (lwI_mk hN1 hm hv2 hE ho1 hn2))
          · exact absurd (lgc _) c3
      · exact absurd h192 c1
set_option maxHeartbeats 4000000 in
set_option maxRecDepth 100000 in
theorem lw_feed {p : Program} {l : Launch} {e : Env} {s : State} {m : MethodId} {below : List Frame} {meth : Method} {c : Code} {G : Gx} {Q : State → Prop} {b L k x mo o : Nat} {xs : Nat → Int32} {z : Sto} (C : Cx p s m #[Value.ref b] meth c cL_law 7 wsL_law RL ret G) (hX : va_X b L xs s s.heap) (hbl : b < s.heap.size) (hGs : G.2.2.1 = s.heap.size) (hL : L ≤ 2048) (hl9 : l.stackTraces = false) (hk : 4 * k + 4 ≤ L) (hI : lwI G z x mo o) (kk : ∀ z', lwI G z' x mo o → Wp p l e room_1 s m #[Value.ref b] below meth c G 7 (20 + 901 * (k + 1)) (11500 + 3602 * (k + 1)) Q z' 664 [(4, .int (nI (4 * k))), (3, .ref o), (2, .ref mo), (1, .ref x), (0, .ref b)] []) : Wp p l e room_1 s m #[Value.ref b] below meth c G 7 (20 + 901 * k) (11500 + 3602 * k) Q z 156 [(4, .int (nI (4 * k))), (3, .ref o), (2, .ref mo), (1, .ref x), (0, .ref b)] [] := by
  obtain ⟨gl, pt, ol, ga, N, A, I, M, h, h0, hv, ho, hn1⟩ := hI
  have hO := h.1
  have hn := hO.1
  have hk5 : k < 512 := by omega
  by_cases hg : xs (4 * k + 3) = 0
  · by_cases hj : xs (4 * k + 1) < 0 ∨ nI (nN N) ≤ xs (4 * k + 1)
    ·
      refine w_aload_n C 3 dL_law_156 rfl rfl (by first | rfl | exact isRef_rf _) ?_
      refine w_aload_n C 4 dL_law_157 rfl rfl (by first | rfl | exact isRef_rf _) ?_
      refine w_iload C 0 dL_law_158 rfl ?_
      refine w_iconst (v := 1) C dL_law_160 (by decide) ?_
      refine w_iadd C dL_law_161 ?_
      refine w_sld (n := 4 * k + 1) C hX hbl hGs hL (show nI (4 * k) + 1 = nI (4 * k + 1) from nI_p (4 * k) 1) (by omega) dL_law_162 ?_
      refine w_aload_n C 4 dL_law_163 rfl rfl (by first | rfl | exact isRef_rf _) ?_
      refine w_iload C 0 dL_law_164 rfl ?_
      refine w_iconst (v := 2) C dL_law_166 (by decide) ?_
      refine w_iadd C dL_law_167 ?_
      refine w_sld (n := 4 * k + 2) C hX hbl hGs hL (show nI (4 * k) + 2 = nI (4 * k + 2) from nI_p (4 * k) 2) (by omega) dL_law_168 ?_
      refine w_aload_n C 4 dL_law_169 rfl rfl (by first | rfl | exact isRef_rf _) ?_
      refine w_iload C 0 dL_law_170 rfl ?_
      refine w_iconst (v := 3) C dL_law_172 (by decide) ?_
      refine w_iadd C dL_law_173 ?_
      refine w_sld (n := 4 * k + 3) C hX hbl hGs hL (show nI (4 * k) + 3 = nI (4 * k + 3) from nI_p (4 * k) 3) (by omega) dL_law_174 ?_
      refine w_if_eq (tgt := 182) C dL_law_175 (by decide) (fun g1 => ?_) (fun g1 => ?_)
      · refine w_iconst (v := 0) C dL_law_182 (by decide) ?_
        refine w_aload_n C 1 dL_law_183 rfl rfl (by first | rfl | exact isRef_rf _) ?_
        refine w_callSW (As := [.ref x, .int (xs (4 * k + 1)), .int (xs (4 * k + 2)), .int 0, .ref o]) (rest := []) C (vx_cwSW 5 C.1.2.2.2.2 gL_law_L_feed rfl rfl rfl (by decide +kernel) ⟨Nat.le_of_ble_eq_true rfl, Nat.le_of_ble_eq_true rfl⟩) rfl rfl (by first | decide | simp [cat_ref, cat_null, cat_int, cat_long, rf_cat]) dL_law_184 (hfW hk5 (by decide) (by decide)) (x_Lfeed l G z hl9 h hj) (fun rv z1 h9 => ?_)
        obtain ⟨rfl, e9⟩ := h9
        replace e9 := e9.symm
        subst e9
        have hN1 := h
        have h01 := h0
        have hv1 := hv
        have ho1 := ho
        have hn2 := hn1
        refine w_widen (k := 20 + 901 * (k + 1)) (n := 11500 + 3602 * (k + 1)) (wdW (by decide)) (wdS (by decide)) ?_
        refine w_istoreB (lvq := [(5, _), (4, _), (3, _), (2, _), (1, _), (0, _)]) C 0 rfl rfl (by first | rfl | exact rf_cat _) dL_law_187 (by decide) rfl ?_
        refine w_aload_n C 3 dL_law_189 rfl rfl (by first | rfl | exact isRef_rf _) ?_
        refine w_aload_n C 5 dL_law_190 rfl rfl (by first | rfl | exact isRef_rf _) ?_
        refine w_iload C 1 dL_law_191 rfl ?_
        refine w_iconst (v := 1) C dL_law_193 (by decide) ?_
        refine w_iadd C dL_law_194 ?_
        refine w_sld (n := 4 * k + 1) C hX hbl hGs hL (show nI (4 * k) + 1 = nI (4 * k + 1) from nI_p (4 * k) 1) (by omega) dL_law_195 ?_
        refine w_aload_n C 5 dL_law_196 rfl rfl (by first | rfl | exact isRef_rf _) ?_
        refine w_iload C 1 dL_law_197 rfl ?_
        refine w_iconst (v := 2) C dL_law_199 (by decide) ?_
        refine w_iadd C dL_law_200 ?_
        refine w_sld (n := 4 * k + 2) C hX hbl hGs hL (show nI (4 * k) + 2 = nI (4 * k + 2) from nI_p (4 * k) 2) (by omega) dL_law_201 ?_
        refine w_aload_n C 5 dL_law_202 rfl rfl (by first | rfl | exact isRef_rf _) ?_
        refine w_iload C 1 dL_law_203 rfl ?_
        refine w_iconst (v := 3) C dL_law_205 (by decide) ?_
        refine w_iadd C dL_law_206 ?_
        refine w_sld (n := 4 * k + 3) C hX hbl hGs hL (show nI (4 * k) + 3 = nI (4 * k + 3) from nI_p (4 * k) 3) (by omega) dL_law_207 ?_
        refine w_if_eq (tgt := 215) C dL_law_208 (by decide) (fun g1 => ?_) (fun g1 => ?_)
        · refine w_iconst (v := 0) C dL_law_215 (by decide) ?_
          refine w_callV (ci := 6) (As := [.int (xs (4 * k + 1)), .int (xs (4 * k + 2)), .int 0]) (rest := []) C (cwV 3 C.1.2.2.2.2 gL_law_X5_feed rfl rfl rfl (by decide +kernel) ⟨Nat.le_of_ble_eq_true rfl, Nat.le_of_ble_eq_true rfl⟩) h01.1 rfl (by decide) rfl rfl (by first | decide | simp [cat_ref, cat_null, cat_int, cat_long, rf_cat]) dL_law_216 (hfM hk5 rfl rfl) (x_mfeed l G _ h01 hv1 hO hj) (fun rv z2 h9 => ?_)
          obtain ⟨⟨v2, rfl⟩, hm⟩ := h9
          have h192 : va_up I 192 1 192 = 1 := if_pos rfl
          have hv2 := hv1.P (f := 192) 1 (by decide) (by decide) (by decide)
          refine w_widen (k := 20 + 901 * (k + 1)) (n := 11500 + 3602 * (k + 1)) (wdM rfl) (wdM rfl) ?_
          refine w_istoreB (lvq := [(6, _), (5, _), (4, _), (3, _), (2, _), (1, _), (0, _)]) C 0 rfl rfl (by first | rfl | exact rf_cat _) dL_law_219 (by decide) rfl ?_
          refine w_aload_n C 4 dL_law_221 rfl rfl (by first | rfl | exact isRef_rf _) ?_
          refine w_callV (ci := 6) (As := []) (rest := []) C (cwV 0 C.1.2.2.2.2 gL_law_X5_thrown rfl rfl rfl (by decide +kernel) ⟨Nat.le_of_ble_eq_true rfl, Nat.le_of_ble_eq_true rfl⟩) hm.2.1 rfl (by decide) rfl rfl (by first | decide | simp [cat_ref, cat_null, cat_int, cat_long, rf_cat]) dL_law_222 (hfM hk5 rfl rfl) (c_mThrown l G _ hm.2) (fun rv z3 h9 => ?_)
          obtain ⟨rfl, e9⟩ := h9
          replace e9 := e9.symm
          subst e9
          refine w_widen (k := 20 + 901 * (k + 1)) (n := 11500 + 3602 * (k + 1)) (wdM rfl) (wdM rfl) ?_
          refine w_iload C 1 dL_law_225 rfl ?_
          refine w_icmp_eq (tgt := 232) C dL_law_227 (by decide) (fun c1 => ?_) (fun c1 => ?_)
          · refine w_iload C 1 dL_law_232 rfl ?_
            refine w_if_ne (tgt := 249) C dL_law_234 (by decide) (fun c2 => ?_) (fun c2 => ?_)
            · refine w_goto (tgt := 664) C dL_law_249 (by decide) ?_
              refine w_sep C (fun hE => ?_)
              exact w_sub [2, 3, 4, 5, 6] rfl (kk _ (lwI_mk hN1 hm hv2 hE ho1 hn2))
            · exact absurd c2 (by decide)
          · exact absurd h192 c1
        · exact absurd hg g1
      · exact absurd hg g1
    · obtain ⟨t, ht, e1⟩ := idx_of hn hj
      have hX1 : xs (4 * k + 1) = nI t := e1
      by_cases hj2 : xs (4 * k + 2) < 0 ∨ nI (nN N) ≤ xs (4 * k + 2)
      ·
        refine w_aload_n C 3 dL_law_156 rfl rfl (by first | rfl | exact isRef_rf _) ?_
        refine w_aload_n C 4 dL_law_157 rfl rfl (by first | rfl | exact isRef_rf _) ?_
        refine w_iload C 0 dL_law_158 rfl ?_
        refine w_iconst (v := 1) C dL_law_160 (by decide) ?_
        refine w_iadd C dL_law_161 ?_
        refine w_sld (n := 4 * k + 1) C hX hbl hGs hL (show nI (4 * k) + 1 = nI (4 * k + 1) from nI_p (4 * k) 1) (by omega) dL_law_162 ?_
        rw [hX1]
        refine w_aload_n C 4 dL_law_163 rfl rfl (by first | rfl | exact isRef_rf _) ?_
        refine w_iload C 0 dL_law_164 rfl ?_
        refine w_iconst (v := 2) C dL_law_166 (by decide) ?_
        refine w_iadd C dL_law_167 ?_
        refine w_sld (n := 4 * k + 2) C hX hbl hGs hL (show nI (4 * k) + 2 = nI (4 * k + 2) from nI_p (4 * k) 2) (by omega) dL_law_168 ?_
        refine w_aload_n C 4 dL_law_169 rfl rfl (by first | rfl | exact isRef_rf _) ?_
        refine w_iload C 0 dL_law_170 rfl ?_
        refine w_iconst (v := 3) C dL_law_172 (by decide) ?_
        refine w_iadd C dL_law_173 ?_
        refine w_sld (n := 4 * k + 3) C hX hbl hGs hL (show nI (4 * k) + 3 = nI (4 * k + 3) from nI_p (4 * k) 3) (by omega) dL_law_174 ?_
        refine w_if_eq (tgt := 182) C dL_law_175 (by decide) (fun g1 => ?_) (fun g1 => ?_)
        · refine w_iconst (v := 0) C dL_law_182 (by decide) ?_
          refine w_aload_n C 1 dL_law_183 rfl rfl (by first | rfl | exact isRef_rf _) ?_
          refine w_callSW (As := [.ref x, .int (nI t), .int (xs (4 * k + 2)), .int 0, .ref o]) (rest := []) C (vx_cwSW 5 C.1.2.2.2.2 gL_law_L_feed rfl rfl rfl (by decide +kernel) ⟨Nat.le_of_ble_eq_true rfl, Nat.le_of_ble_eq_true rfl⟩) rfl rfl (by first | decide | simp [cat_ref, cat_null, cat_int, cat_long, rf_cat]) dL_law_184 (hfW hk5 (by decide) (by decide)) (x_Lfeed2 l G z hl9 h ht hj2) (fun rv z1 h9 => ?_)
          obtain ⟨rfl, e9⟩ := h9
          replace e9 := e9.symm
          subst e9
          have hN1 := h
          have h01 := h0
          have hv1 := hv
          have ho1 := ho
          have hn2 := hn1
          refine w_widen (k := 20 + 901 * (k + 1)) (n := 11500 + 3602 * (k + 1)) (wdW (by decide)) (wdS (by decide)) ?_
          refine w_istoreB (lvq := [(5, _), (4, _), (3, _), (2, _), (1, _), (0, _)]) C 0 rfl rfl (by first | rfl | exact rf_cat _) dL_law_187 (by decide) rfl ?_
          refine w_aload_n C 3 dL_law_189 rfl rfl (by first | rfl | exact isRef_rf _) ?_
          refine w_aload_n C 5 dL_law_190 rfl rfl (by first | rfl | exact isRef_rf _) ?_
          refine w_iload C 1 dL_law_191 rfl ?_
          refine w_iconst (v := 1) C dL_law_193 (by decide) ?_
          refine w_iadd C dL_law_194 ?_
          refine w_sld (n := 4 * k + 1) C hX hbl hGs hL (show nI (4 * k) + 1 = nI (4 * k + 1) from nI_p (4 * k) 1) (by omega) dL_law_195 ?_
          rw [hX1]
          refine w_aload_n C 5 dL_law_196 rfl rfl (by first | rfl | exact isRef_rf _) ?_
          refine w_iload C 1 dL_law_197 rfl ?_
          refine w_iconst (v := 2) C dL_law_199 (by decide) ?_
          refine w_iadd C dL_law_200 ?_
          refine w_sld (n := 4 * k + 2) C hX hbl hGs hL (show nI (4 * k) + 2 = nI (4 * k + 2) from nI_p (4 * k) 2) (by omega) dL_law_201 ?_
          refine w_aload_n C 5 dL_law_202 rfl rfl (by first | rfl | exact isRef_rf _) ?_
          refine w_iload C 1 dL_law_203 rfl ?_
          refine w_iconst (v := 3) C dL_law_205 (by decide) ?_
          refine w_iadd C dL_law_206 ?_
          refine w_sld (n := 4 * k + 3) C hX hbl hGs hL (show nI (4 * k) + 3 = nI (4 * k + 3) from nI_p (4 * k) 3) (by omega) dL_law_207 ?_
          refine w_if_eq (tgt := 215) C dL_law_208 (by decide) (fun g1 => ?_) (fun g1 => ?_)
          · refine w_iconst (v := 0) C dL_law_215 (by decide) ?_
            refine w_callV (ci := 6) (As := [.int (nI t), .int (xs (4 * k + 2)), .int 0]) (rest := []) C (cwV 3 C.1.2.2.2.2 gL_law_X5_feed rfl rfl rfl (by decide +kernel) ⟨Nat.le_of_ble_eq_true rfl, Nat.le_of_ble_eq_true rfl⟩) h01.1 rfl (by decide) rfl rfl (by first | decide | simp [cat_ref, cat_null, cat_int, cat_long, rf_cat]) dL_law_216 (hfM hk5 rfl rfl) (x_mfeed2 l G _ h01 hv1 hO ht hj2) (fun rv z2 h9 => ?_)
            obtain ⟨⟨v2, rfl⟩, hm⟩ := h9
            have h192 : va_up I 192 1 192 = 1 := if_pos rfl
            have hv2 := hv1.P (f := 192) 1 (by decide) (by decide) (by decide)
            refine w_widen (k := 20 + 901 * (k + 1)) (n := 11500 + 3602 * (k + 1)) (wdM rfl) (wdM rfl) ?_
            refine w_istoreB (lvq := [(6, _), (5, _), (4, _), (3, _), (2, _), (1, _), (0, _)]) C 0 rfl rfl (by first | rfl | exact rf_cat _) dL_law_219 (by decide) rfl ?_
            refine w_aload_n C 4 dL_law_221 rfl rfl (by first | rfl | exact isRef_rf _) ?_
            refine w_callV (ci := 6) (As := []) (rest := []) C (cwV 0 C.1.2.2.2.2 gL_law_X5_thrown rfl rfl rfl (by decide +kernel) ⟨Nat.le_of_ble_eq_true rfl, Nat.le_of_ble_eq_true rfl⟩) hm.2.1 rfl (by decide) rfl rfl (by first | decide | simp [cat_ref, cat_null, cat_int, cat_long, rf_cat]) dL_law_222 (hfM hk5 rfl rfl) (c_mThrown l G _ hm.2) (fun rv z3 h9 => ?_)
            obtain ⟨rfl, e9⟩ := h9
            replace e9 := e9.symm
            subst e9
            refine w_widen (k := 20 + 901 * (k + 1)) (n := 11500 + 3602 * (k + 1)) (wdM rfl) (wdM rfl) ?_
            refine w_iload C 1 dL_law_225 rfl ?_
            refine w_icmp_eq (tgt := 232) C dL_law_227 (by decide) (fun c1 => ?_) (fun c1 => ?_)
            · refine w_iload C 1 dL_law_232 rfl ?_
              refine w_if_ne (tgt := 249) C dL_law_234 (by decide) (fun c2 => ?_) (fun c2 => ?_)
              · refine w_goto (tgt := 664) C dL_law_249 (by decide) ?_
                refine w_sep C (fun hE => ?_)
                exact w_sub [2, 3, 4, 5, 6] rfl (kk _ (lwI_mk hN1 hm hv2 hE ho1 hn2))
              · exact absurd c2 (by decide)
            · exact absurd h192 c1
          · exact absurd hg g1
        · exact absurd hg g1
      · obtain ⟨f, hf, e2⟩ := idx_of hn hj2
        have hX2 : xs (4 * k + 2) = nI f := e2
        by_cases hc : nCan N t
        ·
          refine w_aload_n C 3 dL_law_156 rfl rfl (by first | rfl | exact isRef_rf _) ?_
          refine w_aload_n C 4 dL_law_157 rfl rfl (by first | rfl | exact isRef_rf _) ?_
          refine w_iload C 0 dL_law_158 rfl ?_
          refine w_iconst (v := 1) C dL_law_160 (by decide) ?_
          refine w_iadd C dL_law_161 ?_
          refine w_sld (n := 4 * k + 1) C hX hbl hGs hL (show nI (4 * k) + 1 = nI (4 * k + 1) from nI_p (4 * k) 1) (by omega) dL_law_162 ?_
          rw [hX1]
          refine w_aload_n C 4 dL_law_163 rfl rfl (by first | rfl | exact isRef_rf _) ?_
          refine w_iload C 0 dL_law_164 rfl ?_
          refine w_iconst (v := 2) C dL_law_166 (by decide) ?_
          refine w_iadd C dL_law_167 ?_
          refine w_sld (n := 4 * k + 2) C hX hbl hGs hL (show nI (4 * k) + 2 = nI (4 * k + 2) from nI_p (4 * k) 2) (by omega) dL_law_168 ?_
          rw [hX2]
          refine w_aload_n C 4 dL_law_169 rfl rfl (by first | rfl | exact isRef_rf _) ?_
          refine w_iload C 0 dL_law_170 rfl ?_
          refine w_iconst (v := 3) C dL_law_172 (by decide) ?_
          refine w_iadd C dL_law_173 ?_
          refine w_sld (n := 4 * k + 3) C hX hbl hGs hL (show nI (4 * k) + 3 = nI (4 * k + 3) from nI_p (4 * k) 3) (by omega) dL_law_174 ?_
          refine w_if_eq (tgt := 182) C dL_law_175 (by decide) (fun g1 => ?_) (fun g1 => ?_)
          · refine w_iconst (v := 0) C dL_law_182 (by decide) ?_
            refine w_aload_n C 1 dL_law_183 rfl rfl (by first | rfl | exact isRef_rf _) ?_
            refine w_callSW (As := [.ref x, .int (nI t), .int (nI f), .int 0, .ref o]) (rest := []) C (vx_cwSW 5 C.1.2.2.2.2 gL_law_L_feed rfl rfl rfl (by decide +kernel) ⟨Nat.le_of_ble_eq_true rfl, Nat.le_of_ble_eq_true rfl⟩) rfl rfl (by first | decide | simp [cat_ref, cat_null, cat_int, cat_long, rf_cat]) dL_law_184 (hfW hk5 (by decide) (by decide)) (c_Lfeed l G z h ht hf (Or.inl rfl) hc ho hn1) (fun rv z1 h9 => ?_)
            obtain ⟨rfl, hlF, N', r1, hr1, hN1, hF1⟩ := h9
            have ho1 := hlF.1 _ _ ho
            have hn2 : sN z1 o = 1 := (hlF.2.2.2 o ho.1).1.trans hn1
            obtain ⟨h01, hII⟩ := mst_lF h0 hlF
            have hv1 : mv (fun f => sI z1 f mo) M N := mv_cg hv hII
            refine w_widen (k := 20 + 901 * (k + 1)) (n := 11500 + 3602 * (k + 1)) (wdW (by decide)) (wdS (by decide)) ?_
            refine w_istoreB (lvq := [(5, _), (4, _), (3, _), (2, _), (1, _), (0, _)]) C 0 rfl rfl (by first | rfl | exact rf_cat _) dL_law_187 (by decide) rfl ?_
            refine w_aload_n C 3 dL_law_189 rfl rfl (by first | rfl | exact isRef_rf _) ?_
            refine w_aload_n C 5 dL_law_190 rfl rfl (by first | rfl | exact isRef_rf _) ?_
            refine w_iload C 1 dL_law_191 rfl ?_
            refine w_iconst (v := 1) C dL_law_193 (by decide) ?_
            refine w_iadd C dL_law_194 ?_
            refine w_sld (n := 4 * k + 1) C hX hbl hGs hL (show nI (4 * k) + 1 = nI (4 * k + 1) from nI_p (4 * k) 1) (by omega) dL_law_195 ?_
            rw [hX1]
            refine w_aload_n C 5 dL_law_196 rfl rfl (by first | rfl | exact isRef_rf _) ?_
            refine w_iload C 1 dL_law_197 rfl ?_
            refine w_iconst (v := 2) C dL_law_199 (by decide) ?_
            refine w_iadd C dL_law_200 ?_
            refine w_sld (n := 4 * k + 2) C hX hbl hGs hL (show nI (4 * k) + 2 = nI (4 * k + 2) from nI_p (4 * k) 2) (by omega) dL_law_201 ?_
            rw [hX2]
            refine w_aload_n C 5 dL_law_202 rfl rfl (by first | rfl | exact isRef_rf _) ?_
            refine w_iload C 1 dL_law_203 rfl ?_
            refine w_iconst (v := 3) C dL_law_205 (by decide) ?_
            refine w_iadd C dL_law_206 ?_
            refine w_sld (n := 4 * k + 3) C hX hbl hGs hL (show nI (4 * k) + 3 = nI (4 * k + 3) from nI_p (4 * k) 3) (by omega) dL_law_207 ?_
            refine w_if_eq (tgt := 215) C dL_law_208 (by decide) (fun g1 => ?_) (fun g1 => ?_)
            · refine w_iconst (v := 0) C dL_law_215 (by decide) ?_
              refine w_callV (ci := 6) (As := [.int (nI t), .int (nI f), .int 0]) (rest := []) C (cwV 3 C.1.2.2.2.2 gL_law_X5_feed rfl rfl rfl (by decide +kernel) ⟨Nat.le_of_ble_eq_true rfl, Nat.le_of_ble_eq_true rfl⟩) h01.1 rfl (by decide) rfl rfl (by first | decide | simp [cat_ref, cat_null, cat_int, cat_long, rf_cat]) dL_law_216 (hfM hk5 rfl rfl) (c_mfeed l G _ h01 hv1 hO ht hf (Or.inl rfl) hc) (fun rv z2 h9 => ?_)
              obtain ⟨I2, M2, hm, h192, h9⟩ := h9
              have h9' : rv = some (.int r1) ∧ mv I2 M2 N' := by
                rcases hr1 with ⟨a1, a2, a3⟩ | ⟨a1, a2, a3⟩ <;> rcases h9 with ⟨b1, b2, b3⟩ | ⟨b1, b2, b3⟩
                · rw [a2, a3]; exact ⟨b2, b3⟩
                · omega
                · omega
                · rw [a2, a3]; exact ⟨b2, b3⟩
              obtain ⟨rfl, hv2⟩ := h9'
              refine w_widen (k := 20 + 901 * (k + 1)) (n := 11500 + 3602 * (k + 1)) (wdM rfl) (wdM rfl) ?_
              refine w_istoreB (lvq := [(6, _), (5, _), (4, _), (3, _), (2, _), (1, _), (0, _)]) C 0 rfl rfl (by first | rfl | exact rf_cat _) dL_law_219 (by decide) rfl ?_
              refine w_aload_n C 4 dL_law_221 rfl rfl (by first | rfl | exact isRef_rf _) ?_
              refine w_callV (ci := 6) (As := []) (rest := []) C (cwV 0 C.1.2.2.2.2 gL_law_X5_thrown rfl rfl rfl (by decide +kernel) ⟨Nat.le_of_ble_eq_true rfl, Nat.le_of_ble_eq_true rfl⟩) hm.2.1 rfl (by decide) rfl rfl (by first | decide | simp [cat_ref, cat_null, cat_int, cat_long, rf_cat]) dL_law_222 (hfM hk5 rfl rfl) (c_mThrown l G _ hm.2) (fun rv z3 h9 => ?_)
              obtain ⟨rfl, e9⟩ := h9
              replace e9 := e9.symm
              subst e9
              refine w_widen (k := 20 + 901 * (k + 1)) (n := 11500 + 3602 * (k + 1)) (wdM rfl) (wdM rfl) ?_
              refine w_iload C 1 dL_law_225 rfl ?_
              refine w_icmp_eq (tgt := 232) C dL_law_227 (by decide) (fun c1 => ?_) (fun c1 => ?_)
              · refine w_iload C 1 dL_law_232 rfl ?_
                refine w_if_ne (tgt := 249) C dL_law_234 (by decide) (fun c2 => ?_) (fun c2 => ?_)
                · exact absurd rfl c2
                · refine w_aload_n C 3 dL_law_237 rfl rfl (by first | rfl | exact isRef_rf _) ?_
                  refine w_iconst (v := 0) C dL_law_238 (by decide) ?_
                  refine w_lald C dL_law_239 (hm.mkF.1 _ _ ho1) (show (0 : Int32) = nI 0 from rfl) (by rw [(hm.mkF.2.2.2 o ho1.1).1, hn2]; decide) (by rw [(hm.mkF.2.2.2 o ho1.1).1, hn2]; decide) ((congrFun (congrFun hm.F o) 0).trans hF1) ?_
                  refine w_iload C 0 dL_law_240 rfl ?_
                  refine w_i2l C dL_law_242 rfl ?_
                  refine w_lcmp C dL_law_243 ?_
                  refine w_if_eq (tgt := 249) C dL_law_244 (by decide) (fun c3 => ?_) (fun c3 => ?_)
                  · refine w_goto (tgt := 664) C dL_law_249 (by decide) ?_
                    refine w_sep C (fun hE => ?_)
                    exact w_sub [2, 3, 4, 5, 6] rfl (kk _ (lwI_mk hN1 hm hv2 hE ho1 hn2))
                  · exact absurd (lgc _) c3
              · exact absurd h192 c1
            · exact absurd hg g1
          · exact absurd hg g1
        ·
          refine w_aload_n C 3 dL_law_156 rfl rfl (by first | rfl | exact isRef_rf _) ?_
          refine w_aload_n C 4 dL_law_157 rfl rfl (by first | rfl | exact isRef_rf _) ?_
          refine w_iload C 0 dL_law_158 rfl ?_
          refine w_iconst (v := 1) C dL_law_160 (by decide) ?_
          refine w_iadd C dL_law_161 ?_
          refine w_sld (n := 4 * k + 1) C hX hbl hGs hL (show nI (4 * k) + 1 = nI (4 * k + 1) from nI_p (4 * k) 1) (by omega) dL_law_162 ?_
          rw [hX1]
          refine w_aload_n C 4 dL_law_163 rfl rfl (by first | rfl | exact isRef_rf _) ?_
          refine w_iload C 0 dL_law_164 rfl ?_
          refine w_iconst (v := 2) C dL_law_166 (by decide) ?_
          refine w_iadd C dL_law_167 ?_
          refine w_sld (n := 4 * k + 2) C hX hbl hGs hL (show nI (4 * k) + 2 = nI (4 * k + 2) from nI_p (4 * k) 2) (by omega) dL_law_168 ?_
          rw [hX2]
          refine w_aload_n C 4 dL_law_169 rfl rfl (by first | rfl | exact isRef_rf _) ?_
          refine w_iload C 0 dL_law_170 rfl ?_
          refine w_iconst (v := 3) C dL_law_172 (by decide) ?_
          refine w_iadd C dL_law_173 ?_
          refine w_sld (n := 4 * k + 3) C hX hbl hGs hL (show nI (4 * k) + 3 = nI (4 * k + 3) from nI_p (4 * k) 3) (by omega) dL_law_174 ?_
          refine w_if_eq (tgt := 182) C dL_law_175 (by decide) (fun g1 => ?_) (fun g1 => ?_)
          · refine w_iconst (v := 0) C dL_law_182 (by decide) ?_
            refine w_aload_n C 1 dL_law_183 rfl rfl (by first | rfl | exact isRef_rf _) ?_
            refine w_callSW (As := [.ref x, .int (nI t), .int (nI f), .int 0, .ref o]) (rest := []) C (vx_cwSW 5 C.1.2.2.2.2 gL_law_L_feed rfl rfl rfl (by decide +kernel) ⟨Nat.le_of_ble_eq_true rfl, Nat.le_of_ble_eq_true rfl⟩) rfl rfl (by first | decide | simp [cat_ref, cat_null, cat_int, cat_long, rf_cat]) dL_law_184 (hfW hk5 (by decide) (by decide)) (x_Lfeed3 l G z hl9 h ht hf hc) (fun rv z1 h9 => ?_)
            obtain ⟨rfl, e9⟩ := h9
            replace e9 := e9.symm
            subst e9
            have hN1 := h
            have h01 := h0
            have hv1 := hv
            have ho1 := ho
            have hn2 := hn1
            refine w_widen (k := 20 + 901 * (k + 1)) (n := 11500 + 3602 * (k + 1)) (wdW (by decide)) (wdS (by decide)) ?_
            refine w_istoreB (lvq := [(5, _), (4, _), (3, _), (2, _), (1, _), (0, _)]) C 0 rfl rfl (by first | rfl | exact rf_cat _) dL_law_187 (by decide) rfl ?_
            refine w_aload_n C 3 dL_law_189 rfl rfl (by first | rfl | exact isRef_rf _) ?_
            refine w_aload_n C 5 dL_law_190 rfl rfl (by first | rfl | exact isRef_rf _) ?_
            refine w_iload C 1 dL_law_191 rfl ?_
            refine w_iconst (v := 1) C dL_law_193 (by decide) ?_
            refine w_iadd C dL_law_194 ?_
            refine w_sld (n := 4 * k + 1) C hX hbl hGs hL (show nI (4 * k) + 1 = nI (4 * k + 1) from nI_p (4 * k) 1) (by omega) dL_law_195 ?_
            rw [hX1]
            refine w_aload_n C 5 dL_law_196 rfl rfl (by first | rfl | exact isRef_rf _) ?_
            refine w_iload C 1 dL_law_197 rfl ?_
            refine w_iconst (v := 2) C dL_law_199 (by decide) ?_
            refine w_iadd C dL_law_200 ?_
            refine w_sld (n := 4 * k + 2) C hX hbl hGs hL (show nI (4 * k) + 2 = nI (4 * k + 2) from nI_p (4 * k) 2) (by omega) dL_law_201 ?_
            rw [hX2]
            refine w_aload_n C 5 dL_law_202 rfl rfl (by first | rfl | exact isRef_rf _) ?_
            refine w_iload C 1 dL_law_203 rfl ?_
            refine w_iconst (v := 3) C dL_law_205 (by decide) ?_
            refine w_iadd C dL_law_206 ?_
            refine w_sld (n := 4 * k + 3) C hX hbl hGs hL (show nI (4 * k) + 3 = nI (4 * k + 3) from nI_p (4 * k) 3) (by omega) dL_law_207 ?_
            refine w_if_eq (tgt := 215) C dL_law_208 (by decide) (fun g1 => ?_) (fun g1 => ?_)
            · refine w_iconst (v := 0) C dL_law_215 (by decide) ?_
              refine w_callV (ci := 6) (As := [.int (nI t), .int (nI f), .int 0]) (rest := []) C (cwV 3 C.1.2.2.2.2 gL_law_X5_feed rfl rfl rfl (by decide +kernel) ⟨Nat.le_of_ble_eq_true rfl, Nat.le_of_ble_eq_true rfl⟩) h01.1 rfl (by decide) rfl rfl (by first | decide | simp [cat_ref, cat_null, cat_int, cat_long, rf_cat]) dL_law_216 (hfM hk5 rfl rfl) (x_mfeed3 l G _ h01 hv1 hO ht hf hc) (fun rv z2 h9 => ?_)
              obtain ⟨⟨v2, rfl⟩, hm⟩ := h9
              have h192 : va_up I 192 2 192 = 2 := if_pos rfl
              have hv2 := hv1.P (f := 192) 2 (by decide) (by decide) (by decide)
              refine w_widen (k := 20 + 901 * (k + 1)) (n := 11500 + 3602 * (k + 1)) (wdM rfl) (wdM rfl) ?_
              refine w_istoreB (lvq := [(6, _), (5, _), (4, _), (3, _), (2, _), (1, _), (0, _)]) C 0 rfl rfl (by first | rfl | exact rf_cat _) dL_law_219 (by decide) rfl ?_
              refine w_aload_n C 4 dL_law_221 rfl rfl (by first | rfl | exact isRef_rf _) ?_
              refine w_callV (ci := 6) (As := []) (rest := []) C (cwV 0 C.1.2.2.2.2 gL_law_X5_thrown rfl rfl rfl (by decide +kernel) ⟨Nat.le_of_ble_eq_true rfl, Nat.le_of_ble_eq_true rfl⟩) hm.2.1 rfl (by decide) rfl rfl (by first | decide | simp [cat_ref, cat_null, cat_int, cat_long, rf_cat]) dL_law_222 (hfM hk5 rfl rfl) (c_mThrown l G _ hm.2) (fun rv z3 h9 => ?_)
              obtain ⟨rfl, e9⟩ := h9
              replace e9 := e9.symm
              subst e9
              refine w_widen (k := 20 + 901 * (k + 1)) (n := 11500 + 3602 * (k + 1)) (wdM rfl) (wdM rfl) ?_
              refine w_iload C 1 dL_law_225 rfl ?_
              refine w_icmp_eq (tgt := 232) C dL_law_227 (by decide) (fun c1 => ?_) (fun c1 => ?_)
              · refine w_iload C 1 dL_law_232 rfl ?_
                refine w_if_ne (tgt := 249) C dL_law_234 (by decide) (fun c2 => ?_) (fun c2 => ?_)
                · refine w_goto (tgt := 664) C dL_law_249 (by decide) ?_
                  refine w_sep C (fun hE => ?_)
                  exact w_sub [2, 3, 4, 5, 6] rfl (kk _ (lwI_mk hN1 hm hv2 hE ho1 hn2))
                · exact absurd c2 (by decide)
              · exact absurd h192 c1
            · exact absurd hg g1
          · exact absurd hg g1
  · by_cases hj : xs (4 * k + 1) < 0 ∨ nI (nN N) ≤ xs (4 * k + 1)
    ·
      refine w_aload_n C 3 dL_law_156 rfl rfl (by first | rfl | exact isRef_rf _) ?_
      refine w_aload_n C 4 dL_law_157 rfl rfl (by first | rfl | exact isRef_rf _) ?_
      refine w_iload C 0 dL_law_158 rfl ?_
      refine w_iconst (v := 1) C dL_law_160 (by decide) ?_
      refine w_iadd C dL_law_161 ?_
      refine w_sld (n := 4 * k + 1) C hX hbl hGs hL (show nI (4 * k) + 1 = nI (4 * k + 1) from nI_p (4 * k) 1) (by omega) dL_law_162 ?_
      refine w_aload_n C 4 dL_law_163 rfl rfl (by first | rfl | exact isRef_rf _) ?_
      refine w_iload C 0 dL_law_164 rfl ?_
      refine w_iconst (v := 2) C dL_law_166 (by decide) ?_
      refine w_iadd C dL_law_167 ?_
      refine w_sld (n := 4 * k + 2) C hX hbl hGs hL (show nI (4 * k) + 2 = nI (4 * k + 2) from nI_p (4 * k) 2) (by omega) dL_law_168 ?_
      refine w_aload_n C 4 dL_law_169 rfl rfl (by first | rfl | exact isRef_rf _) ?_
      refine w_iload C 0 dL_law_170 rfl ?_
      refine w_iconst (v := 3) C dL_law_172 (by decide) ?_
      refine w_iadd C dL_law_173 ?_
      refine w_sld (n := 4 * k + 3) C hX hbl hGs hL (show nI (4 * k) + 3 = nI (4 * k + 3) from nI_p (4 * k) 3) (by omega) dL_law_174 ?_
      refine w_if_eq (tgt := 182) C dL_law_175 (by decide) (fun g1 => ?_) (fun g1 => ?_)
      · exact absurd g1 hg
      · refine w_iconst (v := 1) C dL_law_178 (by decide) ?_
        refine w_goto (tgt := 183) C dL_law_179 (by decide) ?_
        refine w_aload_n C 1 dL_law_183 rfl rfl (by first | rfl | exact isRef_rf _) ?_
        refine w_callSW (As := [.ref x, .int (xs (4 * k + 1)), .int (xs (4 * k + 2)), .int 1, .ref o]) (rest := []) C (vx_cwSW 5 C.1.2.2.2.2 gL_law_L_feed rfl rfl rfl (by decide +kernel) ⟨Nat.le_of_ble_eq_true rfl, Nat.le_of_ble_eq_true rfl⟩) rfl rfl (by first | decide | simp [cat_ref, cat_null, cat_int, cat_long, rf_cat]) dL_law_184 (hfW hk5 (by decide) (by decide)) (x_Lfeed l G z hl9 h hj) (fun rv z1 h9 => ?_)
        obtain ⟨rfl, e9⟩ := h9
        replace e9 := e9.symm
        subst e9
        have hN1 := h
        have h01 := h0
        have hv1 := hv
        have ho1 := ho
        have hn2 := hn1
        refine w_widen (k := 20 + 901 * (k + 1)) (n := 11500 + 3602 * (k + 1)) (wdW (by decide)) (wdS (by decide)) ?_
        refine w_istoreB (lvq := [(5, _), (4, _), (3, _), (2, _), (1, _), (0, _)]) C 0 rfl rfl (by first | rfl | exact rf_cat _) dL_law_187 (by decide) rfl ?_
        refine w_aload_n C 3 dL_law_189 rfl rfl (by first | rfl | exact isRef_rf _) ?_
        refine w_aload_n C 5 dL_law_190 rfl rfl (by first | rfl | exact isRef_rf _) ?_
        refine w_iload C 1 dL_law_191 rfl ?_
        refine w_iconst (v := 1) C dL_law_193 (by decide) ?_
        refine w_iadd C dL_law_194 ?_
        refine w_sld (n := 4 * k + 1) C hX hbl hGs hL (show nI (4 * k) + 1 = nI (4 * k + 1) from nI_p (4 * k) 1) (by omega) dL_law_195 ?_
        refine w_aload_n C 5 dL_law_196 rfl rfl (by first | rfl | exact isRef_rf _) ?_
        refine w_iload C 1 dL_law_197 rfl ?_
        refine w_iconst (v := 2) C dL_law_199 (by decide) ?_
        refine w_iadd C dL_law_200 ?_
        refine w_sld (n := 4 * k + 2) C hX hbl hGs hL (show nI (4 * k) + 2 = nI (4 * k + 2) from nI_p (4 * k) 2) (by omega) dL_law_201 ?_
        refine w_aload_n C 5 dL_law_202 rfl rfl (by first | rfl | exact isRef_rf _) ?_
        refine w_iload C 1 dL_law_203 rfl ?_
        refine w_iconst (v := 3) C dL_law_205 (by decide) ?_
        refine w_iadd C dL_law_206 ?_
        refine w_sld (n := 4 * k + 3) C hX hbl hGs hL (show nI (4 * k) + 3 = nI (4 * k + 3) from nI_p (4 * k) 3) (by omega) dL_law_207 ?_
        refine w_if_eq (tgt := 215) C dL_law_208 (by decide) (fun g1 => ?_) (fun g1 => ?_)
        · exact absurd g1 hg
        · refine w_iconst (v := 1) C dL_law_211 (by decide) ?_
          refine w_goto (tgt := 216) C dL_law_212 (by decide) ?_
          refine w_callV (ci := 6) (As := [.int (xs (4 * k + 1)), .int (xs (4 * k + 2)), .int 1]) (rest := []) C (cwV 3 C.1.2.2.2.2 gL_law_X5_feed rfl rfl rfl (by decide +kernel) ⟨Nat.le_of_ble_eq_true rfl, Nat.le_of_ble_eq_true rfl⟩) h01.1 rfl (by decide) rfl rfl (by first | decide | simp [cat_ref, cat_null, cat_int, cat_long, rf_cat]) dL_law_216 (hfM hk5 rfl rfl) (x_mfeed l G _ h01 hv1 hO hj) (fun rv z2 h9 => ?_)
          obtain ⟨⟨v2, rfl⟩, hm⟩ := h9
          have h192 : va_up I 192 1 192 = 1 := if_pos rfl
          have hv2 := hv1.P (f := 192) 1 (by decide) (by decide) (by decide)
          refine w_widen (k := 20 + 901 * (k + 1)) (n := 11500 + 3602 * (k + 1)) (wdM rfl) (wdM rfl) ?_
          refine w_istoreB (lvq := [(6, _), (5, _), (4, _), (3, _), (2, _), (1, _), (0, _)]) C 0 rfl rfl (by first | rfl | exact rf_cat _) dL_law_219 (by decide) rfl ?_
          refine w_aload_n C 4 dL_law_221 rfl rfl (by first | rfl | exact isRef_rf _) ?_
          refine w_callV (ci := 6) (As := []) (rest := []) C (cwV 0 C.1.2.2.2.2 gL_law_X5_thrown rfl rfl rfl (by decide +kernel) ⟨Nat.le_of_ble_eq_true rfl, Nat.le_of_ble_eq_true rfl⟩) hm.2.1 rfl (by decide) rfl rfl (by first | decide | simp [cat_ref, cat_null, cat_int, cat_long, rf_cat]) dL_law_222 (hfM hk5 rfl rfl) (c_mThrown l G _ hm.2) (fun rv z3 h9 => ?_)
          obtain ⟨rfl, e9⟩ := h9
          replace e9 := e9.symm
          subst e9
          refine w_widen (k := 20 + 901 * (k + 1)) (n := 11500 + 3602 * (k + 1)) (wdM rfl) (wdM rfl) ?_
          refine w_iload C 1 dL_law_225 rfl ?_
          refine w_icmp_eq (tgt := 232) C dL_law_227 (by decide) (fun c1 => ?_) (fun c1 => ?_)
          · refine w_iload C 1 dL_law_232 rfl ?_
            refine w_if_ne (tgt := 249) C dL_law_234 (by decide) (fun c2 => ?_) (fun c2 => ?_)
            · refine w_goto (tgt := 664) C dL_law_249 (by decide) ?_
              refine w_sep C (fun hE => ?_)
              exact w_sub [2, 3, 4, 5, 6] rfl (kk _ (lwI_mk hN1 hm hv2 hE ho1 hn2))
            · exact absurd c2 (by decide)
          · exact absurd h192 c1
    · obtain ⟨t, ht, e1⟩ := idx_of hn hj
      have hX1 : xs (4 * k + 1) = nI t := e1
      by_cases hj2 : xs (4 * k + 2) < 0 ∨ nI (nN N) ≤ xs (4 * k + 2)
      ·
        refine w_aload_n C 3 dL_law_156 rfl rfl (by first | rfl | exact isRef_rf _) ?_
        refine w_aload_n C 4 dL_law_157 rfl rfl (by first | rfl | exact isRef_rf _) ?_
        refine w_iload C 0 dL_law_158 rfl ?_
        refine w_iconst (v := 1) C dL_law_160 (by decide) ?_
        refine w_iadd C dL_law_161 ?_
        refine w_sld (n := 4 * k + 1) C hX hbl hGs hL (show nI (4 * k) + 1 = nI (4 * k + 1) from nI_p (4 * k) 1) (by omega) dL_law_162 ?_
        rw [hX1]
        refine w_aload_n C 4 dL_law_163 rfl rfl (by first | rfl | exact isRef_rf _) ?_
        refine w_iload C 0 dL_law_164 rfl ?_
        refine w_iconst (v := 2) C dL_law_166 (by decide) ?_
        refine w_iadd C dL_law_167 ?_
        refine w_sld (n := 4 * k + 2) C hX hbl hGs hL (show nI (4 * k) + 2 = nI (4 * k + 2) from nI_p (4 * k) 2) (by omega) dL_law_168 ?_
        refine w_aload_n C 4 dL_law_169 rfl rfl (by first | rfl | exact isRef_rf _) ?_
        refine w_iload C 0 dL_law_170 rfl ?_
        refine w_iconst (v := 3) C dL_law_172 (by decide) ?_
        refine w_iadd C dL_law_173 ?_
        refine w_sld (n := 4 * k + 3) C hX hbl hGs hL (show nI (4 * k) + 3 = nI (4 * k + 3) from nI_p (4 * k) 3) (by omega) dL_law_174 ?_
        refine w_if_eq (tgt := 182) C dL_law_175 (by decide) (fun g1 => ?_) (fun g1 => ?_)
        · exact absurd g1 hg
        · refine w_iconst (v := 1) C dL_law_178 (by decide) ?_
          refine w_goto (tgt := 183) C dL_law_179 (by decide) ?_
          refine w_aload_n C 1 dL_law_183 rfl rfl (by first | rfl | exact isRef_rf _) ?_
          refine w_callSW (As := [.ref x, .int (nI t), .int (xs (4 * k + 2)), .int 1, .ref o]) (rest := []) C (vx_cwSW 5 C.1.2.2.2.2 gL_law_L_feed rfl rfl rfl (by decide +kernel) ⟨Nat.le_of_ble_eq_true rfl, Nat.le_of_ble_eq_true rfl⟩) rfl rfl (by first | decide | simp [cat_ref, cat_null, cat_int, cat_long, rf_cat]) dL_law_184 (hfW hk5 (by decide) (by decide)) (x_Lfeed2 l G z hl9 h ht hj2) (fun rv z1 h9 => ?_)
          obtain ⟨rfl, e9⟩ := h9
          replace e9 := e9.symm
          subst e9
          have hN1 := h
          have h01 := h0
          have hv1 := hv
          have ho1 := ho
          have hn2 := hn1
          refine w_widen (k := 20 + 901 * (k + 1)) (n := 11500 + 3602 * (k + 1)) (wdW (by decide)) (wdS (by decide)) ?_
          refine w_istoreB (lvq := [(5, _), (4, _), (3, _), (2, _), (1, _), (0, _)]) C 0 rfl rfl (by first | rfl | exact rf_cat _) dL_law_187 (by decide) rfl ?_
          refine w_aload_n C 3 dL_law_189 rfl rfl (by first | rfl | exact isRef_rf _) ?_
          refine w_aload_n C 5 dL_law_190 rfl rfl (by first | rfl | exact isRef_rf _) ?_
          refine w_iload C 1 dL_law_191 rfl ?_
          refine w_iconst (v := 1) C dL_law_193 (by decide) ?_
          refine w_iadd C dL_law_194 ?_
          refine w_sld (n := 4 * k + 1) C hX hbl hGs hL (show nI (4 * k) + 1 = nI (4 * k + 1) from nI_p (4 * k) 1) (by omega) dL_law_195 ?_
          rw [hX1]
          refine w_aload_n C 5 dL_law_196 rfl rfl (by first | rfl | exact isRef_rf _) ?_
          refine w_iload C 1 dL_law_197 rfl ?_
          refine w_iconst (v := 2) C dL_law_199 (by decide) ?_
          refine w_iadd C dL_law_200 ?_
          refine w_sld (n := 4 * k + 2) C hX hbl hGs hL (show nI (4 * k) + 2 = nI (4 * k + 2) from nI_p (4 * k) 2) (by omega) dL_law_201 ?_
          refine w_aload_n C 5 dL_law_202 rfl rfl (by first | rfl | exact isRef_rf _) ?_
          refine w_iload C 1 dL_law_203 rfl ?_
          refine w_iconst (v := 3) C dL_law_205 (by decide) ?_
          refine w_iadd C dL_law_206 ?_
          refine w_sld (n := 4 * k + 3) C hX hbl hGs hL (show nI (4 * k) + 3 = nI (4 * k + 3) from nI_p (4 * k) 3) (by omega) dL_law_207 ?_
          refine w_if_eq (tgt := 215) C dL_law_208 (by decide) (fun g1 => ?_) (fun g1 => ?_)
          · exact absurd g1 hg
          · refine w_iconst (v := 1) C dL_law_211 (by decide) ?_
            refine w_goto (tgt := 216) C dL_law_212 (by decide) ?_
            refine w_callV (ci := 6) (As := [.int (nI t), .int (xs (4 * k + 2)), .int 1]) (rest := []) C (cwV 3 C.1.2.2.2.2 gL_law_X5_feed rfl rfl rfl (by decide +kernel) ⟨Nat.le_of_ble_eq_true rfl, Nat.le_of_ble_eq_true rfl⟩) h01.1 rfl (by decide) rfl rfl (by first | decide | simp [cat_ref, cat_null, cat_int, cat_long, rf_cat]) dL_law_216 (hfM hk5 rfl rfl) (x_mfeed2 l G _ h01 hv1 hO ht hj2) (fun rv z2 h9 => ?_)
            obtain ⟨⟨v2, rfl⟩, hm⟩ := h9
            have h192 : va_up I 192 1 192 = 1 := if_pos rfl
            have hv2 := hv1.P (f := 192) 1 (by decide) (by decide) (by decide)
            refine w_widen (k := 20 + 901 * (k + 1)) (n := 11500 + 3602 * (k + 1)) (wdM rfl) (wdM rfl) ?_
            refine w_istoreB (lvq := [(6, _), (5, _), (4, _), (3, _), (2, _), (1, _), (0, _)]) C 0 rfl rfl (by first | rfl | exact rf_cat _) dL_law_219 (by decide) rfl ?_
            refine w_aload_n C 4 dL_law_221 rfl rfl (by first | rfl | exact isRef_rf _) ?_
            refine w_callV (ci := 6) (As := []) (rest := []) C (cwV 0 C.1.2.2.2.2 gL_law_X5_thrown rfl rfl rfl (by decide +kernel) ⟨Nat.le_of_ble_eq_true rfl, Nat.le_of_ble_eq_true rfl⟩) hm.2.1 rfl (by decide) rfl rfl (by first | decide | simp [cat_ref, cat_null, cat_int, cat_long, rf_cat]) dL_law_222 (hfM hk5 rfl rfl) (c_mThrown l G _ hm.2) (fun rv z3 h9 => ?_)
            obtain ⟨rfl, e9⟩ := h9
            replace e9 := e9.symm
            subst e9
            refine w_widen (k := 20 + 901 * (k + 1)) (n := 11500 + 3602 * (k + 1)) (wdM rfl) (wdM rfl) ?_
            refine w_iload C 1 dL_law_225 rfl ?_
            refine w_icmp_eq (tgt := 232) C dL_law_227 (by decide) (fun c1 => ?_) (fun c1 => ?_)
            · refine w_iload C 1 dL_law_232 rfl ?_
              refine w_if_ne (tgt := 249) C dL_law_234 (by decide) (fun c2 => ?_) (fun c2 => ?_)
              · refine w_goto (tgt := 664) C dL_law_249 (by decide) ?_
                refine w_sep C (fun hE => ?_)
                exact w_sub [2, 3, 4, 5, 6] rfl (kk _ (lwI_mk hN1 hm hv2 hE ho1 hn2))
              · exact absurd c2 (by decide)
            · exact absurd h192 c1
      · obtain ⟨f, hf, e2⟩ := idx_of hn hj2
        have hX2 : xs (4 * k + 2) = nI f := e2
        by_cases hc : nCan N t
        ·
          refine w_aload_n C 3 dL_law_156 rfl rfl (by first | rfl | exact isRef_rf _) ?_
          refine w_aload_n C 4 dL_law_157 rfl rfl (by first | rfl | exact isRef_rf _) ?_
          refine w_iload C 0 dL_law_158 rfl ?_
          refine w_iconst (v := 1) C dL_law_160 (by decide) ?_
          refine w_iadd C dL_law_161 ?_
          refine w_sld (n := 4 * k + 1) C hX hbl hGs hL (show nI (4 * k) + 1 = nI (4 * k + 1) from nI_p (4 * k) 1) (by omega) dL_law_162 ?_
          rw [hX1]
          refine w_aload_n C 4 dL_law_163 rfl rfl (by first | rfl | exact isRef_rf _) ?_
          refine w_iload C 0 dL_law_164 rfl ?_
          refine w_iconst (v := 2) C dL_law_166 (by decide) ?_
          refine w_iadd C dL_law_167 ?_
          refine w_sld (n := 4 * k + 2) C hX hbl hGs hL (show nI (4 * k) + 2 = nI (4 * k + 2) from nI_p (4 * k) 2) (by omega) dL_law_168 ?_
          rw [hX2]
          refine w_aload_n C 4 dL_law_169 rfl rfl (by first | rfl | exact isRef_rf _) ?_
          refine w_iload C 0 dL_law_170 rfl ?_
          refine w_iconst (v := 3) C dL_law_172 (by decide) ?_
          refine w_iadd C dL_law_173 ?_
          refine w_sld (n := 4 * k + 3) C hX hbl hGs hL (show nI (4 * k) + 3 = nI (4 * k + 3) from nI_p (4 * k) 3) (by omega) dL_law_174 ?_
          refine w_if_eq (tgt := 182) C dL_law_175 (by decide) (fun g1 => ?_) (fun g1 => ?_)
          · exact absurd g1 hg
          · refine w_iconst (v := 1) C dL_law_178 (by decide) ?_
            refine w_goto (tgt := 183) C dL_law_179 (by decide) ?_
            refine w_aload_n C 1 dL_law_183 rfl rfl (by first | rfl | exact isRef_rf _) ?_
            refine w_callSW (As := [.ref x, .int (nI t), .int (nI f), .int 1, .ref o]) (rest := []) C (vx_cwSW 5 C.1.2.2.2.2 gL_law_L_feed rfl rfl rfl (by decide +kernel) ⟨Nat.le_of_ble_eq_true rfl, Nat.le_of_ble_eq_true rfl⟩) rfl rfl (by first | decide | simp [cat_ref, cat_null, cat_int, cat_long, rf_cat]) dL_law_184 (hfW hk5 (by decide) (by decide)) (c_Lfeed l G z h ht hf (Or.inr rfl) hc ho hn1) (fun rv z1 h9 => ?_)
            obtain ⟨rfl, hlF, N', r1, hr1, hN1, hF1⟩ := h9
            have ho1 := hlF.1 _ _ ho
            have hn2 : sN z1 o = 1 := (hlF.2.2.2 o ho.1).1.trans hn1
            obtain ⟨h01, hII⟩ := mst_lF h0 hlF
            have hv1 : mv (fun f => sI z1 f mo) M N := mv_cg hv hII
            refine w_widen (k := 20 + 901 * (k + 1)) (n := 11500 + 3602 * (k + 1)) (wdW (by decide)) (wdS (by decide)) ?_
            refine w_istoreB (lvq := [(5, _), (4, _), (3, _), (2, _), (1, _), (0, _)]) C 0 rfl rfl (by first | rfl | exact rf_cat _) dL_law_187 (by decide) rfl ?_
            refine w_aload_n C 3 dL_law_189 rfl rfl (by first | rfl | exact isRef_rf _) ?_
            refine w_aload_n C 5 dL_law_190 rfl rfl (by first | rfl | exact isRef_rf _) ?_
            refine w_iload C 1 dL_law_191 rfl ?_
            refine w_iconst (v := 1) C dL_law_193 (by decide) ?_
            refine w_iadd C dL_law_194 ?_
            refine w_sld (n := 4 * k + 1) C hX hbl hGs hL (show nI (4 * k) + 1 = nI (4 * k + 1) from nI_p (4 * k) 1) (by omega) dL_law_195 ?_
            rw [hX1]
            refine w_aload_n C 5 dL_law_196 rfl rfl (by first | rfl | exact isRef_rf _) ?_
            refine w_iload C 1 dL_law_197 rfl ?_
            refine w_iconst (v := 2) C dL_law_199 (by decide) ?_
            refine w_iadd C dL_law_200 ?_
            refine w_sld (n := 4 * k + 2) C hX hbl hGs hL (show nI (4 * k) + 2 = nI (4 * k + 2) from nI_p (4 * k) 2) (by omega) dL_law_201 ?_
            rw [hX2]
            refine w_aload_n C 5 dL_law_202 rfl rfl (by first | rfl | exact isRef_rf _) ?_
            refine w_iload C 1 dL_law_203 rfl ?_
            refine w_iconst (v := 3) C dL_law_205 (by decide) ?_
            refine w_iadd C dL_law_206 ?_
            refine w_sld (n := 4 * k + 3) C hX hbl hGs hL (show nI (4 * k) + 3 = nI (4 * k + 3) from nI_p (4 * k) 3) (by omega) dL_law_207 ?_
            refine w_if_eq (tgt := 215) C dL_law_208 (by decide) (fun g1 => ?_) (fun g1 => ?_)
            · exact absurd g1 hg
            · refine w_iconst (v := 1) C dL_law_211 (by decide) ?_
              refine w_goto (tgt := 216) C dL_law_212 (by decide) ?_
              refine w_callV (ci := 6) (As := [.int (nI t), .int (nI f), .int 1]) (rest := []) C (cwV 3 C.1.2.2.2.2 gL_law_X5_feed rfl rfl rfl (by decide +kernel) ⟨Nat.le_of_ble_eq_true rfl, Nat.le_of_ble_eq_true rfl⟩) h01.1 rfl (by decide) rfl rfl (by first | decide | simp [cat_ref, cat_null, cat_int, cat_long, rf_cat]) dL_law_216 (hfM hk5 rfl rfl) (c_mfeed l G _ h01 hv1 hO ht hf (Or.inr rfl) hc) (fun rv z2 h9 => ?_)
              obtain ⟨I2, M2, hm, h192, h9⟩ := h9
              have h9' : rv = some (.int r1) ∧ mv I2 M2 N' := by
                rcases hr1 with ⟨a1, a2, a3⟩ | ⟨a1, a2, a3⟩ <;> rcases h9 with ⟨b1, b2, b3⟩ | ⟨b1, b2, b3⟩
                · rw [a2, a3]; exact ⟨b2, b3⟩
                · omega
                · omega
                · rw [a2, a3]; exact ⟨b2, b3⟩
              obtain ⟨rfl, hv2⟩ := h9'
              refine w_widen (k := 20 + 901 * (k + 1)) (n := 11500 + 3602 * (k + 1)) (wdM rfl) (wdM rfl) ?_
              refine w_istoreB (lvq := [(6, _), (5, _), (4, _), (3, _), (2, _), (1, _), (0, _)]) C 0 rfl rfl (by first | rfl | exact rf_cat _) dL_law_219 (by decide) rfl ?_
              refine w_aload_n C 4 dL_law_221 rfl rfl (by first | rfl | exact isRef_rf _) ?_
              refine w_callV (ci := 6) (As := []) (rest := []) C (cwV 0 C.1.2.2.2.2 gL_law_X5_thrown rfl rfl rfl (by decide +kernel) ⟨Nat.le_of_ble_eq_true rfl, Nat.le_of_ble_eq_true rfl⟩) hm.2.1 rfl (by decide) rfl rfl (by first | decide | simp [cat_ref, cat_null, cat_int, cat_long, rf_cat]) dL_law_222 (hfM hk5 rfl rfl) (c_mThrown l G _ hm.2) (fun rv z3 h9 => ?_)
              obtain ⟨rfl, e9⟩ := h9
              replace e9 := e9.symm
              subst e9
              refine w_widen (k := 20 + 901 * (k + 1)) (n := 11500 + 3602 * (k + 1)) (wdM rfl) (wdM rfl) ?_
              refine w_iload C 1 dL_law_225 rfl ?_
              refine w_icmp_eq (tgt := 232) C dL_law_227 (by decide) (fun c1 => ?_) (fun c1 => ?_)
              · refine w_iload C 1 dL_law_232 rfl ?_
                refine w_if_ne (tgt := 249) C dL_law_234 (by decide) (fun c2 => ?_) (fun c2 => ?_)
                · exact absurd rfl c2
                · refine w_aload_n C 3 dL_law_237 rfl rfl (by first | rfl | exact isRef_rf _) ?_
                  refine w_iconst (v := 0) C dL_law_238 (by decide) ?_
                  refine w_lald C dL_law_239 (hm.mkF.1 _ _ ho1) (show (0 : Int32) = nI 0 from rfl) (by rw [(hm.mkF.2.2.2 o ho1.1).1, hn2]; decide) (by rw [(hm.mkF.2.2.2 o ho1.1).1, hn2]; decide) ((congrFun (congrFun hm.F o) 0).trans hF1) ?_
                  refine w_iload C 0 dL_law_240 rfl ?_
                  refine w_i2l C dL_law_242 rfl ?_
                  refine w_lcmp C dL_law_243 ?_
                  refine w_if_eq (tgt := 249) C dL_law_244 (by decide) (fun c3 => ?_) (fun c3 => ?_)
                  · refine w_goto (tgt := 664) C dL_law_249 (by decide) ?_
                    refine w_sep C (fun hE => ?_)
                    exact w_sub [2, 3, 4, 5, 6] rfl (kk _ (lwI_mk hN1 hm hv2 hE ho1 hn2))
                  · exact absurd (lgc _) c3
              · exact absurd h192 c1
        ·
          refine w_aload_n C 3 dL_law_156 rfl rfl (by first | rfl | exact isRef_rf _) ?_
          refine w_aload_n C 4 dL_law_157 rfl rfl (by first | rfl | exact isRef_rf _) ?_
          refine w_iload C 0 dL_law_158 rfl ?_
          refine w_iconst (v := 1) C dL_law_160 (by decide) ?_
          refine w_iadd C dL_law_161 ?_
          refine w_sld (n := 4 * k + 1) C hX hbl hGs hL (show nI (4 * k) + 1 = nI (4 * k + 1) from nI_p (4 * k) 1) (by omega) dL_law_162 ?_
          rw [hX1]
          refine w_aload_n C 4 dL_law_163 rfl rfl (by first | rfl | exact isRef_rf _) ?_
          refine w_iload C 0 dL_law_164 rfl ?_
          refine w_iconst (v := 2) C dL_law_166 (by decide) ?_
          refine w_iadd C dL_law_167 ?_
          refine w_sld (n := 4 * k + 2) C hX hbl hGs hL (show nI (4 * k) + 2 = nI (4 * k + 2) from nI_p (4 * k) 2) (by omega) dL_law_168 ?_
          rw [hX2]
          refine w_aload_n C 4 dL_law_169 rfl rfl (by first | rfl | exact isRef_rf _) ?_
          refine w_iload C 0 dL_law_170 rfl ?_
          refine w_iconst (v := 3) C dL_law_172 (by decide) ?_
          refine w_iadd C dL_law_173 ?_
          refine w_sld (n := 4 * k + 3) C hX hbl hGs hL (show nI (4 * k) + 3 = nI (4 * k + 3) from nI_p (4 * k) 3) (by omega) dL_law_174 ?_
          refine w_if_eq (tgt := 182) C dL_law_175 (by decide) (fun g1 => ?_) (fun g1 => ?_)
          · exact absurd g1 hg
          · refine w_iconst (v := 1) C dL_law_178 (by decide) ?_
            refine w_goto (tgt := 183) C dL_law_179 (by decide) ?_
            refine w_aload_n C 1 dL_law_183 rfl rfl (by first | rfl | exact isRef_rf _) ?_
            refine w_callSW (As := [.ref x, .int (nI t), .int (nI f), .int 1, .ref o]) (rest := []) C (vx_cwSW 5 C.1.2.2.2.2 gL_law_L_feed rfl rfl rfl (by decide +kernel) ⟨Nat.le_of_ble_eq_true rfl, Nat.le_of_ble_eq_true rfl⟩) rfl rfl (by first | decide | simp [cat_ref, cat_null, cat_int, cat_long, rf_cat]) dL_law_184 (hfW hk5 (by decide) (by decide)) (x_Lfeed3 l G z hl9 h ht hf hc) (fun rv z1 h9 => ?_)
            obtain ⟨rfl, e9⟩ := h9
            replace e9 := e9.symm
            subst e9
            have hN1 := h
            have h01 := h0
            have hv1 := hv
            have ho1 := ho
            have hn2 := hn1
            refine w_widen (k := 20 + 901 * (k + 1)) (n := 11500 + 3602 * (k + 1)) (wdW (by decide)) (wdS (by decide)) ?_
            refine w_istoreB (lvq := [(5, _), (4, _), (3, _), (2, _), (1, _), (0, _)]) C 0 rfl rfl (by first | rfl | exact rf_cat _) dL_law_187 (by decide) rfl ?_
            refine w_aload_n C 3 dL_law_189 rfl rfl (by first | rfl | exact isRef_rf _) ?_
            refine w_aload_n C 5 dL_law_190 rfl rfl (by first | rfl | exact isRef_rf _) ?_
            refine w_iload C 1 dL_law_191 rfl ?_
            refine w_iconst (v := 1) C dL_law_193 (by decide) ?_
            refine w_iadd C dL_law_194 ?_
            refine w_sld (n := 4 * k + 1) C hX hbl hGs hL (show nI (4 * k) + 1 = nI (4 * k + 1) from nI_p (4 * k) 1) (by omega) dL_law_195 ?_
            rw [hX1]
            refine w_aload_n C 5 dL_law_196 rfl rfl (by first | rfl | exact isRef_rf _) ?_
            refine w_iload C 1 dL_law_197 rfl ?_
            refine w_iconst (v := 2) C dL_law_199 (by decide) ?_
            refine w_iadd C dL_law_200 ?_
            refine w_sld (n := 4 * k + 2) C hX hbl hGs hL (show nI (4 * k) + 2 = nI (4 * k + 2) from nI_p (4 * k) 2) (by omega) dL_law_201 ?_
            rw [hX2]
            refine w_aload_n C 5 dL_law_202 rfl rfl (by first | rfl | exact isRef_rf _) ?_
            refine w_iload C 1 dL_law_203 rfl ?_
            refine w_iconst (v := 3) C dL_law_205 (by decide) ?_
            refine w_iadd C dL_law_206 ?_
            refine w_sld (n := 4 * k + 3) C hX hbl hGs hL (show nI (4 * k) + 3 = nI (4 * k + 3) from nI_p (4 * k) 3) (by omega) dL_law_207 ?_
            refine w_if_eq (tgt := 215) C dL_law_208 (by decide) (fun g1 => ?_) (fun g1 => ?_)
            · exact absurd g1 hg
            · refine w_iconst (v := 1) C dL_law_211 (by decide) ?_
              refine w_goto (tgt := 216) C dL_law_212 (by decide) ?_
              refine w_callV (ci := 6) (As := [.int (nI t), .int (nI f), .int 1]) (rest := []) C (cwV 3 C.1.2.2.2.2 gL_law_X5_feed rfl rfl rfl (by decide +kernel) ⟨Nat.le_of_ble_eq_true rfl, Nat.le_of_ble_eq_true rfl⟩) h01.1 rfl (by decide) rfl rfl (by first | decide | simp [cat_ref, cat_null, cat_int, cat_long, rf_cat]) dL_law_216 (hfM hk5 rfl rfl) (x_mfeed3 l G _ h01 hv1 hO ht hf hc) (fun rv z2 h9 => ?_)
              obtain ⟨⟨v2, rfl⟩, hm⟩ := h9
              have h192 : va_up I 192 2 192 = 2 := if_pos rfl
              have hv2 := hv1.P (f := 192) 2 (by decide) (by decide) (by decide)
              refine w_widen (k := 20 + 901 * (k + 1)) (n := 11500 + 3602 * (k + 1)) (wdM rfl) (wdM rfl) ?_
              refine w_istoreB (lvq := [(6, _), (5, _), (4, _), (3, _), (2, _), (1, _), (0, _)]) C 0 rfl rfl (by first | rfl | exact rf_cat _) dL_law_219 (by decide) rfl ?_
              refine w_aload_n C 4 dL_law_221 rfl rfl (by first | rfl | exact isRef_rf _) ?_
              refine w_callV (ci := 6) (As := []) (rest := []) C (cwV 0 C.1.2.2.2.2 gL_law_X5_thrown rfl rfl rfl (by decide +kernel) ⟨Nat.le_of_ble_eq_true rfl, Nat.le_of_ble_eq_true rfl⟩) hm.2.1 rfl (by decide) rfl rfl (by first | decide | simp [cat_ref, cat_null, cat_int, cat_long, rf_cat]) dL_law_222 (hfM hk5 rfl rfl) (c_mThrown l G _ hm.2) (fun rv z3 h9 => ?_)
              obtain ⟨rfl, e9⟩ := h9
              replace e9 := e9.symm
              subst e9
              refine w_widen (k := 20 + 901 * (k + 1)) (n := 11500 + 3602 * (k + 1)) (wdM rfl) (wdM rfl) ?_
              refine w_iload C 1 dL_law_225 rfl ?_
              refine w_icmp_eq (tgt := 232) C dL_law_227 (by decide) (fun c1 => ?_) (fun c1 => ?_)
              · refine w_iload C 1 dL_law_232 rfl ?_
                refine w_if_ne (tgt := 249) C dL_law_234 (by decide) (fun c2 => ?_) (fun c2 => ?_)
                · refine w_goto (tgt := 664) C dL_law_249 (by decide) ?_
                  refine w_sep C (fun hE => ?_)
                  exact w_sub [2, 3, 4, 5, 6] rfl (kk _ (lwI_mk hN1 hm hv2 hE ho1 hn2))
                · exact absurd c2 (by decide)
              · exact absurd h192 c1
set_option maxHeartbeats 4000000 in
set_option maxRecDepth 100000 in
theorem lw_step {p : Program} {l : Launch} {e : Env} {s : State} {m : MethodId} {below : List Frame} {meth : Method} {c : Code} {G : Gx} {Q : State → Prop} {b L k x mo o : Nat} {xs : Nat → Int32} {z : Sto} (C : Cx p s m #[Value.ref b] meth c cL_law 7 wsL_law RL ret G) (hX : va_X b L xs s s.heap) (hbl : b < s.heap.size) (hGs : G.2.2.1 = s.heap.size) (hL : L ≤ 2048) (hl9 : l.stackTraces = false) (hk : 4 * k + 4 ≤ L) (hI : lwI G z x mo o) (kk : ∀ z', lwI G z' x mo o → Wp p l e room_1 s m #[Value.ref b] below meth c G 7 (20 + 901 * (k + 1)) (11500 + 3602 * (k + 1)) Q z' 664 [(4, .int (nI (4 * k))), (3, .ref o), (2, .ref mo), (1, .ref x), (0, .ref b)] []) : Wp p l e room_1 s m #[Value.ref b] below meth c G 7 (20 + 901 * k) (11500 + 3602 * k) Q z 488 [(4, .int (nI (4 * k))), (3, .ref o), (2, .ref mo), (1, .ref x), (0, .ref b)] [] := by
  obtain ⟨gl, pt, ol, ga, N, A, I, M, h, h0, hv, ho, hn1⟩ := hI
  have hO := h.1
  have hn := hO.1
  have hk5 : k < 512 := by omega
  refine w_aload_n C 3 dL_law_488 rfl rfl (by first | rfl | exact isRef_rf _) ?_
  refine w_callV (ci := 5) (As := []) (rest := []) C (cwV 0 C.1.2.2.2.2 gL_law_X4_step rfl rfl rfl (by decide +kernel) ⟨Nat.le_of_ble_eq_true rfl, Nat.le_of_ble_eq_true rfl⟩) h.2.1.1.1 rfl (by decide) rfl rfl (by first | decide | simp [cat_ref, cat_null, cat_int, cat_long, rf_cat]) dL_law_489 (hfW hk5 (by decide) (by decide)) (c_step l G z h) (fun rv z1 h9 => ?_)
  have h9' : ∃ (N' : NT) (r1 : Int32), rv = some (.int r1) ∧ ((¬ nUn N (nRC N) = 0 ∧ r1 = -1 ∧ N' = N) ∨ (nUn N (nRC N) = 0 ∧ r1 = nI (cnt (fun j => decide (nSo N j = 1 ∧ ¬ nNx N j = nHd N j)) (nN N)) ∧ N' = nStp N)) ∧ kfr z z1 ∧ netI G z1 x gl pt ol ga N' := by
    rcases h9 with ⟨a1, a2, a3, a4⟩ | ⟨a1, a2, a3, a4⟩
    · exact ⟨N, _, a2, Or.inl ⟨a1, rfl, rfl⟩, a3, a4⟩
    · exact ⟨nStp N, _, a2, Or.inr ⟨a1, rfl, rfl⟩, a3, a4⟩
  obtain ⟨N', r1, rfl, hr1, hkf, hN1⟩ := h9'
  have hlF := hkf.toL
  have ho1 := hlF.1 _ _ ho
  have hn2 : sN z1 o = 1 := (hlF.2.2.2 o ho.1).1.trans hn1
  obtain ⟨h01, hII⟩ := mst_lF h0 hlF
  have hv1 : mv (fun f => sI z1 f mo) M N := mv_cg hv hII
  refine w_widen (k := 20 + 901 * (k + 1)) (n := 11500 + 3602 * (k + 1)) (wdW (by decide)) (wdS (by decide)) ?_
  refine w_aload_n C 2 dL_law_492 rfl rfl (by first | rfl | exact isRef_rf _) ?_
  refine w_callV (ci := 6) (As := []) (rest := [.int r1]) C (cwV 0 C.1.2.2.2.2 gL_law_X5_step rfl rfl rfl (by decide +kernel) ⟨Nat.le_of_ble_eq_true rfl, Nat.le_of_ble_eq_true rfl⟩) h01.1 rfl (by decide) rfl rfl (by first | decide | simp [cat_ref, cat_null, cat_int, cat_long, rf_cat]) dL_law_493 (hfM hk5 rfl rfl) (c_mstep l G _ h01 hv1 hO) (fun rv z2 h9 => ?_)
  obtain ⟨I2, M2, hm, h192, h9⟩ := h9
  have h9' : rv = some (.int r1) ∧ mv I2 M2 N' := by
    rcases hr1 with ⟨a1, a2, a3⟩ | ⟨a1, a2, a3⟩ <;> rcases h9 with ⟨b1, b2, b3⟩ | ⟨b1, b2, b3⟩
    · rw [a2, a3]; exact ⟨b2, b3⟩
    · exact absurd b1 a1
    · exact absurd a1 b1
    · rw [a2, a3]; exact ⟨b2, b3⟩
  obtain ⟨rfl, hv2⟩ := h9'
  refine w_widen (k := 20 + 901 * (k + 1)) (n := 11500 + 3602 * (k + 1)) (wdM rfl) (wdM rfl) ?_
  refine w_icmp_eq (tgt := 664) C dL_law_496 (by decide) (fun c1 => ?_) (fun c1 => ?_)
  · refine w_sep C (fun hE => ?_)
    exact w_sub [0, 1, 2, 3, 4] rfl (kk _ (lwI_mk hN1 hm hv2 hE ho1 hn2))
  · exact absurd rfl c1
set_option maxHeartbeats 4000000 in
set_option maxRecDepth 100000 in
theorem lw_reset {p : Program} {l : Launch} {e : Env} {s : State} {m : MethodId} {below : List Frame} {meth : Method} {c : Code} {G : Gx} {Q : State → Prop} {b L k x mo o : Nat} {xs : Nat → Int32} {z : Sto} (C : Cx p s m #[Value.ref b] meth c cL_law 7 wsL_law RL ret G) (hX : va_X b L xs s s.heap) (hbl : b < s.heap.size) (hGs : G.2.2.1 = s.heap.size) (hL : L ≤ 2048) (hl9 : l.stackTraces = false) (hk : 4 * k + 4 ≤ L) (hI : lwI G z x mo o) (kk : ∀ z', lwI G z' x mo o → Wp p l e room_1 s m #[Value.ref b] below meth c G 7 (20 + 901 * (k + 1)) (11500 + 3602 * (k + 1)) Q z' 664 [(4, .int (nI (4 * k))), (3, .ref o), (2, .ref mo), (1, .ref x), (0, .ref b)] []) : Wp p l e room_1 s m #[Value.ref b] below meth c G 7 (20 + 901 * k) (11500 + 3602 * k) Q z 501 [(4, .int (nI (4 * k))), (3, .ref o), (2, .ref mo), (1, .ref x), (0, .ref b)] [] := by
  obtain ⟨gl, pt, ol, ga, N, A, I, M, h, h0, hv, ho, hn1⟩ := hI
  have hO := h.1
  have hn := hO.1
  have hk5 : k < 512 := by omega
  refine w_aload_n C 3 dL_law_501 rfl rfl (by first | rfl | exact isRef_rf _) ?_
  refine w_callV (ci := 5) (As := []) (rest := []) C (cwV 0 C.1.2.2.2.2 gL_law_X4_reset rfl rfl rfl (by decide +kernel) ⟨Nat.le_of_ble_eq_true rfl, Nat.le_of_ble_eq_true rfl⟩) h.2.1.1.1 rfl (by decide) rfl rfl (by first | decide | simp [cat_ref, cat_null, cat_int, cat_long, rf_cat]) dL_law_502 (hfW hk5 (by decide) (by decide)) (c_reset l G z h) (fun rv z1 h9 => ?_)
  obtain ⟨rfl, hkf, hN1⟩ := h9
  obtain ⟨r1, er1⟩ : ∃ r1, r1 = nI (cnt (fun j => decide (nSo N j = 1 ∧ nHd N j = 1)) (nN N)) := ⟨_, rfl⟩
  rw [← er1]
  have hlF := hkf.toL
  have ho1 := hlF.1 _ _ ho
  have hn2 : sN z1 o = 1 := (hlF.2.2.2 o ho.1).1.trans hn1
  obtain ⟨h01, hII⟩ := mst_lF h0 hlF
  have hv1 : mv (fun f => sI z1 f mo) M N := mv_cg hv hII
  refine w_widen (k := 20 + 901 * (k + 1)) (n := 11500 + 3602 * (k + 1)) (wdW (by decide)) (wdS (by decide)) ?_
  refine w_aload_n C 2 dL_law_505 rfl rfl (by first | rfl | exact isRef_rf _) ?_
  refine w_callV (ci := 6) (As := []) (rest := [.int r1]) C (cwV 0 C.1.2.2.2.2 gL_law_X5_reset rfl rfl rfl (by decide +kernel) ⟨Nat.le_of_ble_eq_true rfl, Nat.le_of_ble_eq_true rfl⟩) h01.1 rfl (by decide) rfl rfl (by first | decide | simp [cat_ref, cat_null, cat_int, cat_long, rf_cat]) dL_law_506 (hfM hk5 rfl rfl) (c_mreset l G _ h01 hv1 hO) (fun rv z2 h9 => ?_)
  obtain ⟨I2, M2, hm, h192, e9, hv2⟩ := h9
  rw [← er1] at e9
  subst e9
  refine w_widen (k := 20 + 901 * (k + 1)) (n := 11500 + 3602 * (k + 1)) (wdM rfl) (wdM rfl) ?_
  refine w_icmp_eq (tgt := 664) C dL_law_509 (by decide) (fun c1 => ?_) (fun c1 => ?_)
  · refine w_sep C (fun hE => ?_)
    exact w_sub [0, 1, 2, 3, 4] rfl (kk _ (lwI_mk hN1 hm hv2 hE ho1 hn2))
  · exact absurd rfl c1
set_option maxHeartbeats 4000000 in
set_option maxRecDepth 100000 in
theorem lw_choices {p : Program} {l : Launch} {e : Env} {s : State} {m : MethodId} {below : List Frame} {meth : Method} {c : Code} {G : Gx} {Q : State → Prop} {b L k x mo o : Nat} {xs : Nat → Int32} {z : Sto} (C : Cx p s m #[Value.ref b] meth c cL_law 7 wsL_law RL ret G) (hX : va_X b L xs s s.heap) (hbl : b < s.heap.size) (hGs : G.2.2.1 = s.heap.size) (hL : L ≤ 2048) (hl9 : l.stackTraces = false) (hk : 4 * k + 4 ≤ L) (hI : lwI G z x mo o) (kk : ∀ z', lwI G z' x mo o → Wp p l e room_1 s m #[Value.ref b] below meth c G 7 (20 + 901 * (k + 1)) (11500 + 3602 * (k + 1)) Q z' 664 [(4, .int (nI (4 * k))), (3, .ref o), (2, .ref mo), (1, .ref x), (0, .ref b)] []) : Wp p l e room_1 s m #[Value.ref b] below meth c G 7 (20 + 901 * k) (11500 + 3602 * k) Q z 626 [(4, .int (nI (4 * k))), (3, .ref o), (2, .ref mo), (1, .ref x), (0, .ref b)] [] := by
  obtain ⟨gl, pt, ol, ga, N, A, I, M, h, h0, hv, ho, hn1⟩ := hI
  have hO := h.1
  have hn := hO.1
  have hk5 : k < 512 := by omega
  refine w_aload_n C 3 dL_law_626 rfl rfl (by first | rfl | exact isRef_rf _) ?_
  refine w_callV (ci := 5) (As := []) (rest := []) C (cwV 0 C.1.2.2.2.2 gL_law_X4_choices rfl rfl rfl (by decide +kernel) ⟨Nat.le_of_ble_eq_true rfl, Nat.le_of_ble_eq_true rfl⟩) h.2.1.1.1 rfl (by decide) rfl rfl (by first | decide | simp [cat_ref, cat_null, cat_int, cat_long, rf_cat]) dL_law_627 (hfW hk5 (by decide) (by decide)) (c_choices l G z h) (fun rv z1 h9 => ?_)
  obtain ⟨rfl, hkf, hN1⟩ := h9
  obtain ⟨r1, er1⟩ : ∃ r1, r1 = nI (nCho N) := ⟨_, rfl⟩
  rw [← er1]
  have hlF := hkf.toL
  have ho1 := hlF.1 _ _ ho
  have hn2 : sN z1 o = 1 := (hlF.2.2.2 o ho.1).1.trans hn1
  obtain ⟨h01, hII⟩ := mst_lF h0 hlF
  have hv1 : mv (fun f => sI z1 f mo) M N := mv_cg hv hII
  refine w_widen (k := 20 + 901 * (k + 1)) (n := 11500 + 3602 * (k + 1)) (wdW (by decide)) (wdS (by decide)) ?_
  refine w_aload_n C 2 dL_law_630 rfl rfl (by first | rfl | exact isRef_rf _) ?_
  refine w_callV (ci := 6) (As := []) (rest := [.int r1]) C (cwV 0 C.1.2.2.2.2 gL_law_X5_choices rfl rfl rfl (by decide +kernel) ⟨Nat.le_of_ble_eq_true rfl, Nat.le_of_ble_eq_true rfl⟩) h01.1 rfl (by decide) rfl rfl (by first | decide | simp [cat_ref, cat_null, cat_int, cat_long, rf_cat]) dL_law_631 (hfM hk5 rfl rfl) (c_mchoices l G _ h01 hv1 hO) (fun rv z2 h9 => ?_)
  obtain ⟨I2, M2, hm, h192, e9, hv2⟩ := h9
  rw [← er1] at e9
  subst e9
  refine w_widen (k := 20 + 901 * (k + 1)) (n := 11500 + 3602 * (k + 1)) (wdM rfl) (wdM rfl) ?_
  refine w_icmp_eq (tgt := 664) C dL_law_634 (by decide) (fun c1 => ?_) (fun c1 => ?_)
  · refine w_sep C (fun hE => ?_)
    exact w_sub [0, 1, 2, 3, 4] rfl (kk _ (lwI_mk hN1 hm hv2 hE ho1 hn2))
  · exact absurd rfl c1
set_option maxHeartbeats 4000000 in
set_option maxRecDepth 100000 in
theorem lw_count {p : Program} {l : Launch} {e : Env} {s : State} {m : MethodId} {below : List Frame} {meth : Method} {c : Code} {G : Gx} {Q : State → Prop} {b L k x mo o : Nat} {xs : Nat → Int32} {z : Sto} (C : Cx p s m #[Value.ref b] meth c cL_law 7 wsL_law RL ret G) (hX : va_X b L xs s s.heap) (hbl : b < s.heap.size) (hGs : G.2.2.1 = s.heap.size) (hL : L ≤ 2048) (hl9 : l.stackTraces = false) (hk : 4 * k + 4 ≤ L) (hI : lwI G z x mo o) (kk : ∀ z', lwI G z' x mo o → Wp p l e room_1 s m #[Value.ref b] below meth c G 7 (20 + 901 * (k + 1)) (11500 + 3602 * (k + 1)) Q z' 664 [(4, .int (nI (4 * k))), (3, .ref o), (2, .ref mo), (1, .ref x), (0, .ref b)] []) : Wp p l e room_1 s m #[Value.ref b] below meth c G 7 (20 + 901 * k) (11500 + 3602 * k) Q z 639 [(4, .int (nI (4 * k))), (3, .ref o), (2, .ref mo), (1, .ref x), (0, .ref b)] [] := by
  obtain ⟨gl, pt, ol, ga, N, A, I, M, h, h0, hv, ho, hn1⟩ := hI
  have hO := h.1
  have hn := hO.1
  have hk5 : k < 512 := by omega
  refine w_aload_n C 3 dL_law_639 rfl rfl (by first | rfl | exact isRef_rf _) ?_
  refine w_aload_n C 4 dL_law_640 rfl rfl (by first | rfl | exact isRef_rf _) ?_
  refine w_iload C 0 dL_law_641 rfl ?_
  refine w_iconst (v := 1) C dL_law_643 (by decide) ?_
  refine w_iadd C dL_law_644 ?_
  refine w_sld (n := 4 * k + 1) C hX hbl hGs hL (show nI (4 * k) + 1 = nI (4 * k + 1) from nI_p (4 * k) 1) (by omega) dL_law_645 ?_
  refine w_callV (ci := 5) (As := [.int (xs (4 * k + 1))]) (rest := []) C (cwV 1 C.1.2.2.2.2 gL_law_X4_count rfl rfl rfl (by decide +kernel) ⟨Nat.le_of_ble_eq_true rfl, Nat.le_of_ble_eq_true rfl⟩) h.2.1.1.1 rfl (by decide) rfl rfl (by first | decide | simp [cat_ref, cat_null, cat_int, cat_long, rf_cat]) dL_law_646 (hfW hk5 (by decide) (by decide)) (c_count l G z h) (fun rv z1 h9 => ?_)
  obtain ⟨r1, rfl, hr1, hkf, hN1⟩ := h9
  have hlF := hkf.toL
  have ho1 := hlF.1 _ _ ho
  have hn2 : sN z1 o = 1 := (hlF.2.2.2 o ho.1).1.trans hn1
  obtain ⟨h01, hII⟩ := mst_lF h0 hlF
  have hv1 : mv (fun f => sI z1 f mo) M N := mv_cg hv hII
  refine w_widen (k := 20 + 901 * (k + 1)) (n := 11500 + 3602 * (k + 1)) (wdW (by decide)) (wdS (by decide)) ?_
  refine w_aload_n C 2 dL_law_649 rfl rfl (by first | rfl | exact isRef_rf _) ?_
  refine w_aload_n C 4 dL_law_650 rfl rfl (by first | rfl | exact isRef_rf _) ?_
  refine w_iload C 0 dL_law_651 rfl ?_
  refine w_iconst (v := 1) C dL_law_653 (by decide) ?_
  refine w_iadd C dL_law_654 ?_
  refine w_sld (n := 4 * k + 1) C hX hbl hGs hL (show nI (4 * k) + 1 = nI (4 * k + 1) from nI_p (4 * k) 1) (by omega) dL_law_655 ?_
  refine w_callV (ci := 6) (As := [.int (xs (4 * k + 1))]) (rest := [.int r1]) C (cwV 1 C.1.2.2.2.2 gL_law_X5_count rfl rfl rfl (by decide +kernel) ⟨Nat.le_of_ble_eq_true rfl, Nat.le_of_ble_eq_true rfl⟩) h01.1 rfl (by decide) rfl rfl (by first | decide | simp [cat_ref, cat_null, cat_int, cat_long, rf_cat]) dL_law_656 (hfM hk5 rfl rfl) (c_mcount l G _ h01 hv1 hO) (fun rv z2 h9 => ?_)
  obtain ⟨r2, rfl, hr2, I2, M2, hm, h192, hv2⟩ := h9
  have er := hr1.uniq hr2
  subst er
  refine w_widen (k := 20 + 901 * (k + 1)) (n := 11500 + 3602 * (k + 1)) (wdM rfl) (wdM rfl) ?_
  refine w_icmp_eq (tgt := 664) C dL_law_659 (by decide) (fun c1 => ?_) (fun c1 => ?_)
  · refine w_sep C (fun hE => ?_)
    exact w_sub [0, 1, 2, 3, 4] rfl (kk _ (lwI_mk hN1 hm hv2 hE ho1 hn2))
  · exact absurd rfl c1
