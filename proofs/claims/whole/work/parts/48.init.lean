/-! ===== TernaryNet: <init>, count ===== -/
/-- behind Parts' constructor -/
def paS (G : Gx) (z : Sto) (p q : Nat) : Sto := (putR (putI (putI (putR (putR (putI (newO z q 0) 0 q 0) 1 q (some (G.2.2.2 0))) 128 p (some q)) 129 p 0) 130 p 0) 131 p none)
theorem w_callIN {p : Program} {l : Launch} {e : Env} {R : Room} {s : State} {m : MethodId} {args : Array Value} {below : List Frame} {meth : Method} {c : Code} {G : Gx} {nL cells slots : Nat} {Q : State → Prop} {z : Sto} {pc : Nat} {lv : List (Nat × Value)} {st rest : List Value} {cc : ByteArray} {Ts : List Cond} {own host : String} {ret : Option FieldType} {Post : Option Value → Sto → Prop} {y : MethodName} {bytes : ByteArray} {maxL n index b : Nat} {ws : List Cond} {rm : Room} {As : List Value}
    (C : Cx p s m args meth c cc nL Ts own ret G) (cw : va_CN R s args own index y host bytes maxL none ws rm rm.cells rm.slots n ∧ y.name = "<init>" ∧ (Cond.instanceMethod y).before args s = true) (hn : As.length = n) (hst : st = As.reverse ++ .ref b :: rest) (hW : (rest.map fun v => v.category).sum ≤ 8) (hdg : decode cc pc = .ok (.invokespecial index, 3)) (hf : cells + rm.cells ≤ R.cells ∧ slots + rm.slots ≤ R.slots)
    (hM : Ct l y ws rm G z (.ref b :: As) Post)
    (kk : ∀ (rv : Option Value) (z' : Sto), Post rv z' → Wp p l e R s m args below meth c G nL (cells + rm.cells) (slots + rm.slots) Q z' (pc + 3) lv (rv.toList ++ rest)) : Wp p l e R s m args below meth c G nL cells slots Q z pc lv st :=
  w_run (a := (Value.ref b :: As).toArray) (fun H locs ls hp hl => va_runIN C.1 hM cw ⟨cPre_blind _ _ _, fun U hU hWU => pre_of C hp hU hWU⟩ rfl hn hl.1 hst (lv_room hW) hdg hf) kk
set_option maxHeartbeats 4000000 in
set_option maxRecDepth 100000 in
theorem c_Parts_init (l : Launch) (G : Gx) (z : Sto) {p9 : Nat} (hp : is z p9 4) : Ct l yX3_init wsX3_init ({ frames := 4, cells := 1, slots := 3, locals := 75 } : Room) G z [.ref p9] (fun rv z' => rv = none ∧ ∃ q, q ∉ sL z ∧ z' = paS G z p9 q) := by
  refine ct_of (cc := cX3_init) (maxL := 1) (ret := none) (lv0 := [(0, .ref p9)]) (by decide) rfl (by simp [lg_sl, cat_ref, cat_null, cat_int, cat_long, rf_cat]) (by simp [lv_args, cat_ref, cat_null, cat_int, cat_long, rf_cat]) ?_
  intro p e s m args below meth c C hin
  have i0 : ∀ w ∈ u_ws RJx4a65c TJx4a65c 3, w ∈ wsX3_init := by decide +kernel
  have i4 : ∀ w ∈ u_ws RX3 TX3 4, w ∈ wsX3_init := by decide +kernel
  refine w_aload_n C 0 dX3_init_0 rfl rfl (by first | rfl | exact isRef_rf _) ?_
  refine w_objInit C (by decide +kernel) (by decide +kernel) (by decide +kernel) dX3_init_1 (by decide) (by decide) ?_
  refine w_aload_n C 0 dX3_init_4 rfl rfl (by first | rfl | exact isRef_rf _) ?_
  refine w_new (ci := 0) C rfl i0 tyJx4a65c tyJx4a65c_ok (by decide +kernel) (by decide +kernel) (by decide +kernel) (by decide) fd0 dX3_init_5 (Nat.le_of_ble_eq_true rfl) (Nat.le_of_ble_eq_true rfl) (fun q hq hlow => ?_)
  have hq0 : is (newO z q 0) q 0 := is_newO_self z q 0
  have hp0 : is (newO z q 0) p9 4 := is_newO hp hq
  refine w_dup C dX3_init_8 (by first | rfl | exact rf_cat _) ?_
  refine w_callI (As := []) (b := q) (rest := [.ref q, .ref p9]) C (cwI 0 C.1.2.2.2.2 gX3_init_Jx4a65c_init_da8c8 rfl rfl rfl (C.1.2.2.2.2 _ (by decide +kernel)) (C.1.2.2.2.2 _ (by decide +kernel)) (C.1.2.2.2.2 _ (by decide +kernel)) rfl (by decide +kernel) ⟨Nat.le_of_ble_eq_true rfl, Nat.le_of_ble_eq_true rfl⟩) rfl rfl (by first | decide | simp [cat_ref, cat_null, cat_int, cat_long, rf_cat]) dX3_init_9 ⟨Nat.le_of_ble_eq_true rfl, Nat.le_of_ble_eq_true rfl⟩ (c_AList_init l G _ hq0) (fun rv z1 h9 => ?_)
  obtain ⟨rfl, e9⟩ := h9
  replace e9 := e9.symm
  subst e9
  refine w_putRF (ci := 4) (k := 0) (f := 128) (v := (some q)) C rfl i4 (by decide +kernel) (by decide) (by decide) rfl rfl tyX3 tyX3_ok nmX3 rfl hin rfl (by first | rfl | exact nar_rf _ _ | exact nar_ra _ _) (by first | rfl | exact fit_rf _ _ | exact fit_ra _ _) dX3_init_12 hp0 ?_
  refine w_aload_n C 0 dX3_init_15 rfl rfl (by first | rfl | exact isRef_rf _) ?_
  refine w_iconst (v := 0) C dX3_init_16 (by decide) ?_
  refine w_putI (ci := 4) (k := 1) (f := 129) C rfl i4 (by decide +kernel) (by decide) (by decide) rfl rfl tyX3 tyX3_ok nmX3 rfl rfl rfl dX3_init_17 (is_R hp0) ?_
  refine w_aload_n C 0 dX3_init_20 rfl rfl (by first | rfl | exact isRef_rf _) ?_
  refine w_iconst (v := 0) C dX3_init_21 (by decide) ?_
  refine w_putI (ci := 4) (k := 2) (f := 130) C rfl i4 (by decide +kernel) (by decide) (by decide) rfl rfl tyX3 tyX3_ok nmX3 rfl rfl rfl dX3_init_22 (is_I (is_R hp0)) ?_
  refine w_aload_n C 0 dX3_init_25 rfl rfl (by first | rfl | exact isRef_rf _) ?_
  refine w_null C dX3_init_26 ?_
  refine w_putR (ci := 4) (k := 3) (f := 131) (v := none) C rfl i4 (by decide +kernel) (by decide) (by decide) rfl rfl tyX3 tyX3_ok nmX3 rfl (by first | rfl | exact nar_rf _ _ | exact nar_ra _ _) (by first | rfl | exact fit_rf _ _ | exact fit_ra _ _) dX3_init_27 (is_I (is_I (is_R hp0))) ?_
  exact w_vret C dX3_init_30 ⟨rfl, q, hq, rfl⟩
/-- behind TernaryNet's constructor -/
def ntS (G : Gx) (z : Sto) (x g p q : Nat) : Sto :=
  putI (putI (putI (putI (putI (putI (putI (putR (paS G (newO (putR (putR (putI (newO z g 0) 0 g 0) 1 g (some (G.2.2.2 0))) 160 x (some g)) p 4) p q) 161 x (some p)) 162 x 0) 163 x 0) 164 x 0) 165 x 0) 166 x 0) 167 x 1) 168 x 1
def N00 : NT := (0, fun _ => 0, fun _ => 0, [])
theorem nOK_00 : nOK N00 := ⟨by decide, by decide, fun t ht => (by cases ht), fun i hi => (by cases hi), fun i hi => (by cases hi), by decide, fun i hi => (by cases hi), fun i hi => (by cases hi)⟩
theorem lst_new {G : Gx} {z : Sto} {g : Nat} (f : Nat → Nat) (h0 : is z g 0) (h1 : sI z 2 g = 0) (h2 : sR z 1 g = some (G.2.2.2 0)) : lst G z g 0 f 0 := ⟨h0, h1, Nat.le_refl _, by decide, Or.inl ⟨rfl, h2⟩⟩
theorem netI_new {G : Gx} {z : Sto} {x g p q : Nat} (hx : is z x 5) (hg : g ∉ sL z) (hp : p ∉ sL z ++ [g]) (hq : q ∉ (sL z ++ [g]) ++ [p]) (hE : ∀ b, b ∈ ((sL z ++ [g]) ++ [p]) ++ [q] → b ≠ G.2.2.2 0) : netI G (ntS G z x g p q) x g p q (fun _ => 0) N00 ∧ kfr z (ntS G z x g p q) := by
  have hxg : x ≠ g := fun e => hg (e ▸ hx.1)
  have hxp : x ≠ p := fun e => hp (List.mem_append_left _ (e ▸ hx.1))
  have hxq : x ≠ q := fun e => hq (List.mem_append_left _ (List.mem_append_left _ (e ▸ hx.1)))
  have hgp : g ≠ p := fun e => hp (e ▸ List.mem_append_right _ List.mem_cons_self)
  have hgq : g ≠ q := fun e => hq (List.mem_append_left _ (e ▸ List.mem_append_right _ List.mem_cons_self))
  have hpq : p ≠ q := fun e => hq (e ▸ List.mem_append_right _ List.mem_cons_self)
  have i1 : is (newO z g 0) g 0 := is_newO_self z g 0
  obtain ⟨z1, e1⟩ : ∃ z1, z1 = putR (putR (putI (newO z g 0) 0 g 0) 1 g (some (G.2.2.2 0))) 160 x (some g) := ⟨_, rfl⟩
  have L1 : sL z1 = sL z ++ [g] := by rw [e1]; rfl
  have x1 : is z1 x 5 := by rw [e1]; exact is_newO hx hg
  have g1 : is z1 g 0 := by rw [e1]; exact i1
  have p2 : is (newO z1 p 4) p 4 := is_newO_self z1 p 4
  have hp1 : p ∉ sL z1 := by rw [L1]; exact hp
  obtain ⟨z2, e2⟩ : ∃ z2, z2 = newO z1 p 4 := ⟨_, rfl⟩
  have L2 : sL z2 = (sL z ++ [g]) ++ [p] := by rw [e2]; show sL z1 ++ [p] = _; rw [L1]
  have hq2 : q ∉ sL z2 := by rw [L2]; exact hq
  have x2 : is z2 x 5 := by rw [e2]; exact is_newO x1 hp1
  have g2 : is z2 g 0 := by rw [e2]; exact is_newO g1 hp1
  have o12 : oF z1 z2 := by rw [e2]; exact oF_new hp1
  have o23 : oF z2 (newO z2 q 0) := oF_new hq2
  obtain ⟨z3, e3⟩ : ∃ z3, z3 = newO z2 q 0 := ⟨_, rfl⟩
  rw [← e3] at o23
  have q3 : is z3 q 0 := by rw [e3]; exact is_newO_self z2 q 0
  have L3 : sL z3 = ((sL z ++ [g]) ++ [p]) ++ [q] := by rw [e3]; show sL z2 ++ [q] = _; rw [L2]
  have e4 : ntS G z x g p q = putI (putI (putI (putI (putI (putI (putI (putR (putR (putI (putI (putR (putR (putI z3 0 q 0) 1 q (some (G.2.2.2 0))) 128 p (some q)) 129 p 0) 130 p 0) 131 p none) 161 x (some p)) 162 x 0) 163 x 0) 164 x 0) 165 x 0) 166 x 0) 167 x 1) 168 x 1 := by rw [e3, e2, e1]; rfl
  rw [e4]
  obtain ⟨z4, h4⟩ : ∃ z4, z4 = putI (putI (putI (putI (putI (putI (putI (putR (putR (putI (putI (putR (putR (putI z3 0 q 0) 1 q (some (G.2.2.2 0))) 128 p (some q)) 129 p 0) 130 p 0) 131 p none) 161 x (some p)) 162 x 0) 163 x 0) 164 x 0) 165 x 0) 166 x 0) 167 x 1) 168 x 1 := ⟨_, rfl⟩
  rw [← h4]
  have is4 : ∀ b k, is z3 b k → is z4 b k := fun b k hb => by rw [h4]; exact (is_I (is_I (is_I (is_I (is_I (is_I (is_I (is_R (is_R (is_I (is_I (is_R (is_R (is_I hb))))))))))))))
  have L4 : sL z4 = ((sL z ++ [g]) ++ [p]) ++ [q] := by rw [h4, L_pI, L_pI, L_pI, L_pI, L_pI, L_pI, L_pI, L_pR, L_pR, L_pI, L_pI, L_pR, L_pR, L_pI]; exact L3
  have x3 := o23.1 _ _ x2
  have g3 := o23.1 _ _ g2
  have p3 : is z3 p 4 := o23.1 _ _ (by rw [e2]; exact p2)
  have r160 : sR z4 160 x = some g := by
    have : sR z4 160 x = sR z3 160 x := by rw [h4]; exact (rR_I (rR_I (rR_I (rR_I (rR_I (rR_I (rR_I (rR_Rf (by decide) (rR_Rf (by decide) (rR_I (rR_I (rR_Rf (by decide) (rR_Rf (by decide) (rR_I rfl))))))))))))))
    rw [this, (o23.2.1 160 x x2.1).2.2, (o12.2.1 160 x x1.1).2.2, e1]
    exact rR_Rs
  have r1g : sR z4 1 g = some (G.2.2.2 0) := by
    have : sR z4 1 g = sR z3 1 g := by rw [h4]; exact (rR_I (rR_I (rR_I (rR_I (rR_I (rR_I (rR_I (rR_Rf (by decide) (rR_Rf (by decide) (rR_I (rR_I (rR_Rf (by decide) (rR_Ra hgq (rR_I rfl))))))))))))))
    rw [this, (o23.2.1 1 g g2.1).2.2, (o12.2.1 1 g g1.1).2.2, e1]
    exact rR_Rf (by decide) rR_Rs
  have i2g : sI z4 2 g = 0 := by
    have : sI z4 2 g = sI z3 2 g := by rw [h4]; exact (rI_If (by decide) (rI_If (by decide) (rI_If (by decide) (rI_If (by decide) (rI_If (by decide) (rI_If (by decide) (rI_If (by decide) (rI_R (rI_R (rI_If (by decide) (rI_If (by decide) (rI_R (rI_R (rI_If (by decide) rfl))))))))))))))
    rw [this, (o23.2.1 2 g g2.1).1, (o12.2.1 2 g g1.1).1, e1]
    exact rI_R (rI_R (rI_If (by decide) (by rw [I_nO, if_pos rfl])))
  have i2q : sI z4 2 q = 0 := by
    have : sI z4 2 q = sI z3 2 q := by rw [h4]; exact (rI_If (by decide) (rI_If (by decide) (rI_If (by decide) (rI_If (by decide) (rI_If (by decide) (rI_If (by decide) (rI_If (by decide) (rI_R (rI_R (rI_If (by decide) (rI_If (by decide) (rI_R (rI_R (rI_If (by decide) rfl))))))))))))))
    rw [this, e3, I_nO, if_pos rfl]
  have r1q : sR z4 1 q = some (G.2.2.2 0) := by rw [h4]; exact (rR_I (rR_I (rR_I (rR_I (rR_I (rR_I (rR_I (rR_Rf (by decide) (rR_Rf (by decide) (rR_I (rR_I (rR_Rf (by decide) rR_Rs))))))))))))
  have r128 : sR z4 128 p = some q := by rw [h4]; exact (rR_I (rR_I (rR_I (rR_I (rR_I (rR_I (rR_I (rR_Rf (by decide) (rR_Rf (by decide) (rR_I (rR_I rR_Rs)))))))))))
  have r161 : sR z4 161 x = some p := by rw [h4]; exact (rR_I (rR_I (rR_I (rR_I (rR_I (rR_I (rR_I rR_Rs)))))))
  refine ⟨⟨nOK_00, ⟨⟨is4 _ _ x3, r160, r161⟩, ⟨is4 _ _ p3, r128, hgq, fun d hd hi => ?_⟩, ⟨0, lst_new _ (is4 _ _ g3) i2g r1g, by decide⟩, ⟨0, fun _ => 0, 0, lst_new _ (is4 _ _ q3) i2q r1q, by decide⟩, ⟨fun i hi => (by cases hi), fun i j hi => (by cases hi)⟩, fun i hi => (by cases hi), ?_, ?_, ?_⟩, ⟨true, ?_, fun w => by cases w⟩, ⟨true, ?_, fun w => by cases w⟩⟩, ?_⟩
  · rw [r1g] at hd
    cases hd
    exact absurd rfl (hE _ (by rw [← L4]; exact hi.1))
  · rw [h4]; exact rI_If (by decide) (rI_If (by decide) (rI_If (by decide) (rI_If (by decide) (rI_If (by decide) (rI_If (by decide) rI_Is)))))
  · rw [h4]; exact rI_If (by decide) (rI_If (by decide) (rI_If (by decide) (rI_If (by decide) (rI_If (by decide) rI_Is))))
  · rw [h4]; exact rI_If (by decide) (rI_If (by decide) (rI_If (by decide) (rI_If (by decide) rI_Is)))
  · rw [h4]; exact rI_If (by decide) rI_Is
  · rw [h4]; exact rI_Is
  · have k3 : kfr z z3 := by
      have k1 : kfr z z1 := by rw [e1]; exact (((kfr_newO z hg).tr (kfr_I _ _ _ (by decide))).tr (kfr_R _ _ _ (by decide))).tr (kfr_R _ _ _ (by decide))
      exact (k1.tr o12.kfr).tr o23.kfr
    rw [h4]
    exact ((((((((((((((k3.tr (kfr_I _ _ _ (by decide))).tr (kfr_R _ _ _ (by decide))).tr (kfr_R _ _ _ (by decide))).tr (kfr_I _ _ _ (by decide))).tr (kfr_I _ _ _ (by decide))).tr (kfr_R _ _ _ (by decide))).tr (kfr_R _ _ _ (by decide))).tr (kfr_I _ _ _ (by decide))).tr (kfr_I _ _ _ (by decide))).tr (kfr_I _ _ _ (by decide))).tr (kfr_I _ _ _ (by decide))).tr (kfr_I _ _ _ (by decide))).tr (kfr_I _ _ _ (by decide))).tr (kfr_I _ _ _ (by decide)))

set_option maxHeartbeats 4000000 in
set_option maxRecDepth 100000 in
theorem c_Net_init (l : Launch) (G : Gx) (z : Sto) {x : Nat} (hx : is z x 5) : Ct l yX4_init wsX4_init ({ frames := 5, cells := 3, slots := 10, locals := 100 } : Room) G z [.ref x] (fun rv z' => rv = none ∧ kfr z z' ∧ ∃ g p q, netI G z' x g p q (fun _ => 0) N00) := by
  refine ct_of (cc := cX4_init) (maxL := 1) (ret := none) (lv0 := [(0, .ref x)]) (by decide) rfl (by simp [lg_sl, cat_ref, cat_null, cat_int, cat_long, rf_cat]) (by simp [lv_args, cat_ref, cat_null, cat_int, cat_long, rf_cat]) ?_
  intro p e s m args below meth c C hin
  have i0 : ∀ w ∈ u_ws RJx4a65c TJx4a65c 3, w ∈ wsX4_init := by decide +kernel
  have i4 : ∀ w ∈ u_ws RX3 TX3 4, w ∈ wsX4_init := by decide +kernel
  have i5 : ∀ w ∈ u_ws RX4 TX4 9, w ∈ wsX4_init := by decide +kernel
  refine w_aload_n C 0 dX4_init_0 rfl rfl (by first | rfl | exact isRef_rf _) ?_
  refine w_objInit C (by decide +kernel) (by decide +kernel) (by decide +kernel) dX4_init_1 (by decide) (by decide) ?_
  refine w_aload_n C 0 dX4_init_4 rfl rfl (by first | rfl | exact isRef_rf _) ?_
  refine w_new (ci := 0) C rfl i0 tyJx4a65c tyJx4a65c_ok (by decide +kernel) (by decide +kernel) (by decide +kernel) (by decide) fd0 dX4_init_5 (Nat.le_of_ble_eq_true rfl) (Nat.le_of_ble_eq_true rfl) (fun g hg hglow => ?_)
  have hg0 : is (newO z g 0) g 0 := is_newO_self z g 0
  have hx0 : is (newO z g 0) x 5 := is_newO hx hg
  refine w_dup C dX4_init_8 (by first | rfl | exact rf_cat _) ?_
  refine w_callI (As := []) (b := g) (rest := [.ref g, .ref x]) C (cwI 0 C.1.2.2.2.2 gX4_init_Jx4a65c_init_da8c8 rfl rfl rfl (C.1.2.2.2.2 _ (by decide +kernel)) (C.1.2.2.2.2 _ (by decide +kernel)) (C.1.2.2.2.2 _ (by decide +kernel)) rfl (by decide +kernel) ⟨Nat.le_of_ble_eq_true rfl, Nat.le_of_ble_eq_true rfl⟩) rfl rfl (by first | decide | simp [cat_ref, cat_null, cat_int, cat_long, rf_cat]) dX4_init_9 ⟨Nat.le_of_ble_eq_true rfl, Nat.le_of_ble_eq_true rfl⟩ (c_AList_init l G _ hg0) (fun rv z1 h9 => ?_)
  obtain ⟨rfl, e9⟩ := h9
  replace e9 := e9.symm
  subst e9
  refine w_putRF (ci := 5) (k := 0) (f := 160) (v := (some g)) C rfl i5 (by decide +kernel) (by decide) (by decide) rfl rfl tyX4 tyX4_ok nmX4 rfl hin rfl (by first | rfl | exact nar_rf _ _ | exact nar_ra _ _) (by first | rfl | exact fit_rf _ _ | exact fit_ra _ _) dX4_init_12 hx0 ?_
  refine w_aload_n C 0 dX4_init_15 rfl rfl (by first | rfl | exact isRef_rf _) ?_
  refine w_new (ci := 4) C rfl i4 tyX3 tyX3_ok (by decide +kernel) (by decide +kernel) (by decide +kernel) (by decide) fd4 dX4_init_16 (Nat.le_of_ble_eq_true rfl) (Nat.le_of_ble_eq_true rfl) (fun p9 hp hplow => ?_)
  have hpp : is (newO (putR (putR (putI (newO z g 0) 0 g 0) 1 g (some (G.2.2.2 0))) 160 x (some g)) p9 4) p9 4 := is_newO_self _ p9 4
  have hx1 : is (newO (putR (putR (putI (newO z g 0) 0 g 0) 1 g (some (G.2.2.2 0))) 160 x (some g)) p9 4) x 5 := is_newO hx0 hp
  refine w_dup C dX4_init_19 (by first | rfl | exact rf_cat _) ?_
  refine w_callIN (As := []) (b := p9) (rest := [.ref p9, .ref x]) C ⟨va_cnB 0 C.1.2.2.2.2 gX4_init_X3_init_n18 rfl rfl rfl C.2.2.2.1.2.2.2.2.2.2.2.2.2.2.2.2 (C.1.2.2.2.2 _ (by decide +kernel)) (by decide +kernel) ⟨Nat.le_of_ble_eq_true rfl, Nat.le_of_ble_eq_true rfl⟩, rfl, C.1.2.2.2.2 _ (by decide +kernel)⟩ rfl rfl (by first | decide | simp [cat_ref, cat_null, cat_int, cat_long, rf_cat]) dX4_init_20 ⟨Nat.le_of_ble_eq_true rfl, Nat.le_of_ble_eq_true rfl⟩ (c_Parts_init l G _ hpp) (fun rv z2 h9 => ?_)
  obtain ⟨rfl, q, hq, e9⟩ := h9
  replace e9 := e9.symm
  subst e9
  have hx2 : is (paS G (newO (putR (putR (putI (newO z g 0) 0 g 0) 1 g (some (G.2.2.2 0))) 160 x (some g)) p9 4) p9 q) x 5 := is_newO hx1 hq
  refine w_putRF (ci := 5) (k := 1) (f := 161) (v := (some p9)) C rfl i5 (by decide +kernel) (by decide) (by decide) rfl rfl tyX4 tyX4_ok nmX4 rfl hin rfl (by first | rfl | exact nar_rf _ _ | exact nar_ra _ _) (by first | rfl | exact fit_rf _ _ | exact fit_ra _ _) dX4_init_23 hx2 ?_
  refine w_aload_n C 0 dX4_init_26 rfl rfl (by first | rfl | exact isRef_rf _) ?_
  refine w_iconst (v := 0) C dX4_init_27 (by decide) ?_
  refine w_putI (ci := 5) (k := 2) (f := 162) C rfl i5 (by decide +kernel) (by decide) (by decide) rfl rfl tyX4 tyX4_ok nmX4 rfl rfl rfl dX4_init_28 (is_R hx2) ?_
  refine w_aload_n C 0 dX4_init_31 rfl rfl (by first | rfl | exact isRef_rf _) ?_
  refine w_iconst (v := 0) C dX4_init_32 (by decide) ?_
  refine w_putI (ci := 5) (k := 3) (f := 163) C rfl i5 (by decide +kernel) (by decide) (by decide) rfl rfl tyX4 tyX4_ok nmX4 rfl rfl rfl dX4_init_33 (is_I (is_R hx2)) ?_
  refine w_aload_n C 0 dX4_init_36 rfl rfl (by first | rfl | exact isRef_rf _) ?_
  refine w_iconst (v := 0) C dX4_init_37 (by decide) ?_
  refine w_putI (ci := 5) (k := 4) (f := 164) C rfl i5 (by decide +kernel) (by decide) (by decide) rfl rfl tyX4 tyX4_ok nmX4 rfl rfl rfl dX4_init_38 (is_I (is_I (is_R hx2))) ?_
  refine w_aload_n C 0 dX4_init_41 rfl rfl (by first | rfl | exact isRef_rf _) ?_
  refine w_iconst (v := 0) C dX4_init_42 (by decide) ?_
  refine w_putI (ci := 5) (k := 5) (f := 165) C rfl i5 (by decide +kernel) (by decide) (by decide) rfl rfl tyX4 tyX4_ok nmX4 rfl rfl rfl dX4_init_43 (is_I (is_I (is_I (is_R hx2)))) ?_
  refine w_aload_n C 0 dX4_init_46 rfl rfl (by first | rfl | exact isRef_rf _) ?_
  refine w_iconst (v := 0) C dX4_init_47 (by decide) ?_
  refine w_putI (ci := 5) (k := 6) (f := 166) C rfl i5 (by decide +kernel) (by decide) (by decide) rfl rfl tyX4 tyX4_ok nmX4 rfl rfl rfl dX4_init_48 (is_I (is_I (is_I (is_I (is_R hx2))))) ?_
  refine w_aload_n C 0 dX4_init_51 rfl rfl (by first | rfl | exact isRef_rf _) ?_
  refine w_iconst (v := 1) C dX4_init_52 (by decide) ?_
  refine w_putI (ci := 5) (k := 7) (f := 167) C rfl i5 (by decide +kernel) (by decide) (by decide) rfl rfl tyX4 tyX4_ok nmX4 rfl rfl rfl dX4_init_53 (is_I (is_I (is_I (is_I (is_I (is_R hx2)))))) ?_
  refine w_aload_n C 0 dX4_init_56 rfl rfl (by first | rfl | exact isRef_rf _) ?_
  refine w_iconst (v := 1) C dX4_init_57 (by decide) ?_
  refine w_putI (ci := 5) (k := 8) (f := 168) C rfl i5 (by decide +kernel) (by decide) (by decide) rfl rfl tyX4 tyX4_ok nmX4 rfl rfl rfl dX4_init_58 (is_I (is_I (is_I (is_I (is_I (is_I (is_R hx2))))))) ?_
  refine w_sep C (fun hE => ?_)
  have hN := netI_new hx hg hp hq hE
  exact w_vret C dX4_init_61 ⟨rfl, hN.2, _, _, _, hN.1⟩
def isCnt (N : NT) (w r : Int32) : Prop :=
  (w = 0 ∧ r = nI (nN N)) ∨ (w = 1 ∧ r = nI (nFL N).length) ∨ (w = 2 ∧ r = nI (cnt (fun i => decide (nSo N i = 0)) (nN N))) ∨ (w = 3 ∧ r = nI (cnt (fun i => decide (nSo N i = 1)) (nN N))) ∨ (w = 4 ∧ r = nI (nUn N (nRC N))) ∨ (w = 5 ∧ r = nI (nRC N)) ∨
  (w = 6 ∧ ∃ P : Nat → Int32, (∀ v, v < nN N → isPart (nsc (nSo N) (nFd N)) v (P v)) ∧ r = nI (cnt (fun v => decide (P v = nI v)) (nN N))) ∨ (w = 7 ∧ r = bI (decide (nUn N (nRC N) = 0))) ∨ ((w < 0 ∨ 7 < w) ∧ r = -1)
set_option maxHeartbeats 4000000 in
set_option maxRecDepth 100000 in
theorem c_count (l : Launch) (G : Gx) (z : Sto) {x gl pt ol : Nat} {ga : Nat → Nat} {N : NT} {w0 : Int32} (h : netI G z x gl pt ol ga N) : Ct l yX4_count wsX4_count ({ frames := 11, cells := 900, slots := 3600, locals := 340 } : Room) G z [.ref x, .int w0] (fun rv z' => ∃ r, rv = some (.int r) ∧ isCnt N w0 r ∧ kfr z z' ∧ netI G z' x gl pt ol ga N) := by
  refine ct_of (cc := cX4_count) (maxL := 2) (ret := (some .int)) (lv0 := [(0, .ref x), (1, .int w0)]) (by decide) rfl (by simp [lg_sl, cat_ref, cat_null, cat_int, cat_long, rf_cat]) (by simp [lv_args, cat_ref, cat_null, cat_int, cat_long, rf_cat]) ?_
  intro p e s m args below meth c C hin
  have i4 : ∀ w ∈ u_ws RX3 TX3 4, w ∈ wsX4_count := by decide +kernel
  have i5 : ∀ w ∈ u_ws RX4 TX4 9, w ∈ wsX4_count := by decide +kernel
  have hG := h.2.1
  obtain ⟨capg, hgl, hgc⟩ := hG.2.2.1
  refine w_iload_n C 1 dX4_count_0 rfl rfl ?_
  by_cases c0 : w0 < 0 ∨ 7 < w0
  · refine w_tableOut (tgt := 114) C dX4_count_1 (c0.imp (fun q => Int32.lt_iff_toInt_lt.mp q) (fun q => by have h9 := Int32.lt_iff_toInt_lt.mp q; rw [show (7 : Int32).toInt = 7 from by decide] at h9; exact h9)) (by decide) ?_
    refine w_widen (k := 900) (n := 3600) (by decide) (by decide) ?_
    refine w_iconst (v := (-1)) C dX4_count_114 (by decide) ?_
    exact w_iret C dX4_count_115 ⟨_, rfl, Or.inr (Or.inr (Or.inr (Or.inr (Or.inr (Or.inr (Or.inr (Or.inr (⟨c0, rfl⟩)))))))), kfr.rf z, h⟩
  · obtain ⟨j, hj, rfl⟩ := nI_of2 (n := 7) (M := 7) (by decide) (fun q => c0 (Or.inl q)) (Int32.not_lt.mp (fun q => c0 (Or.inr q)))
    match j, hj with
    | 0, _ =>
      refine w_tableIn (off := 47) (tgt := 48) C dX4_count_1 (by decide) (by decide) (by decide) (by decide) ?_
      refine w_aload_n C 0 dX4_count_48 rfl rfl (by first | rfl | exact isRef_rf _) ?_
      refine w_getRs (ci := 5) (k := 0) (f := 160) C rfl i5 (by decide +kernel) (by decide) (by decide) rfl rfl dX4_count_49 hG.1.1 hG.1.2.1 ?_
      refine w_callV (ci := 0) (As := []) (rest := []) C (cwV 0 C.1.2.2.2.2 gX4_count_Jx4a65c_size_8abf5 rfl rfl rfl (by decide +kernel) ⟨Nat.le_of_ble_eq_true rfl, Nat.le_of_ble_eq_true rfl⟩) hgl.1 rfl (by decide) rfl rfl (by first | decide | simp [cat_ref, cat_null, cat_int, cat_long, rf_cat]) dX4_count_52 ⟨Nat.le_of_ble_eq_true rfl, Nat.le_of_ble_eq_true rfl⟩ (c_size l G z hgl) (fun rv z1 h9 => ?_)
      obtain ⟨rfl, e9⟩ := h9
      replace e9 := e9.symm
      subst e9
      refine w_widen (k := 900) (n := 3600) (by decide) (by decide) ?_
      exact w_iret C dX4_count_55 ⟨_, rfl, Or.inl ⟨rfl, rfl⟩, kfr.rf z, h⟩
    | 1, _ =>
      refine w_tableIn (off := 55) (tgt := 56) C dX4_count_1 (by decide) (by decide) (by decide) (by decide) ?_
      refine w_aload_n C 0 dX4_count_56 rfl rfl (by first | rfl | exact isRef_rf _) ?_
      refine w_getI (ci := 5) (k := 2) (f := 162) C rfl i5 (by decide +kernel) (by decide) (by decide) rfl rfl dX4_count_57 hG.1.1 hG.2.2.2.2.2.2.1 ?_
      refine w_widen (k := 900) (n := 3600) (by decide) (by decide) ?_
      exact w_iret C dX4_count_60 ⟨_, rfl, Or.inr (Or.inl ⟨rfl, rfl⟩), kfr.rf z, h⟩
    | 2, _ =>
      refine w_tableIn (off := 60) (tgt := 61) C dX4_count_1 (by decide) (by decide) (by decide) (by decide) ?_
      refine w_aload_n C 0 dX4_count_61 rfl rfl (by first | rfl | exact isRef_rf _) ?_
      refine w_getI (ci := 5) (k := 3) (f := 163) C rfl i5 (by decide +kernel) (by decide) (by decide) rfl rfl dX4_count_62 hG.1.1 hG.2.2.2.2.2.2.2.1 ?_
      refine w_widen (k := 900) (n := 3600) (by decide) (by decide) ?_
      exact w_iret C dX4_count_65 ⟨_, rfl, Or.inr (Or.inr (Or.inl ⟨rfl, rfl⟩)), kfr.rf z, h⟩
    | 3, _ =>
      refine w_tableIn (off := 65) (tgt := 66) C dX4_count_1 (by decide) (by decide) (by decide) (by decide) ?_
      refine w_aload_n C 0 dX4_count_66 rfl rfl (by first | rfl | exact isRef_rf _) ?_
      refine w_getI (ci := 5) (k := 4) (f := 164) C rfl i5 (by decide +kernel) (by decide) (by decide) rfl rfl dX4_count_67 hG.1.1 hG.2.2.2.2.2.2.2.2 ?_
      refine w_widen (k := 900) (n := 3600) (by decide) (by decide) ?_
      exact w_iret C dX4_count_70 ⟨_, rfl, Or.inr (Or.inr (Or.inr (Or.inl ⟨rfl, rfl⟩))), kfr.rf z, h⟩
    | 4, _ =>
      refine w_tableIn (off := 70) (tgt := 71) C dX4_count_1 (by decide) (by decide) (by decide) (by decide) ?_
      refine w_aload_n C 0 dX4_count_71 rfl rfl (by first | rfl | exact isRef_rf _) ?_
      refine w_callV (ci := 5) (As := []) (rest := []) C (cwV 0 C.1.2.2.2.2 gX4_count_X4_spreadKnown rfl rfl rfl (by decide +kernel) ⟨Nat.le_of_ble_eq_true rfl, Nat.le_of_ble_eq_true rfl⟩) hG.1.1 rfl (by decide) rfl rfl (by first | decide | simp [cat_ref, cat_null, cat_int, cat_long, rf_cat]) dX4_count_72 ⟨Nat.le_of_ble_eq_true rfl, Nat.le_of_ble_eq_true rfl⟩ (c_spreadKnown l G z h) (fun rv z1 h9 => ?_)
      obtain ⟨rfl, hF, hV, hN⟩ := h9
      have hx1 := hF.is hG.1.1
      refine w_aload_n C 0 dX4_count_75 rfl rfl (by first | rfl | exact isRef_rf _) ?_
      refine w_getI (ci := 5) (k := 5) (f := 165) C rfl i5 (by decide +kernel) (by decide) (by decide) rfl rfl dX4_count_76 hx1 hV.2.1 ?_
      refine w_widen (k := 900) (n := 3600) (by decide) (by decide) ?_
      exact w_iret C dX4_count_79 ⟨_, rfl, Or.inr (Or.inr (Or.inr (Or.inr (Or.inl ⟨rfl, rfl⟩)))), (kfr_iF hF (fun _ q => pSK_192 q)), hN⟩
    | 5, _ =>
      refine w_tableIn (off := 79) (tgt := 80) C dX4_count_1 (by decide) (by decide) (by decide) (by decide) ?_
      refine w_aload_n C 0 dX4_count_80 rfl rfl (by first | rfl | exact isRef_rf _) ?_
      refine w_callV (ci := 5) (As := []) (rest := []) C (cwV 0 C.1.2.2.2.2 gX4_count_X4_spreadKnown rfl rfl rfl (by decide +kernel) ⟨Nat.le_of_ble_eq_true rfl, Nat.le_of_ble_eq_true rfl⟩) hG.1.1 rfl (by decide) rfl rfl (by first | decide | simp [cat_ref, cat_null, cat_int, cat_long, rf_cat]) dX4_count_81 ⟨Nat.le_of_ble_eq_true rfl, Nat.le_of_ble_eq_true rfl⟩ (c_spreadKnown l G z h) (fun rv z1 h9 => ?_)
      obtain ⟨rfl, hF, hV, hN⟩ := h9
      have hx1 := hF.is hG.1.1
      refine w_aload_n C 0 dX4_count_84 rfl rfl (by first | rfl | exact isRef_rf _) ?_
      refine w_getI (ci := 5) (k := 6) (f := 166) C rfl i5 (by decide +kernel) (by decide) (by decide) rfl rfl dX4_count_85 hx1 hV.2.2 ?_
      refine w_widen (k := 900) (n := 3600) (by decide) (by decide) ?_
      exact w_iret C dX4_count_88 ⟨_, rfl, Or.inr (Or.inr (Or.inr (Or.inr (Or.inr (Or.inl ⟨rfl, rfl⟩))))), (kfr_iF hF (fun _ q => pSK_192 q)), hN⟩
    | 6, _ =>
      refine w_tableIn (off := 88) (tgt := 89) C dX4_count_1 (by decide) (by decide) (by decide) (by decide) ?_
      refine w_aload_n C 0 dX4_count_89 rfl rfl (by first | rfl | exact isRef_rf _) ?_
      refine w_callV (ci := 5) (As := []) (rest := []) C (cwV 0 C.1.2.2.2.2 gX4_count_X4_findParts rfl rfl rfl (by decide +kernel) ⟨Nat.le_of_ble_eq_true rfl, Nat.le_of_ble_eq_true rfl⟩) hG.1.1 rfl (by decide) rfl rfl (by first | decide | simp [cat_ref, cat_null, cat_int, cat_long, rf_cat]) dX4_count_90 ⟨Nat.le_of_ble_eq_true rfl, Nat.le_of_ble_eq_true rfl⟩ (c_findParts l G z h) (fun rv z1 h9 => ?_)
      obtain ⟨rfl, hK, hN, hR⟩ := h9
      have hG1 := hN.2.1
      refine w_aload_n C 0 dX4_count_93 rfl rfl (by first | rfl | exact isRef_rf _) ?_
      refine w_getRs (ci := 5) (k := 1) (f := 161) C rfl i5 (by decide +kernel) (by decide) (by decide) rfl rfl dX4_count_94 hG1.1.1 hG1.1.2.2 ?_
      refine w_getI (ci := 4) (k := 1) (f := 129) C rfl i4 (by decide +kernel) (by decide) (by decide) rfl rfl dX4_count_97 hG1.2.1.1 hR.2.1 ?_
      exact w_iret C dX4_count_100 ⟨_, rfl, Or.inr (Or.inr (Or.inr (Or.inr (Or.inr (Or.inr (Or.inl ⟨rfl, _, hR.1, rfl⟩)))))), hK, hN⟩
    | 7, _ =>
      refine w_tableIn (off := 100) (tgt := 101) C dX4_count_1 (by decide) (by decide) (by decide) (by decide) ?_
      refine w_aload_n C 0 dX4_count_101 rfl rfl (by first | rfl | exact isRef_rf _) ?_
      refine w_callV (ci := 5) (As := []) (rest := []) C (cwV 0 C.1.2.2.2.2 gX4_count_X4_settles rfl rfl rfl (by decide +kernel) ⟨Nat.le_of_ble_eq_true rfl, Nat.le_of_ble_eq_true rfl⟩) hG.1.1 rfl (by decide) rfl rfl (by first | decide | simp [cat_ref, cat_null, cat_int, cat_long, rf_cat]) dX4_count_102 ⟨Nat.le_of_ble_eq_true rfl, Nat.le_of_ble_eq_true rfl⟩ (c_settles l G z h) (fun rv z1 h9 => ?_)
      obtain ⟨rfl, hF, hV, hN⟩ := h9
      refine w_if_eq (tgt := 112) C dX4_count_105 (by decide) (fun c1 => ?_) (fun c1 => ?_)
      · rw [bI_0] at c1
        refine w_iconst (v := 0) C dX4_count_112 (by decide) ?_
        refine w_widen (k := 900) (n := 3600) (by decide) (by decide) ?_
        exact w_iret C dX4_count_113 ⟨_, rfl, Or.inr (Or.inr (Or.inr (Or.inr (Or.inr (Or.inr (Or.inr (Or.inl ⟨rfl, (by first | (rw [c1]; rfl) | (rw [c2]; rfl))⟩))))))), (kfr_iF hF (fun _ q => pSK_192 q)), hN⟩
      · have c2 : decide (nUn N (nRC N) = 0) = true := by cases q : decide (nUn N (nRC N) = 0) with | true => rfl | false => rw [q] at c1; exact absurd rfl c1
        refine w_iconst (v := 1) C dX4_count_108 (by decide) ?_
        refine w_goto (tgt := 113) C dX4_count_109 (by decide) ?_
        refine w_widen (k := 900) (n := 3600) (by decide) (by decide) ?_
        exact w_iret C dX4_count_113 ⟨_, rfl, Or.inr (Or.inr (Or.inr (Or.inr (Or.inr (Or.inr (Or.inr (Or.inl ⟨rfl, (by first | (rw [c1]; rfl) | (rw [c2]; rfl))⟩))))))), (kfr_iF hF (fun _ q => pSK_192 q)), hN⟩
