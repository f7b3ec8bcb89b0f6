/-! ===== TernaryNet: startSpread, spreadKnown, settles, findParts, forgetAll ===== -/
def pSt (f : Nat) : Bool := decide (f = 69) || decide (f = 70) || decide (f = 165)
theorem pSK_st {f : Nat} (h : pSK f = false) : pSt f = false := by
  unfold pSK at h
  unfold pSt
  cases h1 : decide (f = 69) <;> cases h2 : decide (f = 70) <;> cases h3 : decide (f = 165) <;> simp_all
/-- what is kept of the reference's objects -/
def kfr (z z' : Sto) : Prop := (∀ b k, is z b k → is z' b k) ∧ (∀ f b, 192 ≤ f → b ∈ sL z → sI z' f b = sI z f b) ∧ (∀ f b, 192 ≤ f → b ∈ sL z → sR z' f b = sR z f b) ∧ ∀ b, b ∈ sL z → sN z' b = sN z b ∧ sE z' b = sE z b ∧ sF z' b = sF z b
theorem kfr.rf (z : Sto) : kfr z z := ⟨fun _ _ h => h, fun _ _ _ _ => rfl, fun _ _ _ _ => rfl, fun _ _ => ⟨rfl, rfl, rfl⟩⟩
theorem kfr.tr {z z1 z2 : Sto} (h1 : kfr z z1) (h2 : kfr z1 z2) : kfr z z2 := by
  obtain ⟨a1, a2, a3, a4⟩ := h1
  obtain ⟨b1, b2, b3, b4⟩ := h2
  have hL : ∀ b, b ∈ sL z → b ∈ sL z1 := fun b hb => (a1 b (sK z b) ⟨hb, rfl⟩).1
  exact ⟨fun b k h => b1 b k (a1 b k h), fun f b h h' => (b2 f b h (hL b h')).trans (a2 f b h h'), fun f b h h' => (b3 f b h (hL b h')).trans (a3 f b h h'), fun b hb => ⟨(b4 b (hL b hb)).1.trans (a4 b hb).1, (b4 b (hL b hb)).2.1.trans (a4 b hb).2.1, (b4 b (hL b hb)).2.2.trans (a4 b hb).2.2⟩⟩
theorem kfr_iF {P : Nat → Bool} {z z' : Sto} (h : iF P z z') (hP : ∀ f, 192 ≤ f → P f = false) : kfr z z' := ⟨fun _ _ q => h.is q, fun f b q _ => h.2 f b (hP f q), fun f b _ _ => h.R f b, fun b _ => ⟨by rw [h.1.2.2.2.2.1], by rw [h.1.2.2.2.2.2.1], by rw [h.1.2.2.2.2.2.2.1]⟩⟩
theorem kfr_pF {z z' : Sto} {ol : Nat} (h : pF z z' ol) : kfr z z' := by
  obtain ⟨a1, a2, a3, a4, a5, a6⟩ := h
  refine ⟨a1, fun f b q _ => a2 f b ?_ (Or.inl ⟨by omega, by omega⟩), fun f b q _ => a4 f b ?_ (Or.inl (by omega)), a5⟩
  · unfold wIf
    simp only [Bool.or_eq_false_iff, decide_eq_false_iff_not]
    omega
  · unfold wRf
    simp only [Bool.or_eq_false_iff, decide_eq_false_iff_not]
    omega
theorem kfr_I (z : Sto) {f : Nat} (b : Nat) (v : Int32) (h : f < 192) : kfr z (putI z f b v) := ⟨fun _ _ q => q, fun g c q _ => rI_If (by omega) rfl, fun _ _ _ _ => rfl, fun _ _ => ⟨rfl, rfl, rfl⟩⟩
theorem kfr_R (z : Sto) {f : Nat} (b : Nat) (v : Option Nat) (h : f < 192) : kfr z (putR z f b v) := ⟨fun _ _ q => q, fun _ _ _ _ => rfl, fun g c q _ => rR_Rf (by omega) rfl, fun _ _ => ⟨rfl, rfl, rfl⟩⟩
theorem kfr_newO (z : Sto) {q k : Nat} (h : q ∉ sL z) : kfr z (newO z q k) := by
  have hne : ∀ b, b ∈ sL z → b ≠ q := fun b hb e => h (e ▸ hb)
  exact ⟨fun b k' hb => is_newO hb h, fun f b _ hb => by rw [I_nO, if_neg (hne b hb)], fun f b _ hb => by rw [R_nO, if_neg (hne b hb)], fun _ _ => ⟨rfl, rfl, rfl⟩⟩
theorem kfr_ad {z z' : Sto} {a : Nat} (h : adF z z' a) : kfr z z' := kfr_pF (pF_ad h)
theorem pSK_192 {f : Nat} (h : 192 ≤ f) : pSK f = false := by
  unfold pSK
  simp only [Bool.or_eq_false_iff, decide_eq_false_iff_not]
  omega
theorem netI_sp {G : Gx} {z z' : Sto} {x gl pt ol : Nat} {ga : Nat → Nat} {N : NT} (h : netI G z x gl pt ol ga N) (hF : iF pSK z z') (hV : netV z' x ga N) (h0 : sI z' 167 x = 0) : netI G z' x gl pt ol ga N := by
  obtain ⟨a, b, c, ps, d1, d2⟩ := h
  exact ⟨a, netG_iF b hF (by decide), ⟨false, h0, fun _ => hV⟩, ps, (hF.2 168 x rfl).trans d1, fun q => ptR_iF (d2 q) hF (by decide)⟩
theorem netG_pF {G : Gx} {z z' : Sto} {x gl pt ol : Nat} {ga : Nat → Nat} {N : NT} (h : netG G z x gl pt ol ga N) (hF : pF z z' ol) (hl : ∃ no fo cap, lst G z' ol no fo cap ∧ cap ≤ 900) (hE : ∀ b, b ∈ sL z' → b ≠ G.2.2.2 0) : netG G z' x gl pt ol ga N := by
  obtain ⟨⟨a1, a2, a3⟩, ⟨b1, b2, b3⟩, ⟨cg, c1, c2⟩, -, e1, e2, f1, f2, f3⟩ := h
  have I : ∀ f b, wIf f = false → f ≠ 0 ∧ f ≠ 2 → sI z' f b = sI z f b := fun f b h h' => hF.2.1 f b h (Or.inl h')
  have R : ∀ f b, wRf f = false → f ≠ 1 → sR z' f b = sR z f b := fun f b h h' => hF.2.2.2.1 f b h (Or.inl h')
  refine ⟨⟨hF.1 _ _ a1, (R _ _ rfl (by decide)).trans a2, (R _ _ rfl (by decide)).trans a3⟩, ⟨hF.1 _ _ b1, (R _ _ rfl (by decide)).trans b2, b3.1, fun d hd hi => ?_⟩, ⟨cg, lst_pF c1 b3 hF, c2⟩, hl, gts_pF e1 hF, fun i hi => ⟨(I _ _ rfl (by decide)).trans (e2 i hi).1, (I _ _ rfl (by decide)).trans (e2 i hi).2⟩, (I _ _ rfl (by decide)).trans f1, (I _ _ rfl (by decide)).trans f2, (I _ _ rfl (by decide)).trans f3⟩
  have hd0 : sR z 1 gl = some d := (hF.2.2.2.1 1 gl rfl (Or.inr b3.1)).symm.trans hd
  rcases c1.2.2.2.2 with ⟨-, q⟩ | ⟨-, d9, q1, q2, -⟩
  · exact absurd (Option.some.inj (hd0.symm.trans q)) (hE d hi.1)
  · cases hd0.symm.trans q1
    exact (hF.2.2.2.2.2 d q2.1 (b3.2 d hd0 q2)).2

theorem w_sep {p : Program} {l : Launch} {e : Env} {R : Room} {s : State} {m : MethodId} {args : Array Value} {below : List Frame} {meth : Method} {c : Code} {G : Gx} {nL cells slots : Nat} {Q : State → Prop} {z : Sto} {pc : Nat} {lv : List (Nat × Value)} {st : List Value} {cc : ByteArray} {Ts : List Cond} {own : String} {ret : Option FieldType} (C : Cx p s m args meth c cc nL Ts own ret G) (k : (∀ b, b ∈ sL z → b ≠ G.2.2.2 0) → Wp p l e R s m args below meth c G nL cells slots Q z pc lv st) : Wp p l e R s m args below meth c G nL cells slots Q z pc lv st := by
  intro H locs ls hp hl
  refine k (fun b hb e9 => ?_) H locs ls hp hl
  obtain ⟨-, -, -, -, -, -, -, h7⟩ := C.2.2.2.1.1.2
  have h1 : G.2.2.1 ≤ b := hp.1.low hb
  rw [e9] at h1
  exact h7 h1
set_option maxHeartbeats 4000000 in
set_option maxRecDepth 100000 in
theorem c_startSpread (l : Launch) (G : Gx) (z : Sto) {x gl pt ol : Nat} {ga : Nat → Nat} {N : NT} (hO : nOK N) (hG : netG G z x gl pt ol ga N) : Ct l yX4_startSpread wsX4_startSpread ({ frames := 3, cells := 0, slots := 0, locals := 70 } : Room) G z [.ref x] (fun rv z' => rv = none ∧ iF pSt z z' ∧ valK z' ga N 0 ∧ sI z' 165 x = nI (nUn N 0)) := by
  refine ct_of (cc := cX4_startSpread) (maxL := 3) (ret := none) (lv0 := [(0, .ref x)]) (by decide) rfl (by simp [lg_sl, cat_ref, cat_null, cat_int, cat_long, rf_cat]) (by simp [lv_args, cat_ref, cat_null, cat_int, cat_long, rf_cat]) ?_
  intro p e s m args below meth c C hin
  have i2 : ∀ w ∈ u_ws RX1 TX1 17, w ∈ wsX4_startSpread := by decide +kernel
  have i5 : ∀ w ∈ u_ws RX4 TX4 9, w ∈ wsX4_startSpread := by decide +kernel
  obtain ⟨capg, hgl, hgc⟩ := hG.2.2.1
  have hn := hO.1
  have loop : ∀ (r i : Nat) (z1 : Sto), i + r = nN N → iF pSt z z1 → (∀ v, v < i → sI z1 69 (ga v) = nV N 0 v ∧ sI z1 70 (ga v) = nR N 0 v) → sI z1 165 x = nI (cnt (fun j => decide (nV N 0 j = 2)) i) → Wp p l e ({ frames := 3, cells := 0, slots := 0, locals := 70 } : Room) s m args below meth c G 3 0 0 (MQ below (cPost G (fun rv z' => rv = none ∧ iF pSt z z' ∧ valK z' ga N 0 ∧ sI z' 165 x = nI (nUn N 0))) args s (0) (0) (gA G)) z1 7 [(1, .int (nI i)), (0, .ref x)] [] := by
    intro r
    induction r with
    | zero =>
      intro i z1 hi hF h1 h2
      have hin : i = nN N := by omega
      subst hin
      have hg1 := netG_iF hG hF (by decide)
      have hl1 := hF.lst rfl hgl
      refine w_iload_n C 0 dX4_startSpread_7 rfl rfl ?_
      refine w_aload_n C 1 dX4_startSpread_8 rfl rfl (by first | rfl | exact isRef_rf _) ?_
      refine w_getRs (ci := 5) (k := 0) (f := 160) C rfl i5 (by decide +kernel) (by decide) (by decide) rfl rfl dX4_startSpread_9 hg1.1.1 hg1.1.2.1 ?_
      refine w_callV (ci := 0) (As := []) (rest := [.int (nI (nN N))]) C (cwV 0 C.1.2.2.2.2 gX4_startSpread_Jx4a65c_size_8abf5 rfl rfl rfl (by decide +kernel) ⟨Nat.le_of_ble_eq_true rfl, Nat.le_of_ble_eq_true rfl⟩) hl1.1 rfl (by decide) rfl rfl (by first | decide | simp [cat_ref, cat_null, cat_int, cat_long, rf_cat]) dX4_startSpread_12 ⟨Nat.le_of_ble_eq_true rfl, Nat.le_of_ble_eq_true rfl⟩ (c_size l G z1 hl1) (fun rv z2 h9 => ?_)
      obtain ⟨rfl, e9⟩ := h9
      replace e9 := e9.symm
      subst e9
      refine w_icmp_ge (tgt := 79) C dX4_startSpread_15 (by decide) (fun c1 => ?_) (fun c1 => ?_)
      · exact w_vret C dX4_startSpread_79 ⟨rfl, hF, h1, h2⟩
      · exact absurd (nI_le (Nat.le_refl _) (by omega)) c1
    | succ r ih =>
      intro i z1 hi hF h1 h2
      have hin : i < nN N := by omega
      have hg1 := netG_iF hG hF (by decide)
      have hl1 := hF.lst rfl hgl
      obtain ⟨gi1, gi2, gi3, gi4, gi5⟩ := hg1.2.2.2.2.1.1 i hin
      have hgne : ∀ v, v < nN N → v ≠ i → ga v ≠ ga i := fun v hv hne e9 => hne (hg1.2.2.2.2.1.2 v i hv hin e9)
      have h68 := (hg1.2.2.2.2.2.1 i hin).2
      have hxs := hg1.1.1
      have fin : ∀ (rr : Int32), rr = nR N 0 i → ∀ (z2 : Sto), z2 = putI (putI z1 69 (ga i) (nV N 0 i)) 70 (ga i) rr → ∀ (z3 : Sto), iF pSt z2 z3 → (∀ b, sI z3 69 b = sI z2 69 b ∧ sI z3 70 b = sI z2 70 b) → sI z3 165 x = nI (cnt (fun j => decide (nV N 0 j = 2)) (i + 1)) → Wp p l e ({ frames := 3, cells := 0, slots := 0, locals := 70 } : Room) s m args below meth c G 3 0 0 (MQ below (cPost G (fun rv z' => rv = none ∧ iF pSt z z' ∧ valK z' ga N 0 ∧ sI z' 165 x = nI (nUn N 0))) args s (0) (0) (gA G)) z3 73 [(2, .ref (ga i)), (1, .int (nI i)), (0, .ref x)] [] := by
        intro rr hrr z2 hz2 z3 hF3 hs3 h165
        subst hz2
        refine w_iincB (v := nI (i + 1)) (lvq := [(1, _), (2, _), (0, _)]) C 1 2 rfl rfl (by first | rfl | exact rf_cat _) dX4_startSpread_73 rfl (nI_1 i) (by decide) rfl ?_
        refine w_goto (tgt := 7) C dX4_startSpread_76 (by decide) ?_
        refine w_sub [0, 2] rfl (ih (i + 1) z3 (by omega) (((hF.tr (iF_I _ _ 69 _ _ rfl)).tr (iF_I _ _ 70 _ _ rfl)).tr hF3) (fun v hv => ?_) h165)
        rw [(hs3 _).1, (hs3 _).2]
        by_cases hvi2 : v = i
        · rw [hvi2]; exact ⟨rI_If (by decide) rI_Is, rI_Is.trans hrr⟩
        · exact ⟨rI_If (by decide) (rI_Ia (hgne v (by omega) hvi2) (h1 v (by omega)).1), rI_Ia (hgne v (by omega) hvi2) (rI_If (by decide) (h1 v (by omega)).2)⟩
      have fin2 : ∀ (rr : Int32), rr = nR N 0 i → Wp p l e ({ frames := 3, cells := 0, slots := 0, locals := 70 } : Room) s m args below meth c G 3 0 0 (MQ below (cPost G (fun rv z' => rv = none ∧ iF pSt z z' ∧ valK z' ga N 0 ∧ sI z' 165 x = nI (nUn N 0))) args s (0) (0) (gA G)) (putI (putI z1 69 (ga i) (nV N 0 i)) 70 (ga i) rr) 55 [(2, .ref (ga i)), (1, .int (nI i)), (0, .ref x)] [] := by
        intro rr hrr
        refine w_aload_n C 0 dX4_startSpread_55 rfl rfl (by first | rfl | exact isRef_rf _) ?_
        refine w_getI (ci := 2) (k := 4) (f := 68) C rfl i2 (by decide +kernel) (by decide) (by decide) rfl rfl dX4_startSpread_56 (is_I (is_I gi1)) (rI_If (by decide) (rI_If (by decide) h68)) ?_
        refine w_iconst (v := 2) C dX4_startSpread_59 (by decide) ?_
        refine w_icmp_ne (tgt := 73) C dX4_startSpread_60 (by decide) (fun c2 => ?_) (fun c2 => ?_)
        · exact fin rr hrr _ rfl _ (iF.rf _ _) (fun b => ⟨rfl, rfl⟩) (rI_If (by decide) (rI_If (by decide) (h2.trans (by show _ = nI (cnt _ i + (if decide (nV N 0 i = 2) then 1 else 0)); rw [decide_eq_false c2]; rfl))))
        · refine w_aload_n C 2 dX4_startSpread_63 rfl rfl (by first | rfl | exact isRef_rf _) ?_
          refine w_dup C dX4_startSpread_64 (by first | rfl | exact rf_cat _) ?_
          refine w_getI (ci := 5) (k := 5) (f := 165) C rfl i5 (by decide +kernel) (by decide) (by decide) rfl rfl dX4_startSpread_65 (is_I (is_I hxs)) (rI_If (by decide) (rI_If (by decide) h2)) ?_
          refine w_iconst (v := 1) C dX4_startSpread_68 (by decide) ?_
          refine w_iadd C dX4_startSpread_69 ?_
          refine w_putI (ci := 5) (k := 5) (f := 165) C rfl i5 (by decide +kernel) (by decide) (by decide) rfl rfl tyX4 tyX4_ok nmX4 rfl rfl rfl dX4_startSpread_70 (is_I (is_I hxs)) ?_
          exact w_sub [0, 1, 2] rfl (fin rr hrr _ rfl _ (iF_I _ _ 165 x _ rfl) (fun b => ⟨rI_If (by decide) rfl, rI_If (by decide) rfl⟩) (rI_Is.trans ((nI_1 _).trans (by show _ = nI (cnt _ i + (if decide (nV N 0 i = 2) then 1 else 0)); rw [decide_eq_true c2]; rfl))))
      refine w_iload_n C 0 dX4_startSpread_7 rfl rfl ?_
      refine w_aload_n C 1 dX4_startSpread_8 rfl rfl (by first | rfl | exact isRef_rf _) ?_
      refine w_getRs (ci := 5) (k := 0) (f := 160) C rfl i5 (by decide +kernel) (by decide) (by decide) rfl rfl dX4_startSpread_9 hg1.1.1 hg1.1.2.1 ?_
      refine w_callV (ci := 0) (As := []) (rest := [.int (nI i)]) C (cwV 0 C.1.2.2.2.2 gX4_startSpread_Jx4a65c_size_8abf5 rfl rfl rfl (by decide +kernel) ⟨Nat.le_of_ble_eq_true rfl, Nat.le_of_ble_eq_true rfl⟩) hl1.1 rfl (by decide) rfl rfl (by first | decide | simp [cat_ref, cat_null, cat_int, cat_long, rf_cat]) dX4_startSpread_12 ⟨Nat.le_of_ble_eq_true rfl, Nat.le_of_ble_eq_true rfl⟩ (c_size l G z1 hl1) (fun rv z2 h9 => ?_)
      obtain ⟨rfl, e9⟩ := h9
      replace e9 := e9.symm
      subst e9
      refine w_icmp_ge (tgt := 79) C dX4_startSpread_15 (by decide) (fun c1 => ?_) (fun c1 => ?_)
      · exact absurd c1 (nI_ge hin (by omega))
      · refine w_aload_n C 1 dX4_startSpread_18 rfl rfl (by first | rfl | exact isRef_rf _) ?_
        refine w_getRs (ci := 5) (k := 0) (f := 160) C rfl i5 (by decide +kernel) (by decide) (by decide) rfl rfl dX4_startSpread_19 hg1.1.1 hg1.1.2.1 ?_
        refine w_iload_n C 0 dX4_startSpread_22 rfl rfl ?_
        refine w_callV (ci := 0) (As := [.int (nI i)]) (rest := []) C (cwV 1 C.1.2.2.2.2 gX4_startSpread_Jx4a65c_get_915e3 rfl rfl rfl (by decide +kernel) ⟨Nat.le_of_ble_eq_true rfl, Nat.le_of_ble_eq_true rfl⟩) hl1.1 rfl (by decide) rfl rfl (by first | decide | simp [cat_ref, cat_null, cat_int, cat_long, rf_cat]) dX4_startSpread_23 ⟨Nat.le_of_ble_eq_true rfl, Nat.le_of_ble_eq_true rfl⟩ (c_get l G z1 hl1 hin) (fun rv z2 h9 => ?_)
        obtain ⟨rfl, e9⟩ := h9
        replace e9 := e9.symm
        subst e9
        refine w_cast (ci := 2) C (by decide +kernel) gi1 rfl (by decide) dX4_startSpread_26 ?_
        refine w_astore_nB (lvq := [(2, _), (1, _), (0, _)]) C 0 rfl rfl (by first | rfl | exact rf_cat _) dX4_startSpread_29 rfl (by first | rfl | exact isRef_rf _) (by decide) rfl ?_
        refine w_aload_n C 0 dX4_startSpread_30 rfl rfl (by first | rfl | exact isRef_rf _) ?_
        refine w_aload_n C 0 dX4_startSpread_31 rfl rfl (by first | rfl | exact isRef_rf _) ?_
        refine w_getI (ci := 2) (k := 4) (f := 68) C rfl i2 (by decide +kernel) (by decide) (by decide) rfl rfl dX4_startSpread_32 gi1 h68 ?_
        refine w_putI (ci := 2) (k := 5) (f := 69) C rfl i2 (by decide +kernel) (by decide) (by decide) rfl rfl tyX1 tyX1_ok nmX1 rfl rfl rfl dX4_startSpread_35 gi1 ?_
        refine w_aload_n C 0 dX4_startSpread_38 rfl rfl (by first | rfl | exact isRef_rf _) ?_
        refine w_aload_n C 0 dX4_startSpread_39 rfl rfl (by first | rfl | exact isRef_rf _) ?_
        refine w_getI (ci := 2) (k := 4) (f := 68) C rfl i2 (by decide +kernel) (by decide) (by decide) rfl rfl dX4_startSpread_40 (is_I gi1) (rI_If (by decide) h68) ?_
        refine w_iconst (v := 2) C dX4_startSpread_43 (by decide) ?_
        refine w_icmp_ne (tgt := 51) C dX4_startSpread_44 (by decide) (fun c2 => ?_) (fun c2 => ?_)
        · refine w_iconst (v := 0) C dX4_startSpread_51 (by decide) ?_
          refine w_putI (ci := 2) (k := 6) (f := 70) C rfl i2 (by decide +kernel) (by decide) (by decide) rfl rfl tyX1 tyX1_ok nmX1 rfl rfl rfl dX4_startSpread_52 (is_I gi1) ?_
          exact w_sub [0, 1, 2] rfl (fin2 _ (by show _ = (if nV N 0 i = 2 then (-1 : Int32) else 0); first | rw [if_pos c2] | rw [if_neg c2]))
        · refine w_iconst (v := (-1)) C dX4_startSpread_47 (by decide) ?_
          refine w_goto (tgt := 52) C dX4_startSpread_48 (by decide) ?_
          refine w_putI (ci := 2) (k := 6) (f := 70) C rfl i2 (by decide +kernel) (by decide) (by decide) rfl rfl tyX1 tyX1_ok nmX1 rfl rfl rfl dX4_startSpread_52 (is_I gi1) ?_
          exact w_sub [0, 1, 2] rfl (fin2 _ (by show _ = (if nV N 0 i = 2 then (-1 : Int32) else 0); first | rw [if_pos c2] | rw [if_neg c2]))
  refine w_aload_n C 0 dX4_startSpread_0 rfl rfl (by first | rfl | exact isRef_rf _) ?_
  refine w_iconst (v := 0) C dX4_startSpread_1 (by decide) ?_
  refine w_putI (ci := 5) (k := 5) (f := 165) C rfl i5 (by decide +kernel) (by decide) (by decide) rfl rfl tyX4 tyX4_ok nmX4 rfl rfl rfl dX4_startSpread_2 hG.1.1 ?_
  refine w_iconst (v := 0) C dX4_startSpread_5 (by decide) ?_
  refine w_istore_nB (lvq := [(1, _), (0, _)]) C 0 rfl rfl (by first | rfl | exact rf_cat _) dX4_startSpread_6 rfl (by decide) rfl ?_
  exact w_sub [0, 1] rfl (loop (nN N) 0 _ (by omega) (iF_I _ _ 165 x 0 rfl) (fun v hv => by cases hv) rI_Is)
set_option maxHeartbeats 4000000 in
set_option maxRecDepth 100000 in
theorem c_spreadKnown (l : Launch) (G : Gx) (z : Sto) {x gl pt ol : Nat} {ga : Nat → Nat} {N : NT} (h : netI G z x gl pt ol ga N) : Ct l yX4_spreadKnown wsX4_spreadKnown ({ frames := 5, cells := 0, slots := 0, locals := 120 } : Room) G z [.ref x] (fun rv z' => rv = none ∧ iF pSK z z' ∧ netV z' x ga N ∧ netI G z' x gl pt ol ga N) := by
  refine ct_of (cc := cX4_spreadKnown) (maxL := 3) (ret := none) (lv0 := [(0, .ref x)]) (by decide) rfl (by simp [lg_sl, cat_ref, cat_null, cat_int, cat_long, rf_cat]) (by simp [lv_args, cat_ref, cat_null, cat_int, cat_long, rf_cat]) ?_
  intro p e s m args below meth c C hin
  have i5 : ∀ w ∈ u_ws RX4 TX4 9, w ∈ wsX4_spreadKnown := by decide +kernel
  obtain ⟨hO, hG, ⟨vs, hv1, hv2⟩, hP⟩ := id h
  have hn := hO.1
  have fin : ∀ (z1 : Sto), iF pSK z z1 → netV z1 x ga N → Wp p l e ({ frames := 5, cells := 0, slots := 0, locals := 120 } : Room) s m args below meth c G 3 0 0 (MQ below (cPost G (fun rv z' => rv = none ∧ iF pSK z z' ∧ netV z' x ga N ∧ netI G z' x gl pt ol ga N)) args s (0) (0) (gA G)) z1 60 [(0, .ref x)] [] := by
    intro z1 hF hV
    have hg1 := netG_iF hG hF (by decide)
    have hV2 : netV (putI z1 167 x 0) x ga N := ⟨fun i hi => ⟨rI_If (by decide) (hV.1 i hi).1, rI_If (by decide) (hV.1 i hi).2⟩, rI_If (by decide) hV.2.1, rI_If (by decide) hV.2.2⟩
    have hF2 := hF.tr (iF_I z1 pSK 167 x 0 rfl)
    refine w_aload_n C 0 dX4_spreadKnown_60 rfl rfl (by first | rfl | exact isRef_rf _) ?_
    refine w_iconst (v := 0) C dX4_spreadKnown_61 (by decide) ?_
    refine w_putI (ci := 5) (k := 7) (f := 167) C rfl i5 (by decide +kernel) (by decide) (by decide) rfl rfl tyX4 tyX4_ok nmX4 rfl rfl rfl dX4_spreadKnown_62 hg1.1.1 ?_
    exact w_vret C dX4_spreadKnown_65 ⟨rfl, hF2, hV2, netI_sp h hF2 hV2 rI_Is⟩
  have loop : ∀ (f k : Nat) (z1 : Sto), k + f = 600 → iF pSK z z1 → valK z1 ga N k → sI z1 165 x = nI (nUn N k) → sI z1 166 x = nI k → rcf N f k = nRC N → Wp p l e ({ frames := 5, cells := 0, slots := 0, locals := 120 } : Room) s m args below meth c G 3 0 0 (MQ below (cPost G (fun rv z' => rv = none ∧ iF pSK z z' ∧ netV z' x ga N ∧ netI G z' x gl pt ol ga N)) args s (0) (0) (gA G)) z1 19 [(1, .int (nI (k + 1))), (0, .ref x)] [] := by
    intro f
    induction f with
    | zero =>
      intro k z1 hk hF hv h165 h166 hrc
      have hrc : k = nRC N := hrc
      refine w_iload_n C 0 dX4_spreadKnown_19 rfl rfl ?_
      refine w_sipush (v := 600) C dX4_spreadKnown_20 (by decide) ?_
      refine w_icmp_gt (tgt := 60) C dX4_spreadKnown_23 (by decide) (fun c1 => ?_) (fun c1 => ?_)
      · exact w_sub [1] rfl (fin z1 hF ⟨hrc ▸ hv, hrc ▸ h165, hrc ▸ h166⟩)
      · exact absurd (nI_lt (a := 600) (by omega) (by omega)) c1
    | succ f ih =>
      intro k z1 hk hF hv h165 h166 hrc
      have hrc : (if nAd N k = 0 then k else rcf N f (k + 1)) = nRC N := hrc
      have hg1 := netG_iF hG hF (by decide)
      have hle : nAd N k ≤ nN N := cnt_le _ _
      refine w_iload_n C 0 dX4_spreadKnown_19 rfl rfl ?_
      refine w_sipush (v := 600) C dX4_spreadKnown_20 (by decide) ?_
      refine w_icmp_gt (tgt := 60) C dX4_spreadKnown_23 (by decide) (fun c1 => ?_) (fun c1 => ?_)
      · exact absurd c1 (nI_nlt (a := 600) (by omega) (by omega))
      · refine w_aload_n C 1 dX4_spreadKnown_26 rfl rfl (by first | rfl | exact isRef_rf _) ?_
        refine w_iload_n C 0 dX4_spreadKnown_27 rfl rfl ?_
        refine w_callV (ci := 5) (As := [.int (nI (k + 1))]) (rest := []) C (cwV 1 C.1.2.2.2.2 gX4_spreadKnown_X4_spreadRound rfl rfl rfl (by decide +kernel) ⟨Nat.le_of_ble_eq_true rfl, Nat.le_of_ble_eq_true rfl⟩) hg1.1.1 rfl (by decide) rfl rfl (by first | decide | simp [cat_ref, cat_null, cat_int, cat_long, rf_cat]) dX4_spreadKnown_28 ⟨Nat.le_of_ble_eq_true rfl, Nat.le_of_ble_eq_true rfl⟩ (c_spreadRound l G z1 hO hg1 (by omega) hv) (fun rv z2 h9 => ?_)
        obtain ⟨rfl, hF2, hv2⟩ := h9
        have hF3 := hF.tr (hF2.wk (fun f h => pSK_of h))
        have hg2 := netG_iF hG hF3 (by decide)
        have k165 : sI z2 165 x = nI (nUn N k) := (hF2.2 165 x rfl).trans h165
        have k166 : sI z2 166 x = nI k := (hF2.2 166 x rfl).trans h166
        refine w_istore_nB (lvq := [(2, _), (1, _), (0, _)]) C 0 rfl rfl (by first | rfl | exact rf_cat _) dX4_spreadKnown_31 rfl (by decide) rfl ?_
        refine w_iload_n C 0 dX4_spreadKnown_32 rfl rfl ?_
        refine w_if_ne (tgt := 39) C dX4_spreadKnown_33 (by decide) (fun c2 => ?_) (fun c2 => ?_)
        · have hz : ¬ nAd N k = 0 := fun q => c2 (by rw [q]; rfl)
          rw [if_neg hz] at hrc
          refine w_aload_n C 2 dX4_spreadKnown_39 rfl rfl (by first | rfl | exact isRef_rf _) ?_
          refine w_dup C dX4_spreadKnown_40 (by first | rfl | exact rf_cat _) ?_
          refine w_getI (ci := 5) (k := 5) (f := 165) C rfl i5 (by decide +kernel) (by decide) (by decide) rfl rfl dX4_spreadKnown_41 hg2.1.1 k165 ?_
          refine w_iload_n C 0 dX4_spreadKnown_44 rfl rfl ?_
          refine w_isub C dX4_spreadKnown_45 ?_
          refine w_putI (ci := 5) (k := 5) (f := 165) C rfl i5 (by decide +kernel) (by decide) (by decide) rfl rfl tyX4 tyX4_ok nmX4 rfl rfl rfl dX4_spreadKnown_46 hg2.1.1 ?_
          refine w_aload_n C 2 dX4_spreadKnown_49 rfl rfl (by first | rfl | exact isRef_rf _) ?_
          refine w_iload_n C 1 dX4_spreadKnown_50 rfl rfl ?_
          refine w_putI (ci := 5) (k := 6) (f := 166) C rfl i5 (by decide +kernel) (by decide) (by decide) rfl rfl tyX4 tyX4_ok nmX4 rfl rfl rfl dX4_spreadKnown_51 (is_I hg2.1.1) ?_
          refine w_iincB (v := nI (k + 1 + 1)) (lvq := [(1, _), (2, _), (0, _)]) C 1 2 rfl rfl (by first | rfl | exact rf_cat _) dX4_spreadKnown_54 rfl (nI_1 _) (by decide) rfl ?_
          refine w_goto (tgt := 19) C dX4_spreadKnown_57 (by decide) ?_
          exact w_sub [0, 2] rfl (ih (k + 1) _ (by omega) ((hF3.tr (iF_I _ pSK 165 x _ rfl)).tr (iF_I _ pSK 166 x _ rfl)) (fun i hi => ⟨rI_If (by decide) (rI_If (by decide) (hv2 i hi).1), rI_If (by decide) (rI_If (by decide) (hv2 i hi).2)⟩) (rI_If (by decide) (rI_Is.trans (by rw [nUn_succ N k]; exact nI_sub))) rI_Is hrc)
        · have hz : nAd N k = 0 := (nI_eq (b := 0) (by omega) (by omega)).mp c2
          rw [if_pos hz] at hrc
          refine w_goto (tgt := 60) C dX4_spreadKnown_36 (by decide) ?_
          exact w_sub [2] rfl (fin z2 hF3 ⟨fun i hi => ⟨by rw [← hrc, (hv2 i hi).1]; exact nAd_zero hz hi, by rw [← hrc, (hv2 i hi).2]; exact nR_keep N (nAd_zero hz hi)⟩, hrc ▸ k165, hrc ▸ k166⟩)
  refine w_aload_n C 0 dX4_spreadKnown_0 rfl rfl (by first | rfl | exact isRef_rf _) ?_
  refine w_getI (ci := 5) (k := 7) (f := 167) C rfl i5 (by decide +kernel) (by decide) (by decide) rfl rfl dX4_spreadKnown_1 hG.1.1 hv1 ?_
  refine w_if_ne (tgt := 8) C dX4_spreadKnown_4 (by decide) (fun c1 => ?_) (fun c1 => ?_)
  · refine w_aload_n C 0 dX4_spreadKnown_8 rfl rfl (by first | rfl | exact isRef_rf _) ?_
    refine w_callV (ci := 5) (As := []) (rest := []) C (cwV 0 C.1.2.2.2.2 gX4_spreadKnown_X4_startSpread rfl rfl rfl (by decide +kernel) ⟨Nat.le_of_ble_eq_true rfl, Nat.le_of_ble_eq_true rfl⟩) hG.1.1 rfl (by decide) rfl rfl (by first | decide | simp [cat_ref, cat_null, cat_int, cat_long, rf_cat]) dX4_spreadKnown_9 ⟨Nat.le_of_ble_eq_true rfl, Nat.le_of_ble_eq_true rfl⟩ (c_startSpread l G z hO hG) (fun rv z1 h9 => ?_)
    obtain ⟨rfl, hF1, hV1, h165⟩ := h9
    have hFa := hF1.wk (P' := pSK) (fun f h => pSK_st h)
    have hg1 := netG_iF hG hFa (by decide)
    refine w_aload_n C 0 dX4_spreadKnown_12 rfl rfl (by first | rfl | exact isRef_rf _) ?_
    refine w_iconst (v := 0) C dX4_spreadKnown_13 (by decide) ?_
    refine w_putI (ci := 5) (k := 6) (f := 166) C rfl i5 (by decide +kernel) (by decide) (by decide) rfl rfl tyX4 tyX4_ok nmX4 rfl rfl rfl dX4_spreadKnown_14 hg1.1.1 ?_
    refine w_iconst (v := 1) C dX4_spreadKnown_17 (by decide) ?_
    refine w_istore_nB (lvq := [(1, _), (0, _)]) C 0 rfl rfl (by first | rfl | exact rf_cat _) dX4_spreadKnown_18 rfl (by decide) rfl ?_
    exact w_sub [0, 1] rfl (loop 600 0 _ rfl (hFa.tr (iF_I _ pSK 166 x 0 rfl)) (fun i hi => ⟨rI_If (by decide) (hV1 i hi).1, rI_If (by decide) (hV1 i hi).2⟩) (rI_If (by decide) h165) rI_Is rfl)
  · have hvs : vs = false := by cases vs with | false => rfl | true => exact absurd c1 (by decide)
    exact w_vret C dX4_spreadKnown_7 ⟨rfl, iF.rf _ z, hv2 hvs, h⟩
