/-! ===== Gate: the methods that call or loop ===== -/
set_option maxHeartbeats 4000000 in
set_option maxRecDepth 100000 in
theorem c_Feed_init (l : Launch) (G : Gx) (z : Sto) {a g : Nat} {ng : Int32} {nx : Option Nat} (ha : is z a 1) (hb : ng = 0 ∨ ng = 1) : Ct l yX0_init wsX0_init ({ frames := 1, cells := 0, slots := 0, locals := 12 } : Room) G z [.ref a, .ref g, .int ng, va_rf nx] (fun rv z' => rv = none ∧ z' = putR (putI (putR z 32 a (some g)) 33 a ng) 34 a nx) := by
  refine ct_of (cc := cX0_init) (maxL := 4) (ret := none) (lv0 := [(0, .ref a), (1, .ref g), (2, .int ng), (3, va_rf nx)]) (by decide) rfl (by simp [lg_sl, cat_ref, cat_null, cat_int, cat_long, rf_cat]) (by simp [lv_args, cat_ref, cat_null, cat_int, cat_long, rf_cat]) ?_
  intro p e s m args below meth c C hin
  have i1 : ∀ w ∈ u_ws RX0 TX0 3, w ∈ wsX0_init := by decide +kernel
  refine w_aload_n C 0 dX0_init_0 rfl rfl (by first | rfl | exact isRef_rf _) ?_
  refine w_objInit C (by decide +kernel) (by decide +kernel) (by decide +kernel) dX0_init_1 (by decide) (by decide) ?_
  refine w_aload_n C 0 dX0_init_4 rfl rfl (by first | rfl | exact isRef_rf _) ?_
  refine w_aload_n C 1 dX0_init_5 rfl rfl (by first | rfl | exact isRef_rf _) ?_
  refine w_putRF (ci := 1) (k := 0) (f := 32) (v := (some g)) C rfl i1 (by decide +kernel) (by decide) (by decide) rfl rfl tyX0 tyX0_ok nmX0 rfl hin rfl (by first | rfl | exact nar_rf _ _ | exact nar_ra _ _) (by first | rfl | exact fit_rf _ _ | exact fit_ra _ _) dX0_init_6 ha ?_
  refine w_aload_n C 0 dX0_init_9 rfl rfl (by first | rfl | exact isRef_rf _) ?_
  refine w_iload_n C 2 dX0_init_10 rfl rfl ?_
  refine w_putIF (ci := 1) (k := 1) (f := 33) C rfl i1 (by decide +kernel) (by decide) (by decide) rfl rfl tyX0 tyX0_ok nmX0 rfl hin rfl (bool_nar hb) (bool_fit hb) dX0_init_11 (is_R ha) ?_
  refine w_aload_n C 0 dX0_init_14 rfl rfl (by first | rfl | exact isRef_rf _) ?_
  refine w_aload_n C 3 dX0_init_15 rfl rfl (by first | rfl | exact isRef_rf _) ?_
  refine w_putRF (ci := 1) (k := 2) (f := 34) C rfl i1 (by decide +kernel) (by decide) (by decide) rfl rfl tyX0 tyX0_ok nmX0 rfl hin rfl (by first | rfl | exact nar_rf _ _ | exact nar_ra _ _) (by first | rfl | exact fit_rf _ _ | exact fit_ra _ _) dX0_init_16 (is_I (is_R ha)) ?_
  exact w_vret C dX0_init_19 ⟨rfl, rfl⟩
set_option maxHeartbeats 4000000 in
set_option maxRecDepth 100000 in
theorem c_addFeed (l : Launch) (G : Gx) (z : Sto) {a g : Nat} {ng : Int32} (ha : is z a 2) (hb : ng = 0 ∨ ng = 1) : Ct l yX1_addFeed wsX1_addFeed ({ frames := 2, cells := 1, slots := 3, locals := 35 } : Room) G z [.ref a, .ref g, .int ng] (fun rv z' => rv = none ∧ ∃ q, q ∉ sL z ∧ G.2.2.1 ≤ q ∧ z' = putI (putR (putR (putI (putR (newO z q 1) 32 q (some g)) 33 q ng) 34 q (sR z 66 a)) 66 a (some q)) 67 a (sI (newO z q 1) 67 a + 1)) := by
  refine ct_of (cc := cX1_addFeed) (maxL := 3) (ret := none) (lv0 := [(0, .ref a), (1, .ref g), (2, .int ng)]) (by decide) rfl (by simp [lg_sl, cat_ref, cat_null, cat_int, cat_long, rf_cat]) (by simp [lv_args, cat_ref, cat_null, cat_int, cat_long, rf_cat]) ?_
  intro p e s m args below meth c C hin
  have i1 : ∀ w ∈ u_ws RX0 TX0 3, w ∈ wsX1_addFeed := by decide +kernel
  have i2 : ∀ w ∈ u_ws RX1 TX1 17, w ∈ wsX1_addFeed := by decide +kernel
  refine w_aload_n C 0 dX1_addFeed_0 rfl rfl (by first | rfl | exact isRef_rf _) ?_
  refine w_new (ci := 1) C rfl i1 tyX0 tyX0_ok (by decide +kernel) (by decide +kernel) (by decide +kernel) (by decide) fd1 dX1_addFeed_1 (Nat.le_of_ble_eq_true rfl) (Nat.le_of_ble_eq_true rfl) (fun q hq hlow => ?_)
  refine w_dup C dX1_addFeed_4 (by first | rfl | exact rf_cat _) ?_
  refine w_aload_n C 1 dX1_addFeed_5 rfl rfl (by first | rfl | exact isRef_rf _) ?_
  refine w_iload_n C 2 dX1_addFeed_6 rfl rfl ?_
  refine w_aload_n C 0 dX1_addFeed_7 rfl rfl (by first | rfl | exact isRef_rf _) ?_
  refine w_getR (ci := 2) (k := 2) (f := 66) C rfl i2 (by decide +kernel) (by decide) (by decide) rfl rfl dX1_addFeed_8 (is_newO ha hq) (if_neg (fun h : a = q => hq (h ▸ ha.1))) ?_
  refine w_callI (As := [.ref g, .int ng, va_rf (sR z 66 a)]) (b := _) (rest := _) C (cwI 3 C.1.2.2.2.2 gX1_addFeed_X0_init rfl rfl rfl (C.1.2.2.2.2 _ (by decide +kernel)) (C.1.2.2.2.2 _ (by decide +kernel)) (C.1.2.2.2.2 _ (by decide +kernel)) rfl (by decide +kernel) ⟨Nat.le_of_ble_eq_true rfl, Nat.le_of_ble_eq_true rfl⟩) rfl rfl (by first | decide | simp [cat_ref, cat_null, cat_int, cat_long, rf_cat]) dX1_addFeed_11 ⟨Nat.le_of_ble_eq_true rfl, Nat.le_of_ble_eq_true rfl⟩ (c_Feed_init l G (newO z q 1) (is_newO_self z q 1) hb) (fun rv z1 h1 => ?_)
  obtain ⟨rfl, e1⟩ := h1
  replace e1 := e1.symm
  subst e1
  refine w_putR (ci := 2) (k := 2) (f := 66) (v := (some q)) C rfl i2 (by decide +kernel) (by decide) (by decide) rfl rfl tyX1 tyX1_ok nmX1 rfl (by first | rfl | exact nar_rf _ _ | exact nar_ra _ _) (by first | rfl | exact fit_rf _ _ | exact fit_ra _ _) dX1_addFeed_14 (is_R (is_I (is_R (is_newO ha hq)))) ?_
  refine w_aload_n C 0 dX1_addFeed_17 rfl rfl (by first | rfl | exact isRef_rf _) ?_
  refine w_dup C dX1_addFeed_18 (by first | rfl | exact rf_cat _) ?_
  refine w_getI (ci := 2) (k := 3) (f := 67) C rfl i2 (by decide +kernel) (by decide) (by decide) rfl rfl dX1_addFeed_19 (is_R (is_R (is_I (is_R (is_newO ha hq))))) rfl ?_
  refine w_iconst (v := 1) C dX1_addFeed_22 (by decide) ?_
  refine w_iadd C dX1_addFeed_23 ?_
  refine w_putI (ci := 2) (k := 3) (f := 67) C rfl i2 (by decide +kernel) (by decide) (by decide) rfl rfl tyX1 tyX1_ok nmX1 rfl rfl rfl dX1_addFeed_24 (is_R (is_R (is_I (is_R (is_newO ha hq))))) ?_
  exact w_vret C dX1_addFeed_27 ⟨rfl, q, hq, hlow, rfl⟩
set_option maxHeartbeats 4000000 in
set_option maxRecDepth 100000 in
theorem c_valueFromFeeds (l : Launch) (G : Gx) (z : Sto) {a : Nat} {k : Int32} {fl : List (Nat × Int32)} (ha : is z a 2) (hfl : chn z (sR z 66 a) fl) : Ct l yX1_valueFromFeeds wsX1_valueFromFeeds ({ frames := 2, cells := 0, slots := 0, locals := 41 } : Room) G z [.ref a, .int k] (fun rv z' => rv = some (.int (vff (vbf z k) (if sI z 65 a = 2 then 0 else 1) fl true)) ∧ z' = z) := by
  refine ct_of (cc := cX1_valueFromFeeds) (maxL := 6) (ret := (some .int)) (lv0 := [(0, .ref a), (1, .int k)]) (by decide) rfl (by simp [lg_sl, cat_ref, cat_null, cat_int, cat_long, rf_cat]) (by simp [lv_args, cat_ref, cat_null, cat_int, cat_long, rf_cat]) ?_
  intro p e s m args below meth c C hin
  have i1 : ∀ w ∈ u_ws RX0 TX0 3, w ∈ wsX1_valueFromFeeds := by decide +kernel
  have i2 : ∀ w ∈ u_ws RX1 TX1 17, w ∈ wsX1_valueFromFeeds := by decide +kernel
  have loop : ∀ (tl : List (Nat × Int32)) (dec : Int32) (r : Option Nat) (ak : Bool), dec = (if sI z 65 a = 2 then 0 else 1) → chn z r tl → vff (vbf z k) dec tl ak = vff (vbf z k) dec fl true → Wp p l e ({ frames := 2, cells := 0, slots := 0, locals := 41 } : Room) s m args below meth c G 6 0 0 (MQ below (cPost G (fun rv z' => rv = some (.int (vff (vbf z k) (if sI z 65 a = 2 then 0 else 1) fl true)) ∧ z' = z)) args s 0 0 (gA G)) z 22 [(4, va_rf r), (3, .int (bI ak)), (2, .int dec), (0, .ref a), (1, .int k)] [] := by
    intro tl dec
    induction tl with
    | nil =>
      intro r ak hd hc hres
      cases hc
      refine w_aload C 0 dX1_valueFromFeeds_22 rfl (by first | rfl | exact isRef_rf _) ?_
      refine w_ifnull (tgt := 61) C dX1_valueFromFeeds_24 (by decide) (fun c1 => ?_) (fun a24 c1 => ?_)
      · refine w_iload_n C 1 dX1_valueFromFeeds_61 rfl rfl ?_
        refine w_if_eq (tgt := 71) C dX1_valueFromFeeds_62 (by decide) (fun c2 => ?_) (fun c2 => ?_)
        · refine w_iconst (v := 2) C dX1_valueFromFeeds_71 (by decide) ?_
          exact w_iret C dX1_valueFromFeeds_72 ⟨by rw [← hd, ← hres]; cases ak <;> first | rfl | exact absurd c2 (by decide) | exact absurd rfl c2, rfl⟩
        · refine w_iconst (v := 1) C dX1_valueFromFeeds_65 (by decide) ?_
          refine w_iload_n C 2 dX1_valueFromFeeds_66 rfl rfl ?_
          refine w_isub C dX1_valueFromFeeds_67 ?_
          refine w_goto (tgt := 72) C dX1_valueFromFeeds_68 (by decide) ?_
          exact w_iret C dX1_valueFromFeeds_72 ⟨by rw [← hd, ← hres]; cases ak <;> first | rfl | exact absurd c2 (by decide) | exact absurd rfl c2, rfl⟩
      · cases c1
    | cons x tl ih =>
      intro r ak hd hc hres
      obtain ⟨fa, rfl, hfa, hfr, hg, hng, htl⟩ := hc
      have hx : vbf z k (x.1, sI z 33 fa) = vbf z k x := by rw [hng]
      refine w_aload C 0 dX1_valueFromFeeds_22 rfl (by first | rfl | exact isRef_rf _) ?_
      refine w_ifnull (tgt := 61) C dX1_valueFromFeeds_24 (by decide) (fun c1 => ?_) (fun a24 c1 => ?_)
      · cases c1
      · refine w_aload C 0 dX1_valueFromFeeds_27 rfl (by first | rfl | exact isRef_rf _) ?_
        refine w_iload_n C 4 dX1_valueFromFeeds_29 rfl rfl ?_
        refine w_callV (ci := 1) (As := [.int k]) (rest := _) C (cwV 1 C.1.2.2.2.2 gX1_valueFromFeeds_X0_valueBefore rfl rfl rfl (by decide +kernel) ⟨Nat.le_of_ble_eq_true rfl, Nat.le_of_ble_eq_true rfl⟩) hfa rfl (by decide) rfl rfl (by first | decide | simp [cat_ref, cat_null, cat_int, cat_long, rf_cat]) dX1_valueFromFeeds_30 ⟨Nat.le_of_ble_eq_true rfl, Nat.le_of_ble_eq_true rfl⟩ (c_valueBefore l G z (k := k) hfa hfr hg) (fun rv z1 h1 => ?_)
        obtain ⟨rfl, e1⟩ := h1
        replace e1 := e1.symm
        subst e1
        rw [hx]
        refine w_istoreB (lvq := [(5, _), (4, _), (3, _), (2, _), (0, _), (1, _)]) C 0 rfl rfl (by first | rfl | exact rf_cat _) dX1_valueFromFeeds_33 (by decide) rfl ?_
        refine w_iload C 0 dX1_valueFromFeeds_35 rfl ?_
        refine w_iload_n C 3 dX1_valueFromFeeds_37 rfl rfl ?_
        refine w_icmp_ne (tgt := 43) C dX1_valueFromFeeds_38 (by decide) (fun c2 => ?_) (fun c2 => ?_)
        · refine w_iload C 0 dX1_valueFromFeeds_43 rfl ?_
          refine w_iconst (v := 2) C dX1_valueFromFeeds_45 (by decide) ?_
          refine w_icmp_ne (tgt := 51) C dX1_valueFromFeeds_46 (by decide) (fun c3 => ?_) (fun c3 => ?_)
          · refine w_aload C 1 dX1_valueFromFeeds_51 rfl (by first | rfl | exact isRef_rf _) ?_
            refine w_getR (ci := 1) (k := 2) (f := 34) C rfl i1 (by decide +kernel) (by decide) (by decide) rfl rfl dX1_valueFromFeeds_53 hfa rfl ?_
            refine w_astoreB (lvq := [(4, _), (5, _), (3, _), (2, _), (0, _), (1, _)]) C 2 rfl rfl (by first | rfl | exact rf_cat _) dX1_valueFromFeeds_56 (by first | rfl | exact isRef_rf _) (by decide) rfl ?_
            refine w_goto (tgt := 22) C dX1_valueFromFeeds_58 (by decide) ?_
            refine w_sub [0, 2, 3, 4, 5] rfl (ih _ ak hd htl (by rw [← hres]; simp only [vff]; rw [if_neg c2, if_neg c3]))
          · refine w_iconst (v := 0) C dX1_valueFromFeeds_49 (by decide) ?_
            refine w_istore_nB (lvq := [(3, _), (5, _), (4, _), (2, _), (0, _), (1, _)]) C 3 rfl rfl (by first | rfl | exact rf_cat _) dX1_valueFromFeeds_50 rfl (by decide) rfl ?_
            refine w_aload C 2 dX1_valueFromFeeds_51 rfl (by first | rfl | exact isRef_rf _) ?_
            refine w_getR (ci := 1) (k := 2) (f := 34) C rfl i1 (by decide +kernel) (by decide) (by decide) rfl rfl dX1_valueFromFeeds_53 hfa rfl ?_
            refine w_astoreB (lvq := [(4, _), (3, _), (5, _), (2, _), (0, _), (1, _)]) C 0 rfl rfl (by first | rfl | exact rf_cat _) dX1_valueFromFeeds_56 (by first | rfl | exact isRef_rf _) (by decide) rfl ?_
            refine w_goto (tgt := 22) C dX1_valueFromFeeds_58 (by decide) ?_
            refine w_sub [0, 1, 3, 4, 5] rfl (ih _ false hd htl (by rw [← hres]; simp only [vff]; rw [if_neg c2, if_pos c3]))
        · refine w_iload_n C 3 dX1_valueFromFeeds_41 rfl rfl ?_
          exact w_iret C dX1_valueFromFeeds_42 ⟨by rw [← hd, ← hres]; simp [vff, c2], rfl⟩
  refine w_aload_n C 0 dX1_valueFromFeeds_0 rfl rfl (by first | rfl | exact isRef_rf _) ?_
  refine w_getI (ci := 2) (k := 1) (f := 65) C rfl i2 (by decide +kernel) (by decide) (by decide) rfl rfl dX1_valueFromFeeds_1 ha rfl ?_
  refine w_iconst (v := 2) C dX1_valueFromFeeds_4 (by decide) ?_
  refine w_icmp_ne (tgt := 12) C dX1_valueFromFeeds_5 (by decide) (fun c0 => ?_) (fun c0 => ?_)
  · refine w_iconst (v := 1) C dX1_valueFromFeeds_12 (by decide) ?_
    refine w_istore_nB (lvq := [(2, _), (0, _), (1, _)]) C 1 rfl rfl (by first | rfl | exact rf_cat _) dX1_valueFromFeeds_13 rfl (by decide) rfl ?_
    refine w_iconst (v := 1) C dX1_valueFromFeeds_14 (by decide) ?_
    refine w_istore_nB (lvq := [(3, _), (2, _), (0, _), (1, _)]) C 0 rfl rfl (by first | rfl | exact rf_cat _) dX1_valueFromFeeds_15 rfl (by decide) rfl ?_
    refine w_aload_n C 2 dX1_valueFromFeeds_16 rfl rfl (by first | rfl | exact isRef_rf _) ?_
    refine w_getR (ci := 2) (k := 2) (f := 66) C rfl i2 (by decide +kernel) (by decide) (by decide) rfl rfl dX1_valueFromFeeds_17 ha rfl ?_
    refine w_astoreB (lvq := [(4, _), (3, _), (2, _), (0, _), (1, _)]) C 0 rfl rfl (by first | rfl | exact rf_cat _) dX1_valueFromFeeds_20 (by first | rfl | exact isRef_rf _) (by decide) rfl ?_
    refine w_sub [0, 1, 2, 3, 4] rfl (loop fl _ _ true (by simp [*]) hfl (by simp [*]))
  · refine w_iconst (v := 0) C dX1_valueFromFeeds_8 (by decide) ?_
    refine w_goto (tgt := 13) C dX1_valueFromFeeds_9 (by decide) ?_
    refine w_istore_nB (lvq := [(2, _), (0, _), (1, _)]) C 1 rfl rfl (by first | rfl | exact rf_cat _) dX1_valueFromFeeds_13 rfl (by decide) rfl ?_
    refine w_iconst (v := 1) C dX1_valueFromFeeds_14 (by decide) ?_
    refine w_istore_nB (lvq := [(3, _), (2, _), (0, _), (1, _)]) C 0 rfl rfl (by first | rfl | exact rf_cat _) dX1_valueFromFeeds_15 rfl (by decide) rfl ?_
    refine w_aload_n C 2 dX1_valueFromFeeds_16 rfl rfl (by first | rfl | exact isRef_rf _) ?_
    refine w_getR (ci := 2) (k := 2) (f := 66) C rfl i2 (by decide +kernel) (by decide) (by decide) rfl rfl dX1_valueFromFeeds_17 ha rfl ?_
    refine w_astoreB (lvq := [(4, _), (3, _), (2, _), (0, _), (1, _)]) C 0 rfl rfl (by first | rfl | exact rf_cat _) dX1_valueFromFeeds_20 (by first | rfl | exact isRef_rf _) (by decide) rfl ?_
    refine w_sub [0, 1, 2, 3, 4] rfl (loop fl _ _ true (by simp [*]) hfl (by simp [*]))
