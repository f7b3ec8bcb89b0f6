/-! ===== Parts: enter, follow, closePart ===== -/
/-- the store behind enter(g, cf) -/
def enS (z : Sto) (pt g : Nat) (cf : Option Nat) : Sto :=
  putR (putR (putI (putI (putR (putR (putI (putI (putI z 71 g (sI z 130 pt)) 72 g (sI z 130 pt)) 130 pt (sI z 130 pt + 1)) 73 g (if isLog (sI z 65 g) then sR z 66 g else none)) 74 g cf) 77 g 0) 76 g 1) 75 g (sR z 131 pt)) 131 pt (some g)
/-- the store behind follow(h, f), f seen before -/
def flS1 (z : Sto) (h f : Nat) : Sto := if f = h then putI z 77 h 1 else z
def flS (z : Sto) (h f : Nat) : Sto := if sI z 76 f = 0 then flS1 z h f else putI (flS1 z h f) 72 h (if sI z 71 f < sI z 72 h then sI z 71 f else sI z 72 h)
theorem bool_fit1 : fits .boolean (.int 1) = true := rfl
set_option maxHeartbeats 4000000 in
set_option maxRecDepth 100000 in
theorem c_enter (l : Launch) (G : Gx) (z : Sto) {pt g : Nat} {cf : Option Nat} (hp : is z pt 4) (hg : is z g 2) : Ct l yX3_enter wsX3_enter ({ frames := 1, cells := 0, slots := 0, locals := 20 } : Room) G z [.ref pt, .ref g, va_rf cf] (fun rv z' => rv = none ∧ z' = enS z pt g cf) := by
  refine ct_of (cc := cX3_enter) (maxL := 3) (ret := none) (lv0 := [(0, .ref pt), (1, .ref g), (2, va_rf cf)]) (by decide) rfl (by simp [lg_sl, cat_ref, cat_null, cat_int, cat_long, rf_cat]) (by simp [lv_args, cat_ref, cat_null, cat_int, cat_long, rf_cat]) ?_
  intro p e s m args below meth c C hin
  have i2 : ∀ w ∈ u_ws RX1 TX1 17, w ∈ wsX3_enter := by decide +kernel
  have i4 : ∀ w ∈ u_ws RX3 TX3 4, w ∈ wsX3_enter := by decide +kernel
  refine w_aload_n C 1 dX3_enter_0 rfl rfl (by first | rfl | exact isRef_rf _) ?_
  refine w_aload_n C 0 dX3_enter_1 rfl rfl (by first | rfl | exact isRef_rf _) ?_
  refine w_getI (ci := 4) (k := 2) (f := 130) C rfl i4 (by decide +kernel) (by decide) (by decide) rfl rfl dX3_enter_2 hp rfl ?_
  refine w_putI (ci := 2) (k := 7) (f := 71) C rfl i2 (by decide +kernel) (by decide) (by decide) rfl rfl tyX1 tyX1_ok nmX1 rfl rfl rfl dX3_enter_5 hg ?_
  refine w_aload_n C 1 dX3_enter_8 rfl rfl (by first | rfl | exact isRef_rf _) ?_
  refine w_aload_n C 0 dX3_enter_9 rfl rfl (by first | rfl | exact isRef_rf _) ?_
  refine w_getI (ci := 4) (k := 2) (f := 130) C rfl i4 (by decide +kernel) (by decide) (by decide) rfl rfl dX3_enter_10 (is_I hp) (rI_If (by decide) rfl) ?_
  refine w_putI (ci := 2) (k := 8) (f := 72) C rfl i2 (by decide +kernel) (by decide) (by decide) rfl rfl tyX1 tyX1_ok nmX1 rfl rfl rfl dX3_enter_13 (is_I hg) ?_
  refine w_aload_n C 0 dX3_enter_16 rfl rfl (by first | rfl | exact isRef_rf _) ?_
  refine w_dup C dX3_enter_17 (by first | rfl | exact rf_cat _) ?_
  refine w_getI (ci := 4) (k := 2) (f := 130) C rfl i4 (by decide +kernel) (by decide) (by decide) rfl rfl dX3_enter_18 (is_I (is_I hp)) (rI_If (by decide) (rI_If (by decide) rfl)) ?_
  refine w_iconst (v := 1) C dX3_enter_21 (by decide) ?_
  refine w_iadd C dX3_enter_22 ?_
  refine w_putI (ci := 4) (k := 2) (f := 130) C rfl i4 (by decide +kernel) (by decide) (by decide) rfl rfl tyX3 tyX3_ok nmX3 rfl rfl rfl dX3_enter_23 (is_I (is_I hp)) ?_
  refine w_aload_n C 1 dX3_enter_26 rfl rfl (by first | rfl | exact isRef_rf _) ?_
  refine w_aload_n C 1 dX3_enter_27 rfl rfl (by first | rfl | exact isRef_rf _) ?_
  refine w_callV (ci := 2) (As := []) (rest := [.ref g]) C (cwV 0 C.1.2.2.2.2 gX3_enter_X1_isLogic rfl rfl rfl (by decide +kernel) ⟨Nat.le_of_ble_eq_true rfl, Nat.le_of_ble_eq_true rfl⟩) (is_I (is_I (is_I hg))) rfl (by decide) rfl rfl (by first | decide | simp [cat_ref, cat_null, cat_int, cat_long, rf_cat]) dX3_enter_28 ⟨Nat.le_of_ble_eq_true rfl, Nat.le_of_ble_eq_true rfl⟩ (c_isLogic l G _ (is_I (is_I (is_I hg)))) (fun rv z1 h1 => ?_)
  obtain ⟨rfl, e1⟩ := h1
  replace e1 := e1.symm
  subst e1
  refine w_inti (y := bI (isLog (sI z 65 g))) rfl ?_
  refine w_if_eq (tgt := 41) C dX3_enter_31 (by decide) (fun c1 => ?_) (fun c1 => ?_)
  · rw [bI_0] at c1
    refine w_null C dX3_enter_41 ?_
    refine w_reff (x := none) (y := (if isLog (sI z 65 g) then sR z 66 g else none)) (by rw [c1]; rfl) ?_
    refine w_putR (ci := 2) (k := 9) (f := 73) C rfl i2 (by decide +kernel) (by decide) (by decide) rfl rfl tyX1 tyX1_ok nmX1 rfl (by first | rfl | exact nar_rf _ _ | exact nar_ra _ _) (by first | rfl | exact fit_rf _ _ | exact fit_ra _ _) dX3_enter_42 (is_I (is_I (is_I hg))) ?_
    refine w_aload_n C 1 dX3_enter_45 rfl rfl (by first | rfl | exact isRef_rf _) ?_
    refine w_aload_n C 2 dX3_enter_46 rfl rfl (by first | rfl | exact isRef_rf _) ?_
    refine w_putR (ci := 2) (k := 10) (f := 74) C rfl i2 (by decide +kernel) (by decide) (by decide) rfl rfl tyX1 tyX1_ok nmX1 rfl (by first | rfl | exact nar_rf _ _ | exact nar_ra _ _) (by first | rfl | exact fit_rf _ _ | exact fit_ra _ _) dX3_enter_47 (is_R (is_I (is_I (is_I hg)))) ?_
    refine w_aload_n C 1 dX3_enter_50 rfl rfl (by first | rfl | exact isRef_rf _) ?_
    refine w_iconst (v := 0) C dX3_enter_51 (by decide) ?_
    refine w_putI (ci := 2) (k := 13) (f := 77) C rfl i2 (by decide +kernel) (by decide) (by decide) rfl rfl tyX1 tyX1_ok nmX1 rfl rfl rfl dX3_enter_52 (is_R (is_R (is_I (is_I (is_I hg))))) ?_
    refine w_aload_n C 1 dX3_enter_55 rfl rfl (by first | rfl | exact isRef_rf _) ?_
    refine w_iconst (v := 1) C dX3_enter_56 (by decide) ?_
    refine w_putI (ci := 2) (k := 12) (f := 76) C rfl i2 (by decide +kernel) (by decide) (by decide) rfl rfl tyX1 tyX1_ok nmX1 rfl rfl rfl dX3_enter_57 (is_I (is_R (is_R (is_I (is_I (is_I hg)))))) ?_
    refine w_aload_n C 1 dX3_enter_60 rfl rfl (by first | rfl | exact isRef_rf _) ?_
    refine w_aload_n C 0 dX3_enter_61 rfl rfl (by first | rfl | exact isRef_rf _) ?_
    refine w_getR (ci := 4) (k := 3) (f := 131) C rfl i4 (by decide +kernel) (by decide) (by decide) rfl rfl dX3_enter_62 (is_I (is_I (is_R (is_R (is_I (is_I (is_I hp))))))) (rR_I (rR_I (rR_Rf (by decide) (rR_Rf (by decide) (rR_I (rR_I (rR_I rfl))))))) ?_
    refine w_putR (ci := 2) (k := 11) (f := 75) C rfl i2 (by decide +kernel) (by decide) (by decide) rfl rfl tyX1 tyX1_ok nmX1 rfl (by first | rfl | exact nar_rf _ _ | exact nar_ra _ _) (by first | rfl | exact fit_rf _ _ | exact fit_ra _ _) dX3_enter_65 (is_I (is_I (is_R (is_R (is_I (is_I (is_I hg))))))) ?_
    refine w_aload_n C 0 dX3_enter_68 rfl rfl (by first | rfl | exact isRef_rf _) ?_
    refine w_aload_n C 1 dX3_enter_69 rfl rfl (by first | rfl | exact isRef_rf _) ?_
    refine w_putR (ci := 4) (k := 3) (f := 131) (v := (some g)) C rfl i4 (by decide +kernel) (by decide) (by decide) rfl rfl tyX3 tyX3_ok nmX3 rfl (by first | rfl | exact nar_rf _ _ | exact nar_ra _ _) (by first | rfl | exact fit_rf _ _ | exact fit_ra _ _) dX3_enter_70 (is_R (is_I (is_I (is_R (is_R (is_I (is_I (is_I hp)))))))) ?_
    exact w_vret C dX3_enter_73 ⟨rfl, rfl⟩
  · refine w_aload_n C 1 dX3_enter_34 rfl rfl (by first | rfl | exact isRef_rf _) ?_
    have c2 : isLog (sI z 65 g) = true := by cases h9 : isLog (sI z 65 g) with | true => rfl | false => exact absurd (by rw [h9]; rfl) c1
    refine w_getR (ci := 2) (k := 2) (f := 66) C rfl i2 (by decide +kernel) (by decide) (by decide) rfl rfl dX3_enter_35 (is_I (is_I (is_I hg))) (rR_I (rR_I (rR_I rfl))) ?_
    refine w_reff (y := (if isLog (sI z 65 g) then sR z 66 g else none)) (by rw [c2]; rfl) ?_
    refine w_goto (tgt := 42) C dX3_enter_38 (by decide) ?_
    refine w_putR (ci := 2) (k := 9) (f := 73) C rfl i2 (by decide +kernel) (by decide) (by decide) rfl rfl tyX1 tyX1_ok nmX1 rfl (by first | rfl | exact nar_rf _ _ | exact nar_ra _ _) (by first | rfl | exact fit_rf _ _ | exact fit_ra _ _) dX3_enter_42 (is_I (is_I (is_I hg))) ?_
    refine w_aload_n C 1 dX3_enter_45 rfl rfl (by first | rfl | exact isRef_rf _) ?_
    refine w_aload_n C 2 dX3_enter_46 rfl rfl (by first | rfl | exact isRef_rf _) ?_
    refine w_putR (ci := 2) (k := 10) (f := 74) C rfl i2 (by decide +kernel) (by decide) (by decide) rfl rfl tyX1 tyX1_ok nmX1 rfl (by first | rfl | exact nar_rf _ _ | exact nar_ra _ _) (by first | rfl | exact fit_rf _ _ | exact fit_ra _ _) dX3_enter_47 (is_R (is_I (is_I (is_I hg)))) ?_
    refine w_aload_n C 1 dX3_enter_50 rfl rfl (by first | rfl | exact isRef_rf _) ?_
    refine w_iconst (v := 0) C dX3_enter_51 (by decide) ?_
    refine w_putI (ci := 2) (k := 13) (f := 77) C rfl i2 (by decide +kernel) (by decide) (by decide) rfl rfl tyX1 tyX1_ok nmX1 rfl rfl rfl dX3_enter_52 (is_R (is_R (is_I (is_I (is_I hg))))) ?_
    refine w_aload_n C 1 dX3_enter_55 rfl rfl (by first | rfl | exact isRef_rf _) ?_
    refine w_iconst (v := 1) C dX3_enter_56 (by decide) ?_
    refine w_putI (ci := 2) (k := 12) (f := 76) C rfl i2 (by decide +kernel) (by decide) (by decide) rfl rfl tyX1 tyX1_ok nmX1 rfl rfl rfl dX3_enter_57 (is_I (is_R (is_R (is_I (is_I (is_I hg)))))) ?_
    refine w_aload_n C 1 dX3_enter_60 rfl rfl (by first | rfl | exact isRef_rf _) ?_
    refine w_aload_n C 0 dX3_enter_61 rfl rfl (by first | rfl | exact isRef_rf _) ?_
    refine w_getR (ci := 4) (k := 3) (f := 131) C rfl i4 (by decide +kernel) (by decide) (by decide) rfl rfl dX3_enter_62 (is_I (is_I (is_R (is_R (is_I (is_I (is_I hp))))))) (rR_I (rR_I (rR_Rf (by decide) (rR_Rf (by decide) (rR_I (rR_I (rR_I rfl))))))) ?_
    refine w_putR (ci := 2) (k := 11) (f := 75) C rfl i2 (by decide +kernel) (by decide) (by decide) rfl rfl tyX1 tyX1_ok nmX1 rfl (by first | rfl | exact nar_rf _ _ | exact nar_ra _ _) (by first | rfl | exact fit_rf _ _ | exact fit_ra _ _) dX3_enter_65 (is_I (is_I (is_R (is_R (is_I (is_I (is_I hg))))))) ?_
    refine w_aload_n C 0 dX3_enter_68 rfl rfl (by first | rfl | exact isRef_rf _) ?_
    refine w_aload_n C 1 dX3_enter_69 rfl rfl (by first | rfl | exact isRef_rf _) ?_
    refine w_putR (ci := 4) (k := 3) (f := 131) (v := (some g)) C rfl i4 (by decide +kernel) (by decide) (by decide) rfl rfl tyX3 tyX3_ok nmX3 rfl (by first | rfl | exact nar_rf _ _ | exact nar_ra _ _) (by first | rfl | exact fit_rf _ _ | exact fit_ra _ _) dX3_enter_70 (is_R (is_I (is_I (is_R (is_R (is_I (is_I (is_I hp)))))))) ?_
    exact w_vret C dX3_enter_73 ⟨rfl, rfl⟩
set_option maxHeartbeats 4000000 in
set_option maxRecDepth 100000 in
theorem c_follow (l : Launch) (G : Gx) (z : Sto) {pt h f : Nat} (hp : is z pt 4) (hh : is z h 2) (hf : is z f 2) : Ct l yX3_follow wsX3_follow ({ frames := 2, cells := 0, slots := 0, locals := 42 } : Room) G z [.ref pt, .ref h, .ref f] (fun rv z' => (sI z 71 f = -1 ∧ rv = some (.ref f) ∧ z' = enS z pt f (some h)) ∨ (¬ sI z 71 f = -1 ∧ rv = some (.ref h) ∧ z' = flS z h f)) := by
  refine ct_of (cc := cX3_follow) (maxL := 3) (ret := (some (.object "TernaryNet$Gate"))) (lv0 := [(0, .ref pt), (1, .ref h), (2, .ref f)]) (by decide) rfl (by simp [lg_sl, cat_ref, cat_null, cat_int, cat_long, rf_cat]) (by simp [lv_args, cat_ref, cat_null, cat_int, cat_long, rf_cat]) ?_
  intro p e s m args below meth c C hin
  have i2 : ∀ w ∈ u_ws RX1 TX1 17, w ∈ wsX3_follow := by decide +kernel
  refine w_aload_n C 2 dX3_follow_0 rfl rfl (by first | rfl | exact isRef_rf _) ?_
  refine w_getI (ci := 2) (k := 7) (f := 71) C rfl i2 (by decide +kernel) (by decide) (by decide) rfl rfl dX3_follow_1 hf rfl ?_
  refine w_iconst (v := (-1)) C dX3_follow_4 (by decide) ?_
  refine w_icmp_ne (tgt := 16) C dX3_follow_5 (by decide) (fun c1 => ?_) (fun c1 => ?_)
  · refine w_aload_n C 2 dX3_follow_16 rfl rfl (by first | rfl | exact isRef_rf _) ?_
    refine w_aload_n C 1 dX3_follow_17 rfl rfl (by first | rfl | exact isRef_rf _) ?_
    refine w_acmp_ne (tgt := 26) (rx := (some f)) (ry := (some h)) C dX3_follow_18 (by decide) (fun c2 => ?_) (fun c2 => ?_)
    · have c5 : (f = h) ↔ (some f = some h) := ⟨fun q => by rw [q], fun q => Option.some.inj q⟩
      refine w_aload_n C 2 dX3_follow_26 rfl rfl (by first | rfl | exact isRef_rf _) ?_
      refine w_getI (ci := 2) (k := 12) (f := 76) C rfl i2 (by decide +kernel) (by decide) (by decide) rfl rfl dX3_follow_27 hf rfl ?_
      refine w_if_eq (tgt := 48) C dX3_follow_30 (by decide) (fun c3 => ?_) (fun c3 => ?_)
      · refine w_aload_n C 1 dX3_follow_48 rfl rfl (by first | rfl | exact isRef_rf _) ?_
        exact w_aret C (Or.inl ⟨_, rfl⟩) (by first | rfl | exact isRef_rf _) dX3_follow_49 (Or.inr ⟨c1, rfl, by first | (simp [flS, flS1, c3, c5, c2]; done) | (simp [flS, flS1, c3, c4]; done)⟩)
      · refine w_aload_n C 1 dX3_follow_33 rfl rfl (by first | rfl | exact isRef_rf _) ?_
        refine w_aload_n C 1 dX3_follow_34 rfl rfl (by first | rfl | exact isRef_rf _) ?_
        refine w_getI (ci := 2) (k := 8) (f := 72) C rfl i2 (by decide +kernel) (by decide) (by decide) rfl rfl dX3_follow_35 hh rfl ?_
        refine w_aload_n C 2 dX3_follow_38 rfl rfl (by first | rfl | exact isRef_rf _) ?_
        refine w_getI (ci := 2) (k := 7) (f := 71) C rfl i2 (by decide +kernel) (by decide) (by decide) rfl rfl dX3_follow_39 hf rfl ?_
        refine w_min C (by decide +kernel) (by decide +kernel) (by decide +kernel) (by decide +kernel) (Nat.le_of_ble_eq_true rfl) (by simp [cat_ref]) (Nat.le_of_ble_eq_true rfl) (Nat.le_of_ble_eq_true rfl) dX3_follow_42 ?_
        refine w_putI (ci := 2) (k := 8) (f := 72) C rfl i2 (by decide +kernel) (by decide) (by decide) rfl rfl tyX1 tyX1_ok nmX1 rfl rfl rfl dX3_follow_45 hh ?_
        refine w_aload_n C 1 dX3_follow_48 rfl rfl (by first | rfl | exact isRef_rf _) ?_
        exact w_aret C (Or.inl ⟨_, rfl⟩) (by first | rfl | exact isRef_rf _) dX3_follow_49 (Or.inr ⟨c1, rfl, by first | (simp [flS, flS1, c3, c5, c2]; done) | (simp [flS, flS1, c3, c4]; done)⟩)
    · have c4 : f = h := Option.some.inj c2
      refine w_aload_n C 1 dX3_follow_21 rfl rfl (by first | rfl | exact isRef_rf _) ?_
      refine w_iconst (v := 1) C dX3_follow_22 (by decide) ?_
      refine w_putI (ci := 2) (k := 13) (f := 77) C rfl i2 (by decide +kernel) (by decide) (by decide) rfl rfl tyX1 tyX1_ok nmX1 rfl rfl rfl dX3_follow_23 hh ?_
      have c5 : (f = h) ↔ (some f = some h) := ⟨fun q => by rw [q], fun q => Option.some.inj q⟩
      refine w_aload_n C 2 dX3_follow_26 rfl rfl (by first | rfl | exact isRef_rf _) ?_
      refine w_getI (ci := 2) (k := 12) (f := 76) C rfl i2 (by decide +kernel) (by decide) (by decide) rfl rfl dX3_follow_27 (is_I hf) (rI_If (by decide) rfl) ?_
      refine w_if_eq (tgt := 48) C dX3_follow_30 (by decide) (fun c3 => ?_) (fun c3 => ?_)
      · refine w_aload_n C 1 dX3_follow_48 rfl rfl (by first | rfl | exact isRef_rf _) ?_
        exact w_aret C (Or.inl ⟨_, rfl⟩) (by first | rfl | exact isRef_rf _) dX3_follow_49 (Or.inr ⟨c1, rfl, by first | (simp [flS, flS1, c3, c5, c2]; done) | (simp [flS, flS1, c3, c4]; done)⟩)
      · refine w_aload_n C 1 dX3_follow_33 rfl rfl (by first | rfl | exact isRef_rf _) ?_
        refine w_aload_n C 1 dX3_follow_34 rfl rfl (by first | rfl | exact isRef_rf _) ?_
        refine w_getI (ci := 2) (k := 8) (f := 72) C rfl i2 (by decide +kernel) (by decide) (by decide) rfl rfl dX3_follow_35 (is_I hh) (rI_If (by decide) rfl) ?_
        refine w_aload_n C 2 dX3_follow_38 rfl rfl (by first | rfl | exact isRef_rf _) ?_
        refine w_getI (ci := 2) (k := 7) (f := 71) C rfl i2 (by decide +kernel) (by decide) (by decide) rfl rfl dX3_follow_39 (is_I hf) (rI_If (by decide) rfl) ?_
        refine w_min C (by decide +kernel) (by decide +kernel) (by decide +kernel) (by decide +kernel) (Nat.le_of_ble_eq_true rfl) (by simp [cat_ref]) (Nat.le_of_ble_eq_true rfl) (Nat.le_of_ble_eq_true rfl) dX3_follow_42 ?_
        refine w_putI (ci := 2) (k := 8) (f := 72) C rfl i2 (by decide +kernel) (by decide) (by decide) rfl rfl tyX1 tyX1_ok nmX1 rfl rfl rfl dX3_follow_45 (is_I hh) ?_
        refine w_aload_n C 1 dX3_follow_48 rfl rfl (by first | rfl | exact isRef_rf _) ?_
        exact w_aret C (Or.inl ⟨_, rfl⟩) (by first | rfl | exact isRef_rf _) dX3_follow_49 (Or.inr ⟨c1, rfl, by first | (simp [flS, flS1, c3, c5, c2]; done) | (simp [flS, flS1, c3, c4]; done)⟩)
  · refine w_aload_n C 0 dX3_follow_8 rfl rfl (by first | rfl | exact isRef_rf _) ?_
    refine w_aload_n C 2 dX3_follow_9 rfl rfl (by first | rfl | exact isRef_rf _) ?_
    refine w_aload_n C 1 dX3_follow_10 rfl rfl (by first | rfl | exact isRef_rf _) ?_
    refine w_callV (ci := 4) (As := [.ref f, va_rf (some h)]) (rest := []) C (cwV 2 C.1.2.2.2.2 gX3_follow_X3_enter rfl rfl rfl (by decide +kernel) ⟨Nat.le_of_ble_eq_true rfl, Nat.le_of_ble_eq_true rfl⟩) hp rfl (by decide) rfl rfl (by first | decide | simp [cat_ref, cat_null, cat_int, cat_long, rf_cat]) dX3_follow_11 ⟨Nat.le_of_ble_eq_true rfl, Nat.le_of_ble_eq_true rfl⟩ (c_enter l G z (cf := some h) hp hf) (fun rv z1 h1 => ?_)
    obtain ⟨rfl, e1⟩ := h1
    replace e1 := e1.symm
    subst e1
    refine w_aload_n C 2 dX3_follow_14 rfl rfl (by first | rfl | exact isRef_rf _) ?_
    exact w_aret C (Or.inl ⟨_, rfl⟩) (by first | rfl | exact isRef_rf _) dX3_follow_15 (Or.inl ⟨c1, rfl, rfl⟩)
/-- the chain of the open ones from r down to e -/
def bch (z : Sto) : Option Nat → List Nat → Option Nat → Prop
  | r, [], e => r = e
  | r, g :: tl, e => r = some g ∧ is z g 2 ∧ some g ≠ e ∧ bch z (sR z 75 g) tl e
def mnl (z : Sto) : List Nat → Int32 → Int32
  | [], m => m
  | g :: tl, m => mnl z tl (if sI z 64 g < m then sI z 64 g else m)
def cps (v : Int32) : List Nat → Sto → Sto
  | [], z => z
  | g :: tl, z => cps v tl (putI (putI z 76 g 0) 78 g v)
theorem bch_I {f b : Nat} {v : Int32} : ∀ {L : List Nat} {z : Sto} {r e : Option Nat}, bch z r L e → bch (putI z f b v) r L e := by
  intro L
  induction L with
  | nil => intro z r e h; exact h
  | cons g tl ih => intro z r e h; exact ⟨h.1, h.2.1, h.2.2.1, ih h.2.2.2⟩
theorem cps_is {v : Int32} : ∀ {L : List Nat} {z : Sto} {b k : Nat}, is z b k → is (cps v L z) b k := by
  intro L
  induction L with
  | nil => intro z b k h; exact h
  | cons g tl ih => intro z b k h; exact ih (is_I (is_I h))
theorem cps_R (v : Int32) : ∀ (L : List Nat) (z : Sto), sR (cps v L z) = sR z := by
  intro L
  induction L with
  | nil => intro z; rfl
  | cons g tl ih => intro z; exact ih _
def hasB (z : Sto) (pt g : Nat) : Bool := !decide (sR z 131 pt = some g) || !decide (sI z 77 g = 0)
/-- the store behind closePart(g), L the open ones from the top down to g -/
def cpV (z : Sto) (pt g : Nat) (L : List Nat) : Int32 := if hasB z pt g then mnl z L (sI z 64 g) else -1
def cpS1 (z : Sto) (pt g : Nat) (L : List Nat) : Sto := if hasB z pt g then putI (cps (cpV z pt g L) L z) 129 pt (sI (cps (cpV z pt g L) L z) 129 pt + 1) else cps (cpV z pt g L) L z
def cpS (z : Sto) (pt g : Nat) (L : List Nat) : Sto := putR (cpS1 z pt g L) 131 pt (sR z 75 g)
set_option maxHeartbeats 4000000 in
set_option maxRecDepth 100000 in
theorem c_closePart (l : Launch) (G : Gx) (z : Sto) {pt g : Nat} {L : List Nat} (hp : is z pt 4) (hg : is z g 2) (hL : bch z (sR z 131 pt) L (sR z 75 g)) : Ct l yX3_closePart wsX3_closePart ({ frames := 1, cells := 0, slots := 0, locals := 20 } : Room) G z [.ref pt, .ref g] (fun rv z' => rv = none ∧ z' = cpS z pt g L) := by
  refine ct_of (cc := cX3_closePart) (maxL := 6) (ret := none) (lv0 := [(0, .ref pt), (1, .ref g)]) (by decide) rfl (by simp [lg_sl, cat_ref, cat_null, cat_int, cat_long, rf_cat]) (by simp [lv_args, cat_ref, cat_null, cat_int, cat_long, rf_cat]) ?_
  intro p e s m args below meth c C hin
  have i2 : ∀ w ∈ u_ws RX1 TX1 17, w ∈ wsX3_closePart := by decide +kernel
  have i4 : ∀ w ∈ u_ws RX3 TX3 4, w ∈ wsX3_closePart := by decide +kernel
  have loop2 : ∀ (tl : List Nat) (z1 : Sto) (r : Option Nat), bch z1 r tl (sR z 75 g) → cps (cpV z pt g L) tl z1 = cps (cpV z pt g L) L z → is z1 pt 4 → Wp p l e ({ frames := 1, cells := 0, slots := 0, locals := 20 } : Room) s m args below meth c G 6 0 0 (MQ below (cPost G (fun rv z' => rv = none ∧ z' = cpS z pt g L)) args s (0) (0) (gA G)) z1 77 [(5, va_rf r), (4, .int (mnl z L (sI z 64 g))), (3, .int (bI (hasB z pt g))), (2, va_rf (sR z 75 g)), (0, .ref pt), (1, .ref g)] [] := by
    intro tl
    induction tl with
    | nil =>
      intro z1 r hc hz hp1
      have hc : r = sR z 75 g := hc
      have hz : z1 = cps (cpV z pt g L) L z := hz
      subst hz
      refine w_aload C 0 dX3_closePart_77 rfl (by first | rfl | exact isRef_rf _) ?_
      refine w_ifnull (tgt := 119) C dX3_closePart_79 (by decide) (fun c1 => ?_) (fun a79 c1 => ?_)
      · refine w_iload_n C 2 dX3_closePart_119 rfl rfl ?_
        refine w_if_eq (tgt := 133) C dX3_closePart_120 (by decide) (fun c3 => ?_) (fun c3 => ?_)
        · refine w_aload_n C 4 dX3_closePart_133 rfl rfl (by first | rfl | exact isRef_rf _) ?_
          refine w_aload_n C 3 dX3_closePart_134 rfl rfl (by first | rfl | exact isRef_rf _) ?_
          refine w_putR (ci := 4) (k := 3) (f := 131) C rfl i4 (by decide +kernel) (by decide) (by decide) rfl rfl tyX3 tyX3_ok nmX3 rfl (by first | rfl | exact nar_rf _ _ | exact nar_ra _ _) (by first | rfl | exact fit_rf _ _ | exact fit_ra _ _) dX3_closePart_135 hp1 ?_
          exact w_vret C dX3_closePart_138 ⟨rfl, by first | (rw [bI_0] at c3; simp [cpS, cpS1, c3]; done) | (have c4 : hasB z pt g = true := by { cases h9 : hasB z pt g with | true => rfl | false => exact absurd (by rw [h9]; rfl) c3 }; simp [cpS, cpS1, c4]; done)⟩
        · refine w_aload_n C 4 dX3_closePart_123 rfl rfl (by first | rfl | exact isRef_rf _) ?_
          refine w_dup C dX3_closePart_124 (by first | rfl | exact rf_cat _) ?_
          refine w_getI (ci := 4) (k := 1) (f := 129) C rfl i4 (by decide +kernel) (by decide) (by decide) rfl rfl dX3_closePart_125 hp1 rfl ?_
          refine w_iconst (v := 1) C dX3_closePart_128 (by decide) ?_
          refine w_iadd C dX3_closePart_129 ?_
          refine w_putI (ci := 4) (k := 1) (f := 129) C rfl i4 (by decide +kernel) (by decide) (by decide) rfl rfl tyX3 tyX3_ok nmX3 rfl rfl rfl dX3_closePart_130 hp1 ?_
          refine w_aload_n C 4 dX3_closePart_133 rfl rfl (by first | rfl | exact isRef_rf _) ?_
          refine w_aload_n C 3 dX3_closePart_134 rfl rfl (by first | rfl | exact isRef_rf _) ?_
          refine w_putR (ci := 4) (k := 3) (f := 131) C rfl i4 (by decide +kernel) (by decide) (by decide) rfl rfl tyX3 tyX3_ok nmX3 rfl (by first | rfl | exact nar_rf _ _ | exact nar_ra _ _) (by first | rfl | exact fit_rf _ _ | exact fit_ra _ _) dX3_closePart_135 (is_I hp1) ?_
          exact w_vret C dX3_closePart_138 ⟨rfl, by first | (rw [bI_0] at c3; simp [cpS, cpS1, c3]; done) | (have c4 : hasB z pt g = true := by { cases h9 : hasB z pt g with | true => rfl | false => exact absurd (by rw [h9]; rfl) c3 }; simp [cpS, cpS1, c4]; done)⟩
      · refine w_aload C 0 dX3_closePart_82 rfl (by first | rfl | exact isRef_rf _) ?_
        refine w_aload_n C 3 dX3_closePart_84 rfl rfl (by first | rfl | exact isRef_rf _) ?_
        refine w_acmp_eq (tgt := 119) C dX3_closePart_85 (by decide) (fun c2 => ?_) (fun c2 => ?_)
        · refine w_iload_n C 2 dX3_closePart_119 rfl rfl ?_
          refine w_if_eq (tgt := 133) C dX3_closePart_120 (by decide) (fun c3 => ?_) (fun c3 => ?_)
          · refine w_aload_n C 4 dX3_closePart_133 rfl rfl (by first | rfl | exact isRef_rf _) ?_
            refine w_aload_n C 3 dX3_closePart_134 rfl rfl (by first | rfl | exact isRef_rf _) ?_
            refine w_putR (ci := 4) (k := 3) (f := 131) C rfl i4 (by decide +kernel) (by decide) (by decide) rfl rfl tyX3 tyX3_ok nmX3 rfl (by first | rfl | exact nar_rf _ _ | exact nar_ra _ _) (by first | rfl | exact fit_rf _ _ | exact fit_ra _ _) dX3_closePart_135 hp1 ?_
            exact w_vret C dX3_closePart_138 ⟨rfl, by first | (rw [bI_0] at c3; simp [cpS, cpS1, c3]; done) | (have c4 : hasB z pt g = true := by { cases h9 : hasB z pt g with | true => rfl | false => exact absurd (by rw [h9]; rfl) c3 }; simp [cpS, cpS1, c4]; done)⟩
          · refine w_aload_n C 4 dX3_closePart_123 rfl rfl (by first | rfl | exact isRef_rf _) ?_
            refine w_dup C dX3_closePart_124 (by first | rfl | exact rf_cat _) ?_
            refine w_getI (ci := 4) (k := 1) (f := 129) C rfl i4 (by decide +kernel) (by decide) (by decide) rfl rfl dX3_closePart_125 hp1 rfl ?_
            refine w_iconst (v := 1) C dX3_closePart_128 (by decide) ?_
            refine w_iadd C dX3_closePart_129 ?_
            refine w_putI (ci := 4) (k := 1) (f := 129) C rfl i4 (by decide +kernel) (by decide) (by decide) rfl rfl tyX3 tyX3_ok nmX3 rfl rfl rfl dX3_closePart_130 hp1 ?_
            refine w_aload_n C 4 dX3_closePart_133 rfl rfl (by first | rfl | exact isRef_rf _) ?_
            refine w_aload_n C 3 dX3_closePart_134 rfl rfl (by first | rfl | exact isRef_rf _) ?_
            refine w_putR (ci := 4) (k := 3) (f := 131) C rfl i4 (by decide +kernel) (by decide) (by decide) rfl rfl tyX3 tyX3_ok nmX3 rfl (by first | rfl | exact nar_rf _ _ | exact nar_ra _ _) (by first | rfl | exact fit_rf _ _ | exact fit_ra _ _) dX3_closePart_135 (is_I hp1) ?_
            exact w_vret C dX3_closePart_138 ⟨rfl, by first | (rw [bI_0] at c3; simp [cpS, cpS1, c3]; done) | (have c4 : hasB z pt g = true := by { cases h9 : hasB z pt g with | true => rfl | false => exact absurd (by rw [h9]; rfl) c3 }; simp [cpS, cpS1, c4]; done)⟩
        · exact absurd hc c2
    | cons x tl ih =>
      intro z1 r hc hz hp1
      obtain ⟨rfl, hx, hne, htl⟩ := hc
      refine w_aload C 0 dX3_closePart_77 rfl (by first | rfl | exact isRef_rf _) ?_
      refine w_ifnull (tgt := 119) C dX3_closePart_79 (by decide) (fun c1 => ?_) (fun a79 c1 => ?_)
      · cases c1
      · refine w_aload C 0 dX3_closePart_82 rfl (by first | rfl | exact isRef_rf _) ?_
        refine w_aload_n C 3 dX3_closePart_84 rfl rfl (by first | rfl | exact isRef_rf _) ?_
        refine w_acmp_eq (tgt := 119) C dX3_closePart_85 (by decide) (fun c2 => ?_) (fun c2 => ?_)
        · exact absurd c2 hne
        · refine w_aload C 0 dX3_closePart_88 rfl (by first | rfl | exact isRef_rf _) ?_
          refine w_iconst (v := 0) C dX3_closePart_90 (by decide) ?_
          refine w_putI (ci := 2) (k := 12) (f := 76) C rfl i2 (by decide +kernel) (by decide) (by decide) rfl rfl tyX1 tyX1_ok nmX1 rfl rfl rfl dX3_closePart_91 hx ?_
          refine w_aload C 0 dX3_closePart_94 rfl (by first | rfl | exact isRef_rf _) ?_
          refine w_iload_n C 2 dX3_closePart_96 rfl rfl ?_
          refine w_if_eq (tgt := 105) C dX3_closePart_97 (by decide) (fun c3 => ?_) (fun c3 => ?_)
          · rw [bI_0] at c3
            refine w_iconst (v := (-1)) C dX3_closePart_105 (by decide) ?_
            refine w_inti (y := cpV z pt g L) (by simp [cpV, c3]) ?_
            refine w_putI (ci := 2) (k := 14) (f := 78) C rfl i2 (by decide +kernel) (by decide) (by decide) rfl rfl tyX1 tyX1_ok nmX1 rfl rfl rfl dX3_closePart_106 (is_I hx) ?_
            refine w_aload C 0 dX3_closePart_109 rfl (by first | rfl | exact isRef_rf _) ?_
            refine w_getR (ci := 2) (k := 11) (f := 75) C rfl i2 (by decide +kernel) (by decide) (by decide) rfl rfl dX3_closePart_111 (is_I (is_I hx)) (rR_I (rR_I rfl)) ?_
            refine w_astoreB (lvq := [(5, _), (4, _), (3, _), (2, _), (0, _), (1, _)]) C 1 rfl rfl (by first | rfl | exact rf_cat _) dX3_closePart_114 (by first | rfl | exact isRef_rf _) (by decide) rfl ?_
            refine w_goto (tgt := 77) C dX3_closePart_116 (by decide) ?_
            exact w_sub [0, 1, 2, 3, 4, 5] rfl (ih _ _ (bch_I (bch_I htl)) hz (is_I (is_I hp1)))
          · refine w_iload C 1 dX3_closePart_100 rfl ?_
            have c4 : hasB z pt g = true := by cases h9 : hasB z pt g with | true => rfl | false => exact absurd (by rw [h9]; rfl) c3
            refine w_inti (y := cpV z pt g L) (by simp [cpV, c4]) ?_
            refine w_goto (tgt := 106) C dX3_closePart_102 (by decide) ?_
            refine w_putI (ci := 2) (k := 14) (f := 78) C rfl i2 (by decide +kernel) (by decide) (by decide) rfl rfl tyX1 tyX1_ok nmX1 rfl rfl rfl dX3_closePart_106 (is_I hx) ?_
            refine w_aload C 0 dX3_closePart_109 rfl (by first | rfl | exact isRef_rf _) ?_
            refine w_getR (ci := 2) (k := 11) (f := 75) C rfl i2 (by decide +kernel) (by decide) (by decide) rfl rfl dX3_closePart_111 (is_I (is_I hx)) (rR_I (rR_I rfl)) ?_
            refine w_astoreB (lvq := [(5, _), (4, _), (3, _), (2, _), (0, _), (1, _)]) C 1 rfl rfl (by first | rfl | exact rf_cat _) dX3_closePart_114 (by first | rfl | exact isRef_rf _) (by decide) rfl ?_
            refine w_goto (tgt := 77) C dX3_closePart_116 (by decide) ?_
            exact w_sub [0, 1, 2, 3, 4, 5] rfl (ih _ _ (bch_I (bch_I htl)) hz (is_I (is_I hp1)))
  have loop1 : ∀ (tl : List Nat) (r : Option Nat) (le : Int32), bch z r tl (sR z 75 g) → mnl z tl le = mnl z L (sI z 64 g) → Wp p l e ({ frames := 1, cells := 0, slots := 0, locals := 20 } : Room) s m args below meth c G 6 0 0 (MQ below (cPost G (fun rv z' => rv = none ∧ z' = cpS z pt g L)) args s (0) (0) (gA G)) z 38 [(5, va_rf r), (4, .int le), (3, .int (bI (hasB z pt g))), (2, va_rf (sR z 75 g)), (0, .ref pt), (1, .ref g)] [] := by
    intro tl
    induction tl with
    | nil =>
      intro r le hc hz
      have hc : r = sR z 75 g := hc
      have hz : le = mnl z L (sI z 64 g) := hz
      subst hz
      refine w_aload C 0 dX3_closePart_38 rfl (by first | rfl | exact isRef_rf _) ?_
      refine w_ifnull (tgt := 71) C dX3_closePart_40 (by decide) (fun c1 => ?_) (fun a40 c1 => ?_)
      · refine w_aload_n C 4 dX3_closePart_71 rfl rfl (by first | rfl | exact isRef_rf _) ?_
        refine w_getR (ci := 4) (k := 3) (f := 131) C rfl i4 (by decide +kernel) (by decide) (by decide) rfl rfl dX3_closePart_72 hp rfl ?_
        refine w_astoreB (lvq := [(5, _), (4, _), (3, _), (2, _), (0, _), (1, _)]) C 1 rfl rfl (by first | rfl | exact rf_cat _) dX3_closePart_75 (by first | rfl | exact isRef_rf _) (by decide) rfl ?_
        exact w_sub [0, 1, 2, 3, 4, 5] rfl (loop2 L z _ hL rfl hp)
      · refine w_aload C 0 dX3_closePart_43 rfl (by first | rfl | exact isRef_rf _) ?_
        refine w_aload_n C 3 dX3_closePart_45 rfl rfl (by first | rfl | exact isRef_rf _) ?_
        refine w_acmp_eq (tgt := 71) C dX3_closePart_46 (by decide) (fun c2 => ?_) (fun c2 => ?_)
        · refine w_aload_n C 4 dX3_closePart_71 rfl rfl (by first | rfl | exact isRef_rf _) ?_
          refine w_getR (ci := 4) (k := 3) (f := 131) C rfl i4 (by decide +kernel) (by decide) (by decide) rfl rfl dX3_closePart_72 hp rfl ?_
          refine w_astoreB (lvq := [(5, _), (4, _), (3, _), (2, _), (0, _), (1, _)]) C 1 rfl rfl (by first | rfl | exact rf_cat _) dX3_closePart_75 (by first | rfl | exact isRef_rf _) (by decide) rfl ?_
          exact w_sub [0, 1, 2, 3, 4, 5] rfl (loop2 L z _ hL rfl hp)
        · exact absurd hc c2
    | cons x tl ih =>
      intro r le hc hz
      obtain ⟨rfl, hx, hne, htl⟩ := hc
      refine w_aload C 0 dX3_closePart_38 rfl (by first | rfl | exact isRef_rf _) ?_
      refine w_ifnull (tgt := 71) C dX3_closePart_40 (by decide) (fun c1 => ?_) (fun a40 c1 => ?_)
      · cases c1
      · refine w_aload C 0 dX3_closePart_43 rfl (by first | rfl | exact isRef_rf _) ?_
        refine w_aload_n C 3 dX3_closePart_45 rfl rfl (by first | rfl | exact isRef_rf _) ?_
        refine w_acmp_eq (tgt := 71) C dX3_closePart_46 (by decide) (fun c2 => ?_) (fun c2 => ?_)
        · exact absurd c2 hne
        · refine w_iload C 1 dX3_closePart_49 rfl ?_
          refine w_aload C 0 dX3_closePart_51 rfl (by first | rfl | exact isRef_rf _) ?_
          refine w_getI (ci := 2) (k := 0) (f := 64) C rfl i2 (by decide +kernel) (by decide) (by decide) rfl rfl dX3_closePart_53 hx rfl ?_
          refine w_min C (by decide +kernel) (by decide +kernel) (by decide +kernel) (by decide +kernel) (Nat.le_of_ble_eq_true rfl) (by simp [cat_ref, cat_int]) (Nat.le_of_ble_eq_true rfl) (Nat.le_of_ble_eq_true rfl) dX3_closePart_56 ?_
          refine w_istoreB (lvq := [(4, _), (5, _), (3, _), (2, _), (0, _), (1, _)]) C 2 rfl rfl (by first | rfl | exact rf_cat _) dX3_closePart_59 (by decide) rfl ?_
          refine w_aload C 1 dX3_closePart_61 rfl (by first | rfl | exact isRef_rf _) ?_
          refine w_getR (ci := 2) (k := 11) (f := 75) C rfl i2 (by decide +kernel) (by decide) (by decide) rfl rfl dX3_closePart_63 hx rfl ?_
          refine w_astoreB (lvq := [(5, _), (4, _), (3, _), (2, _), (0, _), (1, _)]) C 0 rfl rfl (by first | rfl | exact rf_cat _) dX3_closePart_66 (by first | rfl | exact isRef_rf _) (by decide) rfl ?_
          refine w_goto (tgt := 38) C dX3_closePart_68 (by decide) ?_
          exact w_sub [0, 1, 2, 3, 4, 5] rfl (ih _ _ htl hz)
  refine w_aload_n C 1 dX3_closePart_0 rfl rfl (by first | rfl | exact isRef_rf _) ?_
  refine w_getR (ci := 2) (k := 11) (f := 75) C rfl i2 (by decide +kernel) (by decide) (by decide) rfl rfl dX3_closePart_1 hg rfl ?_
  refine w_astore_nB (lvq := [(2, _), (0, _), (1, _)]) C 1 rfl rfl (by first | rfl | exact rf_cat _) dX3_closePart_4 rfl (by first | rfl | exact isRef_rf _) (by decide) rfl ?_
  refine w_aload_n C 1 dX3_closePart_5 rfl rfl (by first | rfl | exact isRef_rf _) ?_
  refine w_getR (ci := 4) (k := 3) (f := 131) C rfl i4 (by decide +kernel) (by decide) (by decide) rfl rfl dX3_closePart_6 hp rfl ?_
  refine w_aload_n C 2 dX3_closePart_9 rfl rfl (by first | rfl | exact isRef_rf _) ?_
  refine w_acmp_ne (tgt := 20) (ry := (some g)) C dX3_closePart_10 (by decide) (fun c1 => ?_) (fun c1 => ?_)
  · refine w_iconst (v := 1) C dX3_closePart_20 (by decide) ?_
    refine w_goto (tgt := 25) C dX3_closePart_21 (by decide) ?_
    refine w_inti (y := bI (hasB z pt g)) (by simp [hasB, bI, *]) ?_
    refine w_istore_nB (lvq := [(3, _), (2, _), (0, _), (1, _)]) C 0 rfl rfl (by first | rfl | exact rf_cat _) dX3_closePart_25 rfl (by decide) rfl ?_
    refine w_aload_n C 3 dX3_closePart_26 rfl rfl (by first | rfl | exact isRef_rf _) ?_
    refine w_getI (ci := 2) (k := 0) (f := 64) C rfl i2 (by decide +kernel) (by decide) (by decide) rfl rfl dX3_closePart_27 hg rfl ?_
    refine w_istoreB (lvq := [(4, _), (3, _), (2, _), (0, _), (1, _)]) C 0 rfl rfl (by first | rfl | exact rf_cat _) dX3_closePart_30 (by decide) rfl ?_
    refine w_aload_n C 3 dX3_closePart_32 rfl rfl (by first | rfl | exact isRef_rf _) ?_
    refine w_getR (ci := 4) (k := 3) (f := 131) C rfl i4 (by decide +kernel) (by decide) (by decide) rfl rfl dX3_closePart_33 hp rfl ?_
    refine w_astoreB (lvq := [(5, _), (4, _), (3, _), (2, _), (0, _), (1, _)]) C 0 rfl rfl (by first | rfl | exact rf_cat _) dX3_closePart_36 (by first | rfl | exact isRef_rf _) (by decide) rfl ?_
    exact w_sub [0, 1, 2, 3, 4, 5] rfl (loop1 L _ _ hL rfl)
  · refine w_aload_n C 2 dX3_closePart_13 rfl rfl (by first | rfl | exact isRef_rf _) ?_
    refine w_getI (ci := 2) (k := 13) (f := 77) C rfl i2 (by decide +kernel) (by decide) (by decide) rfl rfl dX3_closePart_14 hg rfl ?_
    refine w_if_eq (tgt := 24) C dX3_closePart_17 (by decide) (fun c2 => ?_) (fun c2 => ?_)
    · refine w_iconst (v := 0) C dX3_closePart_24 (by decide) ?_
      refine w_inti (y := bI (hasB z pt g)) (by simp [hasB, bI, *]) ?_
      refine w_istore_nB (lvq := [(3, _), (2, _), (0, _), (1, _)]) C 0 rfl rfl (by first | rfl | exact rf_cat _) dX3_closePart_25 rfl (by decide) rfl ?_
      refine w_aload_n C 3 dX3_closePart_26 rfl rfl (by first | rfl | exact isRef_rf _) ?_
      refine w_getI (ci := 2) (k := 0) (f := 64) C rfl i2 (by decide +kernel) (by decide) (by decide) rfl rfl dX3_closePart_27 hg rfl ?_
      refine w_istoreB (lvq := [(4, _), (3, _), (2, _), (0, _), (1, _)]) C 0 rfl rfl (by first | rfl | exact rf_cat _) dX3_closePart_30 (by decide) rfl ?_
      refine w_aload_n C 3 dX3_closePart_32 rfl rfl (by first | rfl | exact isRef_rf _) ?_
      refine w_getR (ci := 4) (k := 3) (f := 131) C rfl i4 (by decide +kernel) (by decide) (by decide) rfl rfl dX3_closePart_33 hp rfl ?_
      refine w_astoreB (lvq := [(5, _), (4, _), (3, _), (2, _), (0, _), (1, _)]) C 0 rfl rfl (by first | rfl | exact rf_cat _) dX3_closePart_36 (by first | rfl | exact isRef_rf _) (by decide) rfl ?_
      exact w_sub [0, 1, 2, 3, 4, 5] rfl (loop1 L _ _ hL rfl)
    · refine w_iconst (v := 1) C dX3_closePart_20 (by decide) ?_
      refine w_goto (tgt := 25) C dX3_closePart_21 (by decide) ?_
      refine w_inti (y := bI (hasB z pt g)) (by simp [hasB, bI, *]) ?_
      refine w_istore_nB (lvq := [(3, _), (2, _), (0, _), (1, _)]) C 0 rfl rfl (by first | rfl | exact rf_cat _) dX3_closePart_25 rfl (by decide) rfl ?_
      refine w_aload_n C 3 dX3_closePart_26 rfl rfl (by first | rfl | exact isRef_rf _) ?_
      refine w_getI (ci := 2) (k := 0) (f := 64) C rfl i2 (by decide +kernel) (by decide) (by decide) rfl rfl dX3_closePart_27 hg rfl ?_
      refine w_istoreB (lvq := [(4, _), (3, _), (2, _), (0, _), (1, _)]) C 0 rfl rfl (by first | rfl | exact rf_cat _) dX3_closePart_30 (by decide) rfl ?_
      refine w_aload_n C 3 dX3_closePart_32 rfl rfl (by first | rfl | exact isRef_rf _) ?_
      refine w_getR (ci := 4) (k := 3) (f := 131) C rfl i4 (by decide +kernel) (by decide) (by decide) rfl rfl dX3_closePart_33 hp rfl ?_
      refine w_astoreB (lvq := [(5, _), (4, _), (3, _), (2, _), (0, _), (1, _)]) C 0 rfl rfl (by first | rfl | exact rf_cat _) dX3_closePart_36 (by first | rfl | exact isRef_rf _) (by decide) rfl ?_
      exact w_sub [0, 1, 2, 3, 4, 5] rfl (loop1 L _ _ hL rfl)
