/-! ===== Feed and Gate: small methods ===== -/
def isLog (x : Int32) : Bool := decide (x = 2) || decide (x = 3)
/-- a value as it is taken -/
def tkv (v ng : Int32) : Int32 := if v = 2 then 2 else if ng = 0 then v else 1 - v
/-- the value that a feed gives before round k -/
def vbf (z : Sto) (k : Int32) (x : Nat × Int32) : Int32 := if k ≤ sI z 70 x.1 then 2 else tkv (sI z 69 x.1) x.2
/-- the chain of feeds from r on: the gates that feed, and whether negated -/
def chn (z : Sto) : Option Nat → List (Nat × Int32) → Prop
  | r, [] => r = none
  | r, x :: tl => ∃ a, r = some a ∧ is z a 1 ∧ sR z 32 a = some x.1 ∧ is z x.1 2 ∧ sI z 33 a = x.2 ∧ chn z (sR z 34 a) tl
def vff (t : Nat × Int32 → Int32) (dec : Int32) : List (Nat × Int32) → Bool → Int32
  | [], ak => if ak then 1 - dec else 2
  | x :: tl, ak => if t x = dec then dec else vff t dec tl (if t x = 2 then false else ak)
set_option maxHeartbeats 4000000 in
set_option maxRecDepth 100000 in
theorem c_isLogic (l : Launch) (G : Gx) (z : Sto) {a : Nat} (ha : is z a 2) : Ct l yX1_isLogic wsX1_isLogic ({ frames := 0, cells := 0, slots := 0, locals := 0 } : Room) G z [.ref a] (fun rv z' => rv = some (.int (bI (isLog (sI z 65 a)))) ∧ z' = z) := by
  refine ct_of (cc := cX1_isLogic) (maxL := 1) (ret := (some .boolean)) (lv0 := [(0, .ref a)]) (by decide) rfl (by simp [lg_sl, cat_ref, cat_null, cat_int, cat_long, rf_cat]) (by simp [lv_args, cat_ref, cat_null, cat_int, cat_long, rf_cat]) ?_
  intro p e s m args below meth c C hin
  have i2 : ∀ w ∈ u_ws RX1 TX1 17, w ∈ wsX1_isLogic := by decide +kernel
  refine w_aload_n C 0 dX1_isLogic_0 rfl rfl (by first | rfl | exact isRef_rf _) ?_
  refine w_getI (ci := 2) (k := 1) (f := 65) C rfl i2 (by decide +kernel) (by decide) (by decide) rfl rfl dX1_isLogic_1 ha rfl ?_
  refine w_iconst (v := 2) C dX1_isLogic_4 (by decide) ?_
  refine w_icmp_eq (tgt := 16) C dX1_isLogic_5 (by decide) (fun c1 => ?_) (fun c1 => ?_)
  · refine w_iconst (v := 1) C dX1_isLogic_16 (by decide) ?_
    refine w_goto (tgt := 21) C dX1_isLogic_17 (by decide) ?_
    exact w_zret C dX1_isLogic_21 (by first | rfl | assumption) ⟨by simp [bI, isLog, *], rfl⟩
  · refine w_aload_n C 0 dX1_isLogic_8 rfl rfl (by first | rfl | exact isRef_rf _) ?_
    refine w_getI (ci := 2) (k := 1) (f := 65) C rfl i2 (by decide +kernel) (by decide) (by decide) rfl rfl dX1_isLogic_9 ha rfl ?_
    refine w_iconst (v := 3) C dX1_isLogic_12 (by decide) ?_
    refine w_icmp_ne (tgt := 20) C dX1_isLogic_13 (by decide) (fun c2 => ?_) (fun c2 => ?_)
    · refine w_iconst (v := 0) C dX1_isLogic_20 (by decide) ?_
      exact w_zret C dX1_isLogic_21 (by first | rfl | assumption) ⟨by simp [bI, isLog, *], rfl⟩
    · refine w_iconst (v := 1) C dX1_isLogic_16 (by decide) ?_
      refine w_goto (tgt := 21) C dX1_isLogic_17 (by decide) ?_
      exact w_zret C dX1_isLogic_21 (by first | rfl | assumption) ⟨by simp [bI, isLog, *], rfl⟩
set_option maxHeartbeats 4000000 in
set_option maxRecDepth 100000 in
theorem c_takenValue (l : Launch) (G : Gx) (z : Sto) {a g : Nat} (ha : is z a 1) (hf : sR z 32 a = some g) (hg : is z g 2) : Ct l yX0_takenValue wsX0_takenValue ({ frames := 0, cells := 0, slots := 0, locals := 0 } : Room) G z [.ref a] (fun rv z' => rv = some (.int (tkv (sI z 69 g) (sI z 33 a))) ∧ z' = z) := by
  refine ct_of (cc := cX0_takenValue) (maxL := 1) (ret := (some .int)) (lv0 := [(0, .ref a)]) (by decide) rfl (by simp [lg_sl, cat_ref, cat_null, cat_int, cat_long, rf_cat]) (by simp [lv_args, cat_ref, cat_null, cat_int, cat_long, rf_cat]) ?_
  intro p e s m args below meth c C hin
  have i1 : ∀ w ∈ u_ws RX0 TX0 3, w ∈ wsX0_takenValue := by decide +kernel
  have i2 : ∀ w ∈ u_ws RX1 TX1 17, w ∈ wsX0_takenValue := by decide +kernel
  refine w_aload_n C 0 dX0_takenValue_0 rfl rfl (by first | rfl | exact isRef_rf _) ?_
  refine w_getRs (ci := 1) (k := 0) (f := 32) C rfl i1 (by decide +kernel) (by decide) (by decide) rfl rfl dX0_takenValue_1 ha hf ?_
  refine w_getI (ci := 2) (k := 5) (f := 69) C rfl i2 (by decide +kernel) (by decide) (by decide) rfl rfl dX0_takenValue_4 hg rfl ?_
  refine w_iconst (v := 2) C dX0_takenValue_7 (by decide) ?_
  refine w_icmp_ne (tgt := 13) C dX0_takenValue_8 (by decide) (fun c1 => ?_) (fun c1 => ?_)
  · refine w_aload_n C 0 dX0_takenValue_13 rfl rfl (by first | rfl | exact isRef_rf _) ?_
    refine w_getI (ci := 1) (k := 1) (f := 33) C rfl i1 (by decide +kernel) (by decide) (by decide) rfl rfl dX0_takenValue_14 ha rfl ?_
    refine w_if_eq (tgt := 32) C dX0_takenValue_17 (by decide) (fun c2 => ?_) (fun c2 => ?_)
    · refine w_aload_n C 0 dX0_takenValue_32 rfl rfl (by first | rfl | exact isRef_rf _) ?_
      refine w_getRs (ci := 1) (k := 0) (f := 32) C rfl i1 (by decide +kernel) (by decide) (by decide) rfl rfl dX0_takenValue_33 ha hf ?_
      refine w_getI (ci := 2) (k := 5) (f := 69) C rfl i2 (by decide +kernel) (by decide) (by decide) rfl rfl dX0_takenValue_36 hg rfl ?_
      exact w_iret C dX0_takenValue_39 ⟨by simp [tkv, c1, c2], rfl⟩
    · refine w_iconst (v := 1) C dX0_takenValue_20 (by decide) ?_
      refine w_aload_n C 0 dX0_takenValue_21 rfl rfl (by first | rfl | exact isRef_rf _) ?_
      refine w_getRs (ci := 1) (k := 0) (f := 32) C rfl i1 (by decide +kernel) (by decide) (by decide) rfl rfl dX0_takenValue_22 ha hf ?_
      refine w_getI (ci := 2) (k := 5) (f := 69) C rfl i2 (by decide +kernel) (by decide) (by decide) rfl rfl dX0_takenValue_25 hg rfl ?_
      refine w_isub C dX0_takenValue_28 ?_
      refine w_goto (tgt := 39) C dX0_takenValue_29 (by decide) ?_
      exact w_iret C dX0_takenValue_39 ⟨by simp [tkv, c1, c2], rfl⟩
  · refine w_iconst (v := 2) C dX0_takenValue_11 (by decide) ?_
    exact w_iret C dX0_takenValue_12 ⟨by simp [tkv, c1], rfl⟩
set_option maxHeartbeats 4000000 in
set_option maxRecDepth 100000 in
theorem c_valueBefore (l : Launch) (G : Gx) (z : Sto) {a g : Nat} {k : Int32} (ha : is z a 1) (hf : sR z 32 a = some g) (hg : is z g 2) : Ct l yX0_valueBefore wsX0_valueBefore ({ frames := 1, cells := 0, slots := 0, locals := 20 } : Room) G z [.ref a, .int k] (fun rv z' => rv = some (.int (vbf z k (g, sI z 33 a))) ∧ z' = z) := by
  refine ct_of (cc := cX0_valueBefore) (maxL := 2) (ret := (some .int)) (lv0 := [(0, .ref a), (1, .int k)]) (by decide) rfl (by simp [lg_sl, cat_ref, cat_null, cat_int, cat_long, rf_cat]) (by simp [lv_args, cat_ref, cat_null, cat_int, cat_long, rf_cat]) ?_
  intro p e s m args below meth c C hin
  have i1 : ∀ w ∈ u_ws RX0 TX0 3, w ∈ wsX0_valueBefore := by decide +kernel
  have i2 : ∀ w ∈ u_ws RX1 TX1 17, w ∈ wsX0_valueBefore := by decide +kernel
  refine w_aload_n C 0 dX0_valueBefore_0 rfl rfl (by first | rfl | exact isRef_rf _) ?_
  refine w_getRs (ci := 1) (k := 0) (f := 32) C rfl i1 (by decide +kernel) (by decide) (by decide) rfl rfl dX0_valueBefore_1 ha hf ?_
  refine w_getI (ci := 2) (k := 6) (f := 70) C rfl i2 (by decide +kernel) (by decide) (by decide) rfl rfl dX0_valueBefore_4 hg rfl ?_
  refine w_iload_n C 1 dX0_valueBefore_7 rfl rfl ?_
  refine w_icmp_ge (tgt := 18) C dX0_valueBefore_8 (by decide) (fun c1 => ?_) (fun c1 => ?_)
  · refine w_iconst (v := 2) C dX0_valueBefore_18 (by decide) ?_
    exact w_iret C dX0_valueBefore_19 ⟨by simp [vbf, c1], rfl⟩
  · refine w_aload_n C 0 dX0_valueBefore_11 rfl rfl (by first | rfl | exact isRef_rf _) ?_
    refine w_callV (ci := 1) (As := []) (rest := _) C (cwV 0 C.1.2.2.2.2 gX0_valueBefore_X0_takenValue rfl rfl rfl (by decide +kernel) ⟨Nat.le_of_ble_eq_true rfl, Nat.le_of_ble_eq_true rfl⟩) ha rfl (by decide) rfl rfl (by first | decide | simp [cat_ref, cat_null, cat_int, cat_long, rf_cat]) dX0_valueBefore_12 ⟨Nat.le_of_ble_eq_true rfl, Nat.le_of_ble_eq_true rfl⟩ (c_takenValue l G z ha hf hg) (fun rv z1 h1 => ?_)
    obtain ⟨rfl, e1⟩ := h1
    replace e1 := e1.symm
    subst e1
    refine w_goto (tgt := 19) C dX0_valueBefore_15 (by decide) ?_
    exact w_iret C dX0_valueBefore_19 ⟨by simp [vbf, c1], rfl⟩
set_option maxHeartbeats 4000000 in
set_option maxRecDepth 100000 in
theorem c_takenOnes (l : Launch) (G : Gx) (z : Sto) {a g : Nat} (ha : is z a 1) (hf : sR z 32 a = some g) (hg : is z g 2) : Ct l yX0_takenOnes wsX0_takenOnes ({ frames := 0, cells := 0, slots := 0, locals := 0 } : Room) G z [.ref a] (fun rv z' => rv = some (.long (if sI z 33 a = 0 then sJ z 79 g else sJ z 80 g)) ∧ z' = z) := by
  refine ct_of (cc := cX0_takenOnes) (maxL := 1) (ret := (some .long)) (lv0 := [(0, .ref a)]) (by decide) rfl (by simp [lg_sl, cat_ref, cat_null, cat_int, cat_long, rf_cat]) (by simp [lv_args, cat_ref, cat_null, cat_int, cat_long, rf_cat]) ?_
  intro p e s m args below meth c C hin
  have i1 : ∀ w ∈ u_ws RX0 TX0 3, w ∈ wsX0_takenOnes := by decide +kernel
  have i2 : ∀ w ∈ u_ws RX1 TX1 17, w ∈ wsX0_takenOnes := by decide +kernel
  refine w_aload_n C 0 dX0_takenOnes_0 rfl rfl (by first | rfl | exact isRef_rf _) ?_
  refine w_getI (ci := 1) (k := 1) (f := 33) C rfl i1 (by decide +kernel) (by decide) (by decide) rfl rfl dX0_takenOnes_1 ha rfl ?_
  refine w_if_eq (tgt := 17) C dX0_takenOnes_4 (by decide) (fun c1 => ?_) (fun c1 => ?_)
  · refine w_aload_n C 0 dX0_takenOnes_17 rfl rfl (by first | rfl | exact isRef_rf _) ?_
    refine w_getRs (ci := 1) (k := 0) (f := 32) C rfl i1 (by decide +kernel) (by decide) (by decide) rfl rfl dX0_takenOnes_18 ha hf ?_
    refine w_getJ (ci := 2) (k := 15) (f := 79) C rfl i2 (by decide +kernel) (by decide) (by decide) rfl rfl dX0_takenOnes_21 hg rfl ?_
    exact w_lret C dX0_takenOnes_24 ⟨by simp [c1], rfl⟩
  · refine w_aload_n C 0 dX0_takenOnes_7 rfl rfl (by first | rfl | exact isRef_rf _) ?_
    refine w_getRs (ci := 1) (k := 0) (f := 32) C rfl i1 (by decide +kernel) (by decide) (by decide) rfl rfl dX0_takenOnes_8 ha hf ?_
    refine w_getJ (ci := 2) (k := 16) (f := 80) C rfl i2 (by decide +kernel) (by decide) (by decide) rfl rfl dX0_takenOnes_11 hg rfl ?_
    refine w_goto (tgt := 24) C dX0_takenOnes_14 (by decide) ?_
    exact w_lret C dX0_takenOnes_24 ⟨by simp [c1], rfl⟩
set_option maxHeartbeats 4000000 in
set_option maxRecDepth 100000 in
theorem c_takenZeros (l : Launch) (G : Gx) (z : Sto) {a g : Nat} (ha : is z a 1) (hf : sR z 32 a = some g) (hg : is z g 2) : Ct l yX0_takenZeros wsX0_takenZeros ({ frames := 0, cells := 0, slots := 0, locals := 0 } : Room) G z [.ref a] (fun rv z' => rv = some (.long (if sI z 33 a = 0 then sJ z 80 g else sJ z 79 g)) ∧ z' = z) := by
  refine ct_of (cc := cX0_takenZeros) (maxL := 1) (ret := (some .long)) (lv0 := [(0, .ref a)]) (by decide) rfl (by simp [lg_sl, cat_ref, cat_null, cat_int, cat_long, rf_cat]) (by simp [lv_args, cat_ref, cat_null, cat_int, cat_long, rf_cat]) ?_
  intro p e s m args below meth c C hin
  have i1 : ∀ w ∈ u_ws RX0 TX0 3, w ∈ wsX0_takenZeros := by decide +kernel
  have i2 : ∀ w ∈ u_ws RX1 TX1 17, w ∈ wsX0_takenZeros := by decide +kernel
  refine w_aload_n C 0 dX0_takenZeros_0 rfl rfl (by first | rfl | exact isRef_rf _) ?_
  refine w_getI (ci := 1) (k := 1) (f := 33) C rfl i1 (by decide +kernel) (by decide) (by decide) rfl rfl dX0_takenZeros_1 ha rfl ?_
  refine w_if_eq (tgt := 17) C dX0_takenZeros_4 (by decide) (fun c1 => ?_) (fun c1 => ?_)
  · refine w_aload_n C 0 dX0_takenZeros_17 rfl rfl (by first | rfl | exact isRef_rf _) ?_
    refine w_getRs (ci := 1) (k := 0) (f := 32) C rfl i1 (by decide +kernel) (by decide) (by decide) rfl rfl dX0_takenZeros_18 ha hf ?_
    refine w_getJ (ci := 2) (k := 16) (f := 80) C rfl i2 (by decide +kernel) (by decide) (by decide) rfl rfl dX0_takenZeros_21 hg rfl ?_
    exact w_lret C dX0_takenZeros_24 ⟨by simp [c1], rfl⟩
  · refine w_aload_n C 0 dX0_takenZeros_7 rfl rfl (by first | rfl | exact isRef_rf _) ?_
    refine w_getRs (ci := 1) (k := 0) (f := 32) C rfl i1 (by decide +kernel) (by decide) (by decide) rfl rfl dX0_takenZeros_8 ha hf ?_
    refine w_getJ (ci := 2) (k := 15) (f := 79) C rfl i2 (by decide +kernel) (by decide) (by decide) rfl rfl dX0_takenZeros_11 hg rfl ?_
    refine w_goto (tgt := 24) C dX0_takenZeros_14 (by decide) ?_
    exact w_lret C dX0_takenZeros_24 ⟨by simp [c1], rfl⟩
set_option maxHeartbeats 4000000 in
set_option maxRecDepth 100000 in
theorem c_canBeFed (l : Launch) (G : Gx) (z : Sto) {a : Nat} (ha : is z a 2) : Ct l yX1_canBeFed wsX1_canBeFed ({ frames := 1, cells := 0, slots := 0, locals := 20 } : Room) G z [.ref a] (fun rv z' => rv = some (.int (bI (isLog (sI z 65 a) || (decide (sI z 65 a = 1) && decide (sI z 67 a = 0))))) ∧ z' = z) := by
  refine ct_of (cc := cX1_canBeFed) (maxL := 1) (ret := (some .boolean)) (lv0 := [(0, .ref a)]) (by decide) rfl (by simp [lg_sl, cat_ref, cat_null, cat_int, cat_long, rf_cat]) (by simp [lv_args, cat_ref, cat_null, cat_int, cat_long, rf_cat]) ?_
  intro p e s m args below meth c C hin
  have i2 : ∀ w ∈ u_ws RX1 TX1 17, w ∈ wsX1_canBeFed := by decide +kernel
  refine w_aload_n C 0 dX1_canBeFed_0 rfl rfl (by first | rfl | exact isRef_rf _) ?_
  refine w_callV (ci := 2) (As := []) (rest := _) C (cwV 0 C.1.2.2.2.2 gX1_canBeFed_X1_isLogic rfl rfl rfl (by decide +kernel) ⟨Nat.le_of_ble_eq_true rfl, Nat.le_of_ble_eq_true rfl⟩) ha rfl (by decide) rfl rfl (by first | decide | simp [cat_ref, cat_null, cat_int, cat_long, rf_cat]) dX1_canBeFed_1 ⟨Nat.le_of_ble_eq_true rfl, Nat.le_of_ble_eq_true rfl⟩ (c_isLogic l G z ha) (fun rv z1 h1 => ?_)
  obtain ⟨rfl, e1⟩ := h1
  replace e1 := e1.symm
  subst e1
  refine w_if_ne (tgt := 22) C dX1_canBeFed_4 (by decide) (fun c1 => ?_) (fun c1 => ?_)
  · refine w_iconst (v := 1) C dX1_canBeFed_22 (by decide) ?_
    refine w_goto (tgt := 27) C dX1_canBeFed_23 (by decide) ?_
    exact w_zret C dX1_canBeFed_27 (by first | rfl | assumption) ⟨by simp_all [bI], rfl⟩
  · refine w_aload_n C 0 dX1_canBeFed_7 rfl rfl (by first | rfl | exact isRef_rf _) ?_
    refine w_getI (ci := 2) (k := 1) (f := 65) C rfl i2 (by decide +kernel) (by decide) (by decide) rfl rfl dX1_canBeFed_8 ha rfl ?_
    refine w_iconst (v := 1) C dX1_canBeFed_11 (by decide) ?_
    refine w_icmp_ne (tgt := 26) C dX1_canBeFed_12 (by decide) (fun c2 => ?_) (fun c2 => ?_)
    · refine w_iconst (v := 0) C dX1_canBeFed_26 (by decide) ?_
      exact w_zret C dX1_canBeFed_27 (by first | rfl | assumption) ⟨by simp_all [bI], rfl⟩
    · refine w_aload_n C 0 dX1_canBeFed_15 rfl rfl (by first | rfl | exact isRef_rf _) ?_
      refine w_getI (ci := 2) (k := 3) (f := 67) C rfl i2 (by decide +kernel) (by decide) (by decide) rfl rfl dX1_canBeFed_16 ha rfl ?_
      refine w_if_ne (tgt := 26) C dX1_canBeFed_19 (by decide) (fun c3 => ?_) (fun c3 => ?_)
      · refine w_iconst (v := 0) C dX1_canBeFed_26 (by decide) ?_
        exact w_zret C dX1_canBeFed_27 (by first | rfl | assumption) ⟨by simp_all [bI], rfl⟩
      · refine w_iconst (v := 1) C dX1_canBeFed_22 (by decide) ?_
        refine w_goto (tgt := 27) C dX1_canBeFed_23 (by decide) ?_
        exact w_zret C dX1_canBeFed_27 (by first | rfl | assumption) ⟨by simp_all [bI], rfl⟩
set_option maxHeartbeats 4000000 in
set_option maxRecDepth 100000 in
theorem c_dropFeeds (l : Launch) (G : Gx) (z : Sto) {a : Nat} (ha : is z a 2) : Ct l yX1_dropFeeds wsX1_dropFeeds ({ frames := 0, cells := 0, slots := 0, locals := 0 } : Room) G z [.ref a] (fun rv z' => rv = some (.int (sI z 67 a)) ∧ z' = putI (putR z 66 a none) 67 a 0) := by
  refine ct_of (cc := cX1_dropFeeds) (maxL := 2) (ret := (some .int)) (lv0 := [(0, .ref a)]) (by decide) rfl (by simp [lg_sl, cat_ref, cat_null, cat_int, cat_long, rf_cat]) (by simp [lv_args, cat_ref, cat_null, cat_int, cat_long, rf_cat]) ?_
  intro p e s m args below meth c C hin
  have i2 : ∀ w ∈ u_ws RX1 TX1 17, w ∈ wsX1_dropFeeds := by decide +kernel
  refine w_aload_n C 0 dX1_dropFeeds_0 rfl rfl (by first | rfl | exact isRef_rf _) ?_
  refine w_getI (ci := 2) (k := 3) (f := 67) C rfl i2 (by decide +kernel) (by decide) (by decide) rfl rfl dX1_dropFeeds_1 ha rfl ?_
  refine w_istore_nB (lvq := [(1, _), (0, _)]) C 0 rfl rfl (by first | rfl | exact rf_cat _) dX1_dropFeeds_4 rfl (by decide) rfl ?_
  refine w_aload_n C 1 dX1_dropFeeds_5 rfl rfl (by first | rfl | exact isRef_rf _) ?_
  refine w_null C dX1_dropFeeds_6 ?_
  refine w_putR (ci := 2) (k := 2) (f := 66) (v := none) C rfl i2 (by decide +kernel) (by decide) (by decide) rfl rfl tyX1 tyX1_ok nmX1 rfl (by first | rfl | exact nar_rf _ _ | exact nar_ra _ _) (by first | rfl | exact fit_rf _ _ | exact fit_ra _ _) dX1_dropFeeds_7 ha ?_
  refine w_aload_n C 1 dX1_dropFeeds_10 rfl rfl (by first | rfl | exact isRef_rf _) ?_
  refine w_iconst (v := 0) C dX1_dropFeeds_11 (by decide) ?_
  refine w_putI (ci := 2) (k := 3) (f := 67) C rfl i2 (by decide +kernel) (by decide) (by decide) rfl rfl tyX1 tyX1_ok nmX1 rfl rfl rfl dX1_dropFeeds_12 (is_R ha) ?_
  refine w_iload_n C 0 dX1_dropFeeds_15 rfl rfl ?_
  exact w_iret C dX1_dropFeeds_16 ⟨rfl, rfl⟩
