/-! ===== Gate: the rest ===== -/
/-- the least unknown one of the feeding gates -/
def luf (z : Sto) : List (Nat × Int32) → Int32 → Int32
  | [], le => le
  | x :: tl, le => luf z tl (if sI z 69 x.1 = 2 ∧ (le = -1 ∨ sI z 64 x.1 < le) then sI z 64 x.1 else le)
/-- lanes as taken -/
def tk1 (z : Sto) (x : Nat × Int32) : Int64 := if x.2 = 0 then sJ z 79 x.1 else sJ z 80 x.1
def tk0 (z : Sto) (x : Nat × Int32) : Int64 := if x.2 = 0 then sJ z 80 x.1 else sJ z 79 x.1
def laA (t : Nat × Int32 → Int64) : List (Nat × Int32) → Int64 → Int64
  | [], v => v
  | x :: tl, v => laA t tl (v &&& t x)
def laO (t : Nat × Int32 → Int64) : List (Nat × Int32) → Int64 → Int64
  | [], v => v
  | x :: tl, v => laO t tl (v ||| t x)
set_option maxHeartbeats 4000000 in
set_option maxRecDepth 100000 in
theorem c_becomesKnown (l : Launch) (G : Gx) (z : Sto) {a : Nat} {k : Int32} {fl : List (Nat × Int32)} (ha : is z a 2) (hfl : chn z (sR z 66 a) fl) : Ct l yX1_becomesKnown wsX1_becomesKnown ({ frames := 3, cells := 0, slots := 0, locals := 66 } : Room) G z [.ref a, .int k] (fun rv z' => (isLog (sI z 65 a) = false ∧ rv = some (.int 0) ∧ z' = z) ∨ (isLog (sI z 65 a) = true ∧ (((vff (vbf z k) (if sI z 65 a = 2 then 0 else 1) fl true) = 2 ∧ rv = some (.int 0) ∧ z' = putI z 69 a (vff (vbf z k) (if sI z 65 a = 2 then 0 else 1) fl true)) ∨ (¬ (vff (vbf z k) (if sI z 65 a = 2 then 0 else 1) fl true) = 2 ∧ rv = some (.int 1) ∧ z' = putI (putI z 69 a (vff (vbf z k) (if sI z 65 a = 2 then 0 else 1) fl true)) 70 a k)))) := by
  refine ct_of (cc := cX1_becomesKnown) (maxL := 2) (ret := (some .boolean)) (lv0 := [(0, .ref a), (1, .int k)]) (by decide) rfl (by simp [lg_sl, cat_ref, cat_null, cat_int, cat_long, rf_cat]) (by simp [lv_args, cat_ref, cat_null, cat_int, cat_long, rf_cat]) ?_
  intro p e s m args below meth c C hin
  have i2 : ∀ w ∈ u_ws RX1 TX1 17, w ∈ wsX1_becomesKnown := by decide +kernel
  refine w_aload_n C 0 dX1_becomesKnown_0 rfl rfl (by first | rfl | exact isRef_rf _) ?_
  refine w_callV (ci := 2) (As := []) (rest := _) C (cwV 0 C.1.2.2.2.2 gX1_becomesKnown_X1_isLogic rfl rfl rfl (by decide +kernel) ⟨Nat.le_of_ble_eq_true rfl, Nat.le_of_ble_eq_true rfl⟩) ha rfl (by decide) rfl rfl (by first | decide | simp [cat_ref, cat_null, cat_int, cat_long, rf_cat]) dX1_becomesKnown_1 ⟨Nat.le_of_ble_eq_true rfl, Nat.le_of_ble_eq_true rfl⟩ (c_isLogic l G z ha) (fun rv z1 h1 => ?_)
  obtain ⟨rfl, e1⟩ := h1
  replace e1 := e1.symm
  subst e1
  refine w_if_ne (tgt := 9) C dX1_becomesKnown_4 (by decide) (fun c1 => ?_) (fun c1 => ?_)
  · have c9 : isLog (sI z 65 a) = true := by cases h9 : isLog (sI z 65 a) with | true => rfl | false => exact absurd (by rw [h9]; rfl) c1
    refine w_aload_n C 0 dX1_becomesKnown_9 rfl rfl (by first | rfl | exact isRef_rf _) ?_
    refine w_aload_n C 0 dX1_becomesKnown_10 rfl rfl (by first | rfl | exact isRef_rf _) ?_
    refine w_iload_n C 1 dX1_becomesKnown_11 rfl rfl ?_
    refine w_callV (ci := 2) (As := [.int k]) (rest := [.ref a]) C (cwV 1 C.1.2.2.2.2 gX1_becomesKnown_X1_valueFromFeeds rfl rfl rfl (by decide +kernel) ⟨Nat.le_of_ble_eq_true rfl, Nat.le_of_ble_eq_true rfl⟩) ha rfl (by decide) rfl rfl (by first | decide | simp [cat_ref, cat_null, cat_int, cat_long, rf_cat]) dX1_becomesKnown_12 ⟨Nat.le_of_ble_eq_true rfl, Nat.le_of_ble_eq_true rfl⟩ (c_valueFromFeeds l G z (k := k) ha hfl) (fun rv z1 h1 => ?_)
    obtain ⟨rfl, e1⟩ := h1
    replace e1 := e1.symm
    subst e1
    refine w_putI (ci := 2) (k := 5) (f := 69) C rfl i2 (by decide +kernel) (by decide) (by decide) rfl rfl tyX1 tyX1_ok nmX1 rfl rfl rfl dX1_becomesKnown_15 ha ?_
    refine w_aload_n C 0 dX1_becomesKnown_18 rfl rfl (by first | rfl | exact isRef_rf _) ?_
    refine w_getI (ci := 2) (k := 5) (f := 69) C rfl i2 (by decide +kernel) (by decide) (by decide) rfl rfl dX1_becomesKnown_19 (is_I ha) rI_Is ?_
    refine w_iconst (v := 2) C dX1_becomesKnown_22 (by decide) ?_
    refine w_icmp_ne (tgt := 28) C dX1_becomesKnown_23 (by decide) (fun c2 => ?_) (fun c2 => ?_)
    · refine w_aload_n C 0 dX1_becomesKnown_28 rfl rfl (by first | rfl | exact isRef_rf _) ?_
      refine w_iload_n C 1 dX1_becomesKnown_29 rfl rfl ?_
      refine w_putI (ci := 2) (k := 6) (f := 70) C rfl i2 (by decide +kernel) (by decide) (by decide) rfl rfl tyX1 tyX1_ok nmX1 rfl rfl rfl dX1_becomesKnown_30 (is_I ha) ?_
      refine w_iconst (v := 1) C dX1_becomesKnown_33 (by decide) ?_
      exact w_zret C dX1_becomesKnown_34 (by first | rfl | assumption) (Or.inr ⟨c9, Or.inr ⟨c2, rfl, rfl⟩⟩)
    · refine w_iconst (v := 0) C dX1_becomesKnown_26 (by decide) ?_
      exact w_zret C dX1_becomesKnown_27 (by first | rfl | assumption) (Or.inr ⟨c9, Or.inl ⟨c2, rfl, rfl⟩⟩)
  · refine w_iconst (v := 0) C dX1_becomesKnown_7 (by decide) ?_
    exact w_zret C dX1_becomesKnown_8 (by first | rfl | assumption) (Or.inl ⟨(bI_0 _).mp c1, rfl, rfl⟩)
set_option maxHeartbeats 4000000 in
set_option maxRecDepth 100000 in
theorem c_takeNextState (l : Launch) (G : Gx) (z : Sto) {a : Nat} (ha : is z a 2) (hfd : ∀ f, sR z 66 a = some f → ∃ g, is z f 1 ∧ sR z 32 f = some g ∧ is z g 2) : Ct l yX1_takeNextState wsX1_takeNextState ({ frames := 1, cells := 0, slots := 0, locals := 20 } : Room) G z [.ref a] (fun rv z' => ((¬ sI z 65 a = 1 ∨ sR z 66 a = none) ∧ rv = some (.int 0) ∧ z' = z) ∨ (∃ f g, sI z 65 a = 1 ∧ sR z 66 a = some f ∧ sR z 32 f = some g ∧ rv = some (.int (bI (!decide (tkv (sI z 69 g) (sI z 33 f) = sI z 69 a)))) ∧ z' = putI z 68 a (tkv (sI z 69 g) (sI z 33 f)))) := by
  refine ct_of (cc := cX1_takeNextState) (maxL := 1) (ret := (some .boolean)) (lv0 := [(0, .ref a)]) (by decide) rfl (by simp [lg_sl, cat_ref, cat_null, cat_int, cat_long, rf_cat]) (by simp [lv_args, cat_ref, cat_null, cat_int, cat_long, rf_cat]) ?_
  intro p e s m args below meth c C hin
  have i2 : ∀ w ∈ u_ws RX1 TX1 17, w ∈ wsX1_takeNextState := by decide +kernel
  refine w_aload_n C 0 dX1_takeNextState_0 rfl rfl (by first | rfl | exact isRef_rf _) ?_
  refine w_getI (ci := 2) (k := 1) (f := 65) C rfl i2 (by decide +kernel) (by decide) (by decide) rfl rfl dX1_takeNextState_1 ha rfl ?_
  refine w_iconst (v := 1) C dX1_takeNextState_4 (by decide) ?_
  refine w_icmp_ne (tgt := 15) C dX1_takeNextState_5 (by decide) (fun c1 => ?_) (fun c1 => ?_)
  · refine w_iconst (v := 0) C dX1_takeNextState_15 (by decide) ?_
    exact w_zret C dX1_takeNextState_16 (by first | rfl | assumption) (Or.inl ⟨by first | exact Or.inl c1 | exact Or.inr c2, rfl, rfl⟩)
  · refine w_aload_n C 0 dX1_takeNextState_8 rfl rfl (by first | rfl | exact isRef_rf _) ?_
    refine w_getR (ci := 2) (k := 2) (f := 66) C rfl i2 (by decide +kernel) (by decide) (by decide) rfl rfl dX1_takeNextState_9 ha rfl ?_
    refine w_ifnonnull (tgt := 17) C dX1_takeNextState_12 (by decide) (fun a12 c2 => ?_) (fun c2 => ?_)
    · obtain ⟨g, hfa, hfr, hg⟩ := hfd _ c2
      refine w_aload_n C 0 dX1_takeNextState_17 rfl rfl (by first | rfl | exact isRef_rf _) ?_
      refine w_aload_n C 0 dX1_takeNextState_18 rfl rfl (by first | rfl | exact isRef_rf _) ?_
      refine w_getRs (ci := 2) (k := 2) (f := 66) C rfl i2 (by decide +kernel) (by decide) (by decide) rfl rfl dX1_takeNextState_19 ha c2 ?_
      refine w_callV (ci := 1) (As := []) (rest := [.ref a]) C (cwV 0 C.1.2.2.2.2 gX1_takeNextState_X0_takenValue rfl rfl rfl (by decide +kernel) ⟨Nat.le_of_ble_eq_true rfl, Nat.le_of_ble_eq_true rfl⟩) hfa rfl (by decide) rfl rfl (by first | decide | simp [cat_ref, cat_null, cat_int, cat_long, rf_cat]) dX1_takeNextState_22 ⟨Nat.le_of_ble_eq_true rfl, Nat.le_of_ble_eq_true rfl⟩ (c_takenValue l G z hfa hfr hg) (fun rv z1 h1 => ?_)
      obtain ⟨rfl, e1⟩ := h1
      replace e1 := e1.symm
      subst e1
      refine w_putI (ci := 2) (k := 4) (f := 68) C rfl i2 (by decide +kernel) (by decide) (by decide) rfl rfl tyX1 tyX1_ok nmX1 rfl rfl rfl dX1_takeNextState_25 ha ?_
      refine w_aload_n C 0 dX1_takeNextState_28 rfl rfl (by first | rfl | exact isRef_rf _) ?_
      refine w_getI (ci := 2) (k := 4) (f := 68) C rfl i2 (by decide +kernel) (by decide) (by decide) rfl rfl dX1_takeNextState_29 (is_I ha) rI_Is ?_
      refine w_aload_n C 0 dX1_takeNextState_32 rfl rfl (by first | rfl | exact isRef_rf _) ?_
      refine w_getI (ci := 2) (k := 5) (f := 69) C rfl i2 (by decide +kernel) (by decide) (by decide) rfl rfl dX1_takeNextState_33 (is_I ha) (rI_If (by decide) rfl) ?_
      refine w_icmp_eq (tgt := 43) C dX1_takeNextState_36 (by decide) (fun c3 => ?_) (fun c3 => ?_)
      · refine w_iconst (v := 0) C dX1_takeNextState_43 (by decide) ?_
        exact w_zret C dX1_takeNextState_44 (by first | rfl | assumption) (Or.inr ⟨a12, g, c1, c2, hfr, by simp [c3, bI], rfl⟩)
      · refine w_iconst (v := 1) C dX1_takeNextState_39 (by decide) ?_
        refine w_goto (tgt := 44) C dX1_takeNextState_40 (by decide) ?_
        exact w_zret C dX1_takeNextState_44 (by first | rfl | assumption) (Or.inr ⟨a12, g, c1, c2, hfr, by simp [c3, bI], rfl⟩)
    · refine w_iconst (v := 0) C dX1_takeNextState_15 (by decide) ?_
      exact w_zret C dX1_takeNextState_16 (by first | rfl | assumption) (Or.inl ⟨by first | exact Or.inl c1 | exact Or.inr c2, rfl, rfl⟩)
set_option maxHeartbeats 4000000 in
set_option maxRecDepth 100000 in
theorem c_leastUnknownFeed (l : Launch) (G : Gx) (z : Sto) {a : Nat} {fl : List (Nat × Int32)} (ha : is z a 2) (hfl : chn z (sR z 66 a) fl) : Ct l yX1_leastUnknownFeed wsX1_leastUnknownFeed ({ frames := 0, cells := 0, slots := 0, locals := 0 } : Room) G z [.ref a] (fun rv z' => rv = some (.int (luf z fl (-1))) ∧ z' = z) := by
  refine ct_of (cc := cX1_leastUnknownFeed) (maxL := 3) (ret := (some .int)) (lv0 := [(0, .ref a)]) (by decide) rfl (by simp [lg_sl, cat_ref, cat_null, cat_int, cat_long, rf_cat]) (by simp [lv_args, cat_ref, cat_null, cat_int, cat_long, rf_cat]) ?_
  intro p e s m args below meth c C hin
  have i1 : ∀ w ∈ u_ws RX0 TX0 3, w ∈ wsX1_leastUnknownFeed := by decide +kernel
  have i2 : ∀ w ∈ u_ws RX1 TX1 17, w ∈ wsX1_leastUnknownFeed := by decide +kernel
  have loop : ∀ (tl : List (Nat × Int32)) (r : Option Nat) (le : Int32), chn z r tl → luf z tl le = luf z fl (-1) → Wp p l e ({ frames := 0, cells := 0, slots := 0, locals := 0 } : Room) s m args below meth c G 3 0 0 (MQ below (cPost G (fun rv z' => rv = some (.int (luf z fl (-1))) ∧ z' = z)) args s 0 0 (gA G)) z 7 [(2, va_rf r), (1, .int le), (0, .ref a)] [] := by
    intro tl
    induction tl with
    | nil =>
      intro r le hc hres
      cases hc
      refine w_aload_n C 0 dX1_leastUnknownFeed_7 rfl rfl (by first | rfl | exact isRef_rf _) ?_
      refine w_ifnull (tgt := 54) C dX1_leastUnknownFeed_8 (by decide) (fun c1 => ?_) (fun a8 c1 => ?_)
      · refine w_iload_n C 1 dX1_leastUnknownFeed_54 rfl rfl ?_
        exact w_iret C dX1_leastUnknownFeed_55 ⟨by rw [← hres]; rfl, rfl⟩
      · cases c1
    | cons x tl ih =>
      intro r le hc hres
      obtain ⟨fa, rfl, hfa, hfr, hg, hng, htl⟩ := hc
      refine w_aload_n C 0 dX1_leastUnknownFeed_7 rfl rfl (by first | rfl | exact isRef_rf _) ?_
      refine w_ifnull (tgt := 54) C dX1_leastUnknownFeed_8 (by decide) (fun c1 => ?_) (fun a8 c1 => ?_)
      · cases c1
      · refine w_aload_n C 0 dX1_leastUnknownFeed_11 rfl rfl (by first | rfl | exact isRef_rf _) ?_
        refine w_getRs (ci := 1) (k := 0) (f := 32) C rfl i1 (by decide +kernel) (by decide) (by decide) rfl rfl dX1_leastUnknownFeed_12 hfa hfr ?_
        refine w_getI (ci := 2) (k := 5) (f := 69) C rfl i2 (by decide +kernel) (by decide) (by decide) rfl rfl dX1_leastUnknownFeed_15 hg rfl ?_
        refine w_iconst (v := 2) C dX1_leastUnknownFeed_18 (by decide) ?_
        refine w_icmp_ne (tgt := 46) C dX1_leastUnknownFeed_19 (by decide) (fun c2 => ?_) (fun c2 => ?_)
        · refine w_aload_n C 0 dX1_leastUnknownFeed_46 rfl rfl (by first | rfl | exact isRef_rf _) ?_
          refine w_getR (ci := 1) (k := 2) (f := 34) C rfl i1 (by decide +kernel) (by decide) (by decide) rfl rfl dX1_leastUnknownFeed_47 hfa rfl ?_
          refine w_astore_nB (lvq := [(2, _), (1, _), (0, _)]) C 1 rfl rfl (by first | rfl | exact rf_cat _) dX1_leastUnknownFeed_50 rfl (by first | rfl | exact isRef_rf _) (by decide) rfl ?_
          refine w_goto (tgt := 7) C dX1_leastUnknownFeed_51 (by decide) ?_
          exact w_sub [0, 1, 2] rfl (ih _ _ htl (by rw [← hres]; simp only [luf]; congr 1; first | (simp [*]; done) | (simp [*, Int32.not_lt.mpr c4]; done) | (simp [*, Int32.not_le.mp c4]; done)))
        · refine w_iload_n C 1 dX1_leastUnknownFeed_22 rfl rfl ?_
          refine w_iconst (v := (-1)) C dX1_leastUnknownFeed_23 (by decide) ?_
          refine w_icmp_eq (tgt := 38) C dX1_leastUnknownFeed_24 (by decide) (fun c3 => ?_) (fun c3 => ?_)
          · refine w_aload_n C 0 dX1_leastUnknownFeed_38 rfl rfl (by first | rfl | exact isRef_rf _) ?_
            refine w_getRs (ci := 1) (k := 0) (f := 32) C rfl i1 (by decide +kernel) (by decide) (by decide) rfl rfl dX1_leastUnknownFeed_39 hfa hfr ?_
            refine w_getI (ci := 2) (k := 0) (f := 64) C rfl i2 (by decide +kernel) (by decide) (by decide) rfl rfl dX1_leastUnknownFeed_42 hg rfl ?_
            refine w_istore_nB (lvq := [(1, _), (2, _), (0, _)]) C 2 rfl rfl (by first | rfl | exact rf_cat _) dX1_leastUnknownFeed_45 rfl (by decide) rfl ?_
            refine w_aload_n C 1 dX1_leastUnknownFeed_46 rfl rfl (by first | rfl | exact isRef_rf _) ?_
            refine w_getR (ci := 1) (k := 2) (f := 34) C rfl i1 (by decide +kernel) (by decide) (by decide) rfl rfl dX1_leastUnknownFeed_47 hfa rfl ?_
            refine w_astore_nB (lvq := [(2, _), (1, _), (0, _)]) C 0 rfl rfl (by first | rfl | exact rf_cat _) dX1_leastUnknownFeed_50 rfl (by first | rfl | exact isRef_rf _) (by decide) rfl ?_
            refine w_goto (tgt := 7) C dX1_leastUnknownFeed_51 (by decide) ?_
            exact w_sub [0, 1, 2] rfl (ih _ _ htl (by rw [← hres]; simp only [luf]; congr 1; first | (simp [*]; done) | (simp [*, Int32.not_lt.mpr c4]; done) | (simp [*, Int32.not_le.mp c4]; done)))
          · refine w_aload_n C 0 dX1_leastUnknownFeed_27 rfl rfl (by first | rfl | exact isRef_rf _) ?_
            refine w_getRs (ci := 1) (k := 0) (f := 32) C rfl i1 (by decide +kernel) (by decide) (by decide) rfl rfl dX1_leastUnknownFeed_28 hfa hfr ?_
            refine w_getI (ci := 2) (k := 0) (f := 64) C rfl i2 (by decide +kernel) (by decide) (by decide) rfl rfl dX1_leastUnknownFeed_31 hg rfl ?_
            refine w_iload_n C 1 dX1_leastUnknownFeed_34 rfl rfl ?_
            refine w_icmp_ge (tgt := 46) C dX1_leastUnknownFeed_35 (by decide) (fun c4 => ?_) (fun c4 => ?_)
            · refine w_aload_n C 0 dX1_leastUnknownFeed_46 rfl rfl (by first | rfl | exact isRef_rf _) ?_
              refine w_getR (ci := 1) (k := 2) (f := 34) C rfl i1 (by decide +kernel) (by decide) (by decide) rfl rfl dX1_leastUnknownFeed_47 hfa rfl ?_
              refine w_astore_nB (lvq := [(2, _), (1, _), (0, _)]) C 1 rfl rfl (by first | rfl | exact rf_cat _) dX1_leastUnknownFeed_50 rfl (by first | rfl | exact isRef_rf _) (by decide) rfl ?_
              refine w_goto (tgt := 7) C dX1_leastUnknownFeed_51 (by decide) ?_
              exact w_sub [0, 1, 2] rfl (ih _ _ htl (by rw [← hres]; simp only [luf]; congr 1; first | (simp [*]; done) | (simp [*, Int32.not_lt.mpr c4]; done) | (simp [*, Int32.not_le.mp c4]; done)))
            · refine w_aload_n C 0 dX1_leastUnknownFeed_38 rfl rfl (by first | rfl | exact isRef_rf _) ?_
              refine w_getRs (ci := 1) (k := 0) (f := 32) C rfl i1 (by decide +kernel) (by decide) (by decide) rfl rfl dX1_leastUnknownFeed_39 hfa hfr ?_
              refine w_getI (ci := 2) (k := 0) (f := 64) C rfl i2 (by decide +kernel) (by decide) (by decide) rfl rfl dX1_leastUnknownFeed_42 hg rfl ?_
              refine w_istore_nB (lvq := [(1, _), (2, _), (0, _)]) C 2 rfl rfl (by first | rfl | exact rf_cat _) dX1_leastUnknownFeed_45 rfl (by decide) rfl ?_
              refine w_aload_n C 1 dX1_leastUnknownFeed_46 rfl rfl (by first | rfl | exact isRef_rf _) ?_
              refine w_getR (ci := 1) (k := 2) (f := 34) C rfl i1 (by decide +kernel) (by decide) (by decide) rfl rfl dX1_leastUnknownFeed_47 hfa rfl ?_
              refine w_astore_nB (lvq := [(2, _), (1, _), (0, _)]) C 0 rfl rfl (by first | rfl | exact rf_cat _) dX1_leastUnknownFeed_50 rfl (by first | rfl | exact isRef_rf _) (by decide) rfl ?_
              refine w_goto (tgt := 7) C dX1_leastUnknownFeed_51 (by decide) ?_
              exact w_sub [0, 1, 2] rfl (ih _ _ htl (by rw [← hres]; simp only [luf]; congr 1; first | (simp [*]; done) | (simp [*, Int32.not_lt.mpr c4]; done) | (simp [*, Int32.not_le.mp c4]; done)))
  refine w_iconst (v := (-1)) C dX1_leastUnknownFeed_0 (by decide) ?_
  refine w_istore_nB (lvq := [(1, _), (0, _)]) C 0 rfl rfl (by first | rfl | exact rf_cat _) dX1_leastUnknownFeed_1 rfl (by decide) rfl ?_
  refine w_aload_n C 1 dX1_leastUnknownFeed_2 rfl rfl (by first | rfl | exact isRef_rf _) ?_
  refine w_getR (ci := 2) (k := 2) (f := 66) C rfl i2 (by decide +kernel) (by decide) (by decide) rfl rfl dX1_leastUnknownFeed_3 ha rfl ?_
  refine w_astore_nB (lvq := [(2, _), (1, _), (0, _)]) C 0 rfl rfl (by first | rfl | exact rf_cat _) dX1_leastUnknownFeed_6 rfl (by first | rfl | exact isRef_rf _) (by decide) rfl ?_
  exact w_sub [0, 1, 2] rfl (loop fl _ _ hfl rfl)
set_option maxHeartbeats 4000000 in
set_option maxRecDepth 100000 in
theorem c_takeLanesOfAnd (l : Launch) (G : Gx) (z : Sto) {a : Nat} {fl : List (Nat × Int32)} (ha : is z a 2) (hfl : chn z (sR z 66 a) fl) : Ct l yX1_takeLanesOfAnd wsX1_takeLanesOfAnd ({ frames := 1, cells := 0, slots := 0, locals := 20 } : Room) G z [.ref a] (fun rv z' => rv = none ∧ z' = putJ (putJ z 79 a (laA (tk1 z) fl (-1))) 80 a (laO (tk0 z) fl 0)) := by
  refine ct_of (cc := cX1_takeLanesOfAnd) (maxL := 6) (ret := none) (lv0 := [(0, .ref a)]) (by decide) rfl (by simp [lg_sl, cat_ref, cat_null, cat_int, cat_long, rf_cat]) (by simp [lv_args, cat_ref, cat_null, cat_int, cat_long, rf_cat]) ?_
  intro p e s m args below meth c C hin
  have i1 : ∀ w ∈ u_ws RX0 TX0 3, w ∈ wsX1_takeLanesOfAnd := by decide +kernel
  have i2 : ∀ w ∈ u_ws RX1 TX1 17, w ∈ wsX1_takeLanesOfAnd := by decide +kernel
  have loop : ∀ (tl : List (Nat × Int32)) (r : Option Nat) (x1 x3 : Int64), chn z r tl → laA (tk1 z) tl x1 = laA (tk1 z) fl (-1) → laO (tk0 z) tl x3 = laO (tk0 z) fl 0 → Wp p l e ({ frames := 1, cells := 0, slots := 0, locals := 20 } : Room) s m args below meth c G 6 0 0 (MQ below (cPost G (fun rv z' => rv = none ∧ z' = putJ (putJ z 79 a (laA (tk1 z) fl (-1))) 80 a (laO (tk0 z) fl 0))) args s 0 0 (gA G)) z 12 [(5, va_rf r), (3, .long x3), (1, .long x1), (0, .ref a)] [] := by
    intro tl
    induction tl with
    | nil =>
      intro r x1 x3 hc h1 h3
      cases hc
      simp only [laA, laO] at h1 h3
      subst h1
      subst h3
      refine w_aload C 0 dX1_takeLanesOfAnd_12 rfl (by first | rfl | exact isRef_rf _) ?_
      refine w_ifnull (tgt := 43) C dX1_takeLanesOfAnd_14 (by decide) (fun c1 => ?_) (fun a14 c1 => ?_)
      · refine w_aload_n C 3 dX1_takeLanesOfAnd_43 rfl rfl (by first | rfl | exact isRef_rf _) ?_
        refine w_lload_n C 2 dX1_takeLanesOfAnd_44 rfl rfl ?_
        refine w_putJ (ci := 2) (k := 15) (f := 79) C rfl i2 (by decide +kernel) (by decide) (by decide) rfl rfl tyX1 tyX1_ok nmX1 rfl rfl rfl dX1_takeLanesOfAnd_45 ha ?_
        refine w_aload_n C 3 dX1_takeLanesOfAnd_48 rfl rfl (by first | rfl | exact isRef_rf _) ?_
        refine w_lload_n C 1 dX1_takeLanesOfAnd_49 rfl rfl ?_
        refine w_putJ (ci := 2) (k := 16) (f := 80) C rfl i2 (by decide +kernel) (by decide) (by decide) rfl rfl tyX1 tyX1_ok nmX1 rfl rfl rfl dX1_takeLanesOfAnd_50 (is_J ha) ?_
        exact w_vret C dX1_takeLanesOfAnd_53 ⟨rfl, rfl⟩
      · cases c1
    | cons x tl ih =>
      intro r x1 x3 hc h1 h3
      obtain ⟨fa, rfl, hfa, hfr, hg, hng, htl⟩ := hc
      have e1 : (if sI z 33 fa = 0 then sJ z 79 x.1 else sJ z 80 x.1) = tk1 z x := by rw [hng]; rfl
      have e0 : (if sI z 33 fa = 0 then sJ z 80 x.1 else sJ z 79 x.1) = tk0 z x := by rw [hng]; rfl
      refine w_aload C 0 dX1_takeLanesOfAnd_12 rfl (by first | rfl | exact isRef_rf _) ?_
      refine w_ifnull (tgt := 43) C dX1_takeLanesOfAnd_14 (by decide) (fun c1 => ?_) (fun a14 c1 => ?_)
      · cases c1
      · refine w_lload_n C 2 dX1_takeLanesOfAnd_17 rfl rfl ?_
        refine w_aload C 0 dX1_takeLanesOfAnd_18 rfl (by first | rfl | exact isRef_rf _) ?_
        refine w_callV (ci := 1) (As := []) (rest := [.long x1]) C (cwV 0 C.1.2.2.2.2 gX1_takeLanesOfAnd_X0_takenOnes rfl rfl rfl (by decide +kernel) ⟨Nat.le_of_ble_eq_true rfl, Nat.le_of_ble_eq_true rfl⟩) hfa rfl (by decide) rfl rfl (by first | decide | simp [cat_ref, cat_null, cat_int, cat_long, rf_cat]) dX1_takeLanesOfAnd_20 ⟨Nat.le_of_ble_eq_true rfl, Nat.le_of_ble_eq_true rfl⟩ (c_takenOnes l G z hfa hfr hg) (fun rv z1 h9 => ?_)
        obtain ⟨rfl, e9⟩ := h9
        replace e9 := e9.symm
        subst e9
        rw [e1]
        refine w_land C dX1_takeLanesOfAnd_23 ?_
        refine w_lstore_n (lvq := [(1, _), (5, _), (3, _), (0, _)]) C dX1_takeLanesOfAnd_24 rfl (by decide) rfl ?_
        refine w_lload_n C 2 dX1_takeLanesOfAnd_25 rfl rfl ?_
        refine w_aload C 1 dX1_takeLanesOfAnd_26 rfl (by first | rfl | exact isRef_rf _) ?_
        refine w_callV (ci := 1) (As := []) (rest := [.long x3]) C (cwV 0 C.1.2.2.2.2 gX1_takeLanesOfAnd_X0_takenZeros rfl rfl rfl (by decide +kernel) ⟨Nat.le_of_ble_eq_true rfl, Nat.le_of_ble_eq_true rfl⟩) hfa rfl (by decide) rfl rfl (by first | decide | simp [cat_ref, cat_null, cat_int, cat_long, rf_cat]) dX1_takeLanesOfAnd_28 ⟨Nat.le_of_ble_eq_true rfl, Nat.le_of_ble_eq_true rfl⟩ (c_takenZeros l G z hfa hfr hg) (fun rv z1 h9 => ?_)
        obtain ⟨rfl, e9⟩ := h9
        replace e9 := e9.symm
        subst e9
        rw [e0]
        refine w_lor C dX1_takeLanesOfAnd_31 ?_
        refine w_lstore_n (lvq := [(3, _), (1, _), (5, _), (0, _)]) C dX1_takeLanesOfAnd_32 rfl (by decide) rfl ?_
        refine w_aload C 2 dX1_takeLanesOfAnd_33 rfl (by first | rfl | exact isRef_rf _) ?_
        refine w_getR (ci := 1) (k := 2) (f := 34) C rfl i1 (by decide +kernel) (by decide) (by decide) rfl rfl dX1_takeLanesOfAnd_35 hfa rfl ?_
        refine w_astore (lvq := [(5, _), (3, _), (1, _), (0, _)]) C dX1_takeLanesOfAnd_38 (by first | rfl | exact isRef_rf _) (by decide) rfl ?_
        refine w_goto (tgt := 12) C dX1_takeLanesOfAnd_40 (by decide) ?_
        exact w_sub [0, 1, 2, 3] rfl (ih _ _ _ htl h1 h3)
  refine w_ldc2 (v := (-1)) C dX1_takeLanesOfAnd_0 (by decide +kernel) ?_
  refine w_lstore_n (lvq := [(1, _), (0, _)]) C dX1_takeLanesOfAnd_3 rfl (by decide) rfl ?_
  refine w_lconst (v := 0) C dX1_takeLanesOfAnd_4 (by decide) ?_
  refine w_lstore_n (lvq := [(3, _), (1, _), (0, _)]) C dX1_takeLanesOfAnd_5 rfl (by decide) rfl ?_
  refine w_aload_n C 2 dX1_takeLanesOfAnd_6 rfl rfl (by first | rfl | exact isRef_rf _) ?_
  refine w_getR (ci := 2) (k := 2) (f := 66) C rfl i2 (by decide +kernel) (by decide) (by decide) rfl rfl dX1_takeLanesOfAnd_7 ha rfl ?_
  refine w_astore (lvq := [(5, _), (3, _), (1, _), (0, _)]) C dX1_takeLanesOfAnd_10 (by first | rfl | exact isRef_rf _) (by decide) rfl ?_
  exact w_sub [0, 1, 2, 3] rfl (loop fl _ _ _ hfl rfl rfl)
set_option maxHeartbeats 4000000 in
set_option maxRecDepth 100000 in
theorem c_takeLanesOfOr (l : Launch) (G : Gx) (z : Sto) {a : Nat} {fl : List (Nat × Int32)} (ha : is z a 2) (hfl : chn z (sR z 66 a) fl) : Ct l yX1_takeLanesOfOr wsX1_takeLanesOfOr ({ frames := 1, cells := 0, slots := 0, locals := 20 } : Room) G z [.ref a] (fun rv z' => rv = none ∧ z' = putJ (putJ z 79 a (laO (tk1 z) fl 0)) 80 a (laA (tk0 z) fl (-1))) := by
  refine ct_of (cc := cX1_takeLanesOfOr) (maxL := 6) (ret := none) (lv0 := [(0, .ref a)]) (by decide) rfl (by simp [lg_sl, cat_ref, cat_null, cat_int, cat_long, rf_cat]) (by simp [lv_args, cat_ref, cat_null, cat_int, cat_long, rf_cat]) ?_
  intro p e s m args below meth c C hin
  have i1 : ∀ w ∈ u_ws RX0 TX0 3, w ∈ wsX1_takeLanesOfOr := by decide +kernel
  have i2 : ∀ w ∈ u_ws RX1 TX1 17, w ∈ wsX1_takeLanesOfOr := by decide +kernel
  have loop : ∀ (tl : List (Nat × Int32)) (r : Option Nat) (x1 x3 : Int64), chn z r tl → laA (tk0 z) tl x1 = laA (tk0 z) fl (-1) → laO (tk1 z) tl x3 = laO (tk1 z) fl 0 → Wp p l e ({ frames := 1, cells := 0, slots := 0, locals := 20 } : Room) s m args below meth c G 6 0 0 (MQ below (cPost G (fun rv z' => rv = none ∧ z' = putJ (putJ z 79 a (laO (tk1 z) fl 0)) 80 a (laA (tk0 z) fl (-1)))) args s 0 0 (gA G)) z 12 [(5, va_rf r), (3, .long x3), (1, .long x1), (0, .ref a)] [] := by
    intro tl
    induction tl with
    | nil =>
      intro r x1 x3 hc h1 h3
      cases hc
      simp only [laA, laO] at h1 h3
      subst h1
      subst h3
      refine w_aload C 0 dX1_takeLanesOfOr_12 rfl (by first | rfl | exact isRef_rf _) ?_
      refine w_ifnull (tgt := 43) C dX1_takeLanesOfOr_14 (by decide) (fun c1 => ?_) (fun a14 c1 => ?_)
      · refine w_aload_n C 3 dX1_takeLanesOfOr_43 rfl rfl (by first | rfl | exact isRef_rf _) ?_
        refine w_lload_n C 1 dX1_takeLanesOfOr_44 rfl rfl ?_
        refine w_putJ (ci := 2) (k := 15) (f := 79) C rfl i2 (by decide +kernel) (by decide) (by decide) rfl rfl tyX1 tyX1_ok nmX1 rfl rfl rfl dX1_takeLanesOfOr_45 ha ?_
        refine w_aload_n C 3 dX1_takeLanesOfOr_48 rfl rfl (by first | rfl | exact isRef_rf _) ?_
        refine w_lload_n C 2 dX1_takeLanesOfOr_49 rfl rfl ?_
        refine w_putJ (ci := 2) (k := 16) (f := 80) C rfl i2 (by decide +kernel) (by decide) (by decide) rfl rfl tyX1 tyX1_ok nmX1 rfl rfl rfl dX1_takeLanesOfOr_50 (is_J ha) ?_
        exact w_vret C dX1_takeLanesOfOr_53 ⟨rfl, rfl⟩
      · cases c1
    | cons x tl ih =>
      intro r x1 x3 hc h1 h3
      obtain ⟨fa, rfl, hfa, hfr, hg, hng, htl⟩ := hc
      have e1 : (if sI z 33 fa = 0 then sJ z 79 x.1 else sJ z 80 x.1) = tk1 z x := by rw [hng]; rfl
      have e0 : (if sI z 33 fa = 0 then sJ z 80 x.1 else sJ z 79 x.1) = tk0 z x := by rw [hng]; rfl
      refine w_aload C 0 dX1_takeLanesOfOr_12 rfl (by first | rfl | exact isRef_rf _) ?_
      refine w_ifnull (tgt := 43) C dX1_takeLanesOfOr_14 (by decide) (fun c1 => ?_) (fun a14 c1 => ?_)
      · cases c1
      · refine w_lload_n C 2 dX1_takeLanesOfOr_17 rfl rfl ?_
        refine w_aload C 0 dX1_takeLanesOfOr_18 rfl (by first | rfl | exact isRef_rf _) ?_
        refine w_callV (ci := 1) (As := []) (rest := [.long x1]) C (cwV 0 C.1.2.2.2.2 gX1_takeLanesOfOr_X0_takenZeros rfl rfl rfl (by decide +kernel) ⟨Nat.le_of_ble_eq_true rfl, Nat.le_of_ble_eq_true rfl⟩) hfa rfl (by decide) rfl rfl (by first | decide | simp [cat_ref, cat_null, cat_int, cat_long, rf_cat]) dX1_takeLanesOfOr_20 ⟨Nat.le_of_ble_eq_true rfl, Nat.le_of_ble_eq_true rfl⟩ (c_takenZeros l G z hfa hfr hg) (fun rv z1 h9 => ?_)
        obtain ⟨rfl, e9⟩ := h9
        replace e9 := e9.symm
        subst e9
        rw [e0]
        refine w_land C dX1_takeLanesOfOr_23 ?_
        refine w_lstore_n (lvq := [(1, _), (5, _), (3, _), (0, _)]) C dX1_takeLanesOfOr_24 rfl (by decide) rfl ?_
        refine w_lload_n C 2 dX1_takeLanesOfOr_25 rfl rfl ?_
        refine w_aload C 1 dX1_takeLanesOfOr_26 rfl (by first | rfl | exact isRef_rf _) ?_
        refine w_callV (ci := 1) (As := []) (rest := [.long x3]) C (cwV 0 C.1.2.2.2.2 gX1_takeLanesOfOr_X0_takenOnes rfl rfl rfl (by decide +kernel) ⟨Nat.le_of_ble_eq_true rfl, Nat.le_of_ble_eq_true rfl⟩) hfa rfl (by decide) rfl rfl (by first | decide | simp [cat_ref, cat_null, cat_int, cat_long, rf_cat]) dX1_takeLanesOfOr_28 ⟨Nat.le_of_ble_eq_true rfl, Nat.le_of_ble_eq_true rfl⟩ (c_takenOnes l G z hfa hfr hg) (fun rv z1 h9 => ?_)
        obtain ⟨rfl, e9⟩ := h9
        replace e9 := e9.symm
        subst e9
        rw [e1]
        refine w_lor C dX1_takeLanesOfOr_31 ?_
        refine w_lstore_n (lvq := [(3, _), (1, _), (5, _), (0, _)]) C dX1_takeLanesOfOr_32 rfl (by decide) rfl ?_
        refine w_aload C 2 dX1_takeLanesOfOr_33 rfl (by first | rfl | exact isRef_rf _) ?_
        refine w_getR (ci := 1) (k := 2) (f := 34) C rfl i1 (by decide +kernel) (by decide) (by decide) rfl rfl dX1_takeLanesOfOr_35 hfa rfl ?_
        refine w_astore (lvq := [(5, _), (3, _), (1, _), (0, _)]) C dX1_takeLanesOfOr_38 (by first | rfl | exact isRef_rf _) (by decide) rfl ?_
        refine w_goto (tgt := 12) C dX1_takeLanesOfOr_40 (by decide) ?_
        exact w_sub [0, 1, 2, 3] rfl (ih _ _ _ htl h1 h3)
  refine w_ldc2 (v := (-1)) C dX1_takeLanesOfOr_0 (by decide +kernel) ?_
  refine w_lstore_n (lvq := [(1, _), (0, _)]) C dX1_takeLanesOfOr_3 rfl (by decide) rfl ?_
  refine w_lconst (v := 0) C dX1_takeLanesOfOr_4 (by decide) ?_
  refine w_lstore_n (lvq := [(3, _), (1, _), (0, _)]) C dX1_takeLanesOfOr_5 rfl (by decide) rfl ?_
  refine w_aload_n C 2 dX1_takeLanesOfOr_6 rfl rfl (by first | rfl | exact isRef_rf _) ?_
  refine w_getR (ci := 2) (k := 2) (f := 66) C rfl i2 (by decide +kernel) (by decide) (by decide) rfl rfl dX1_takeLanesOfOr_7 ha rfl ?_
  refine w_astore (lvq := [(5, _), (3, _), (1, _), (0, _)]) C dX1_takeLanesOfOr_10 (by first | rfl | exact isRef_rf _) (by decide) rfl ?_
  exact w_sub [0, 1, 2, 3] rfl (loop fl _ _ _ hfl rfl rfl)
/-- what one pass makes of a gate's lanes -/
def lgO (z : Sto) (a : Nat) (fl : List (Nat × Int32)) : Int64 := if sI z 65 a = 2 then laA (tk1 z) fl (-1) else laO (tk1 z) fl 0
def lgZ (z : Sto) (a : Nat) (fl : List (Nat × Int32)) : Int64 := if sI z 65 a = 2 then laO (tk0 z) fl 0 else laA (tk0 z) fl (-1)
theorem lcmp_0 (x y : Int64) : lg_cmp x y = 0 ↔ x = y := by
  unfold lg_cmp
  by_cases h1 : y < x
  · rw [if_pos h1]
    exact ⟨fun h => absurd h (by decide), fun h => by subst h; exact absurd h1 (Int64.lt_irrefl)⟩
  · rw [if_neg h1]
    by_cases h2 : x = y
    · rw [if_pos h2]; exact ⟨fun _ => h2, fun _ => rfl⟩
    · rw [if_neg h2]; exact ⟨fun h => absurd h (by decide), fun h => absurd h h2⟩
set_option maxHeartbeats 4000000 in
set_option maxRecDepth 100000 in
theorem c_lanesGrow (l : Launch) (G : Gx) (z : Sto) {a : Nat} {fl : List (Nat × Int32)} (ha : is z a 2) (hfl : chn z (sR z 66 a) fl) : Ct l yX1_lanesGrow wsX1_lanesGrow ({ frames := 2, cells := 0, slots := 0, locals := 45 } : Room) G z [.ref a] (fun rv z' => rv = some (.int (bI (!decide (lgO z a fl = sJ z 79 a ∧ lgZ z a fl = sJ z 80 a)))) ∧ z' = putJ (putJ z 79 a (lgO z a fl)) 80 a (lgZ z a fl)) := by
  refine ct_of (cc := cX1_lanesGrow) (maxL := 5) (ret := (some .boolean)) (lv0 := [(0, .ref a)]) (by decide) rfl (by simp [lg_sl, cat_ref, cat_null, cat_int, cat_long, rf_cat]) (by simp [lv_args, cat_ref, cat_null, cat_int, cat_long, rf_cat]) ?_
  intro p e s m args below meth c C hin
  have i2 : ∀ w ∈ u_ws RX1 TX1 17, w ∈ wsX1_lanesGrow := by decide +kernel
  refine w_aload_n C 0 dX1_lanesGrow_0 rfl rfl (by first | rfl | exact isRef_rf _) ?_
  refine w_getJ (ci := 2) (k := 15) (f := 79) C rfl i2 (by decide +kernel) (by decide) (by decide) rfl rfl dX1_lanesGrow_1 ha rfl ?_
  refine w_lstore_n (lvq := [(1, _), (0, _)]) C dX1_lanesGrow_4 rfl (by decide) rfl ?_
  refine w_aload_n C 1 dX1_lanesGrow_5 rfl rfl (by first | rfl | exact isRef_rf _) ?_
  refine w_getJ (ci := 2) (k := 16) (f := 80) C rfl i2 (by decide +kernel) (by decide) (by decide) rfl rfl dX1_lanesGrow_6 ha rfl ?_
  refine w_lstore_n (lvq := [(3, _), (1, _), (0, _)]) C dX1_lanesGrow_9 rfl (by decide) rfl ?_
  refine w_aload_n C 2 dX1_lanesGrow_10 rfl rfl (by first | rfl | exact isRef_rf _) ?_
  refine w_getI (ci := 2) (k := 1) (f := 65) C rfl i2 (by decide +kernel) (by decide) (by decide) rfl rfl dX1_lanesGrow_11 ha rfl ?_
  refine w_iconst (v := 2) C dX1_lanesGrow_14 (by decide) ?_
  refine w_icmp_ne (tgt := 25) C dX1_lanesGrow_15 (by decide) (fun c1 => ?_) (fun c1 => ?_)
  · refine w_aload_n C 2 dX1_lanesGrow_25 rfl rfl (by first | rfl | exact isRef_rf _) ?_
    refine w_callV (ci := 2) (As := []) (rest := _) C (cwV 0 C.1.2.2.2.2 gX1_lanesGrow_X1_takeLanesOfOr rfl rfl rfl (by decide +kernel) ⟨Nat.le_of_ble_eq_true rfl, Nat.le_of_ble_eq_true rfl⟩) ha rfl (by decide) rfl rfl (by first | decide | simp [cat_ref, cat_null, cat_int, cat_long, rf_cat]) dX1_lanesGrow_26 ⟨Nat.le_of_ble_eq_true rfl, Nat.le_of_ble_eq_true rfl⟩ (c_takeLanesOfOr l G z ha hfl) (fun rv z1 h9 => ?_)
    obtain ⟨rfl, e9⟩ := h9
    replace e9 := e9.symm
    have hO : lgO z a fl = laO (tk1 z) fl 0 := by simp [lgO, c1]
    have hZ : lgZ z a fl = laA (tk0 z) fl (-1) := by simp [lgZ, c1]
    rw [← hO, ← hZ] at e9
    subst e9
    refine w_aload_n C 2 dX1_lanesGrow_29 rfl rfl (by first | rfl | exact isRef_rf _) ?_
    refine w_getJ (ci := 2) (k := 15) (f := 79) C rfl i2 (by decide +kernel) (by decide) (by decide) rfl rfl dX1_lanesGrow_30 (is_J (is_J ha)) (rJ_Jf (by decide) rJ_Js) ?_
    refine w_lload_n C 1 dX1_lanesGrow_33 rfl rfl ?_
    refine w_lcmp C dX1_lanesGrow_34 ?_
    refine w_if_ne (tgt := 47) C dX1_lanesGrow_35 (by decide) (fun c2 => ?_) (fun c2 => ?_)
    · refine w_iconst (v := 1) C dX1_lanesGrow_47 (by decide) ?_
      refine w_goto (tgt := 52) C dX1_lanesGrow_48 (by decide) ?_
      exact w_zret C dX1_lanesGrow_52 (by first | rfl | assumption) ⟨by rw [lcmp_0] at c2; first | (rw [lcmp_0] at c3; simp [c2, c3, bI]) | simp [c2, bI], rfl⟩
    · refine w_aload_n C 2 dX1_lanesGrow_38 rfl rfl (by first | rfl | exact isRef_rf _) ?_
      refine w_getJ (ci := 2) (k := 16) (f := 80) C rfl i2 (by decide +kernel) (by decide) (by decide) rfl rfl dX1_lanesGrow_39 (is_J (is_J ha)) rJ_Js ?_
      refine w_lload_n C 0 dX1_lanesGrow_42 rfl rfl ?_
      refine w_lcmp C dX1_lanesGrow_43 ?_
      refine w_if_eq (tgt := 51) C dX1_lanesGrow_44 (by decide) (fun c3 => ?_) (fun c3 => ?_)
      · refine w_iconst (v := 0) C dX1_lanesGrow_51 (by decide) ?_
        exact w_zret C dX1_lanesGrow_52 (by first | rfl | assumption) ⟨by rw [lcmp_0] at c2; first | (rw [lcmp_0] at c3; simp [c2, c3, bI]) | simp [c2, bI], rfl⟩
      · refine w_iconst (v := 1) C dX1_lanesGrow_47 (by decide) ?_
        refine w_goto (tgt := 52) C dX1_lanesGrow_48 (by decide) ?_
        exact w_zret C dX1_lanesGrow_52 (by first | rfl | assumption) ⟨by rw [lcmp_0] at c2; first | (rw [lcmp_0] at c3; simp [c2, c3, bI]) | simp [c2, bI], rfl⟩
  · refine w_aload_n C 2 dX1_lanesGrow_18 rfl rfl (by first | rfl | exact isRef_rf _) ?_
    refine w_callV (ci := 2) (As := []) (rest := _) C (cwV 0 C.1.2.2.2.2 gX1_lanesGrow_X1_takeLanesOfAnd rfl rfl rfl (by decide +kernel) ⟨Nat.le_of_ble_eq_true rfl, Nat.le_of_ble_eq_true rfl⟩) ha rfl (by decide) rfl rfl (by first | decide | simp [cat_ref, cat_null, cat_int, cat_long, rf_cat]) dX1_lanesGrow_19 ⟨Nat.le_of_ble_eq_true rfl, Nat.le_of_ble_eq_true rfl⟩ (c_takeLanesOfAnd l G z ha hfl) (fun rv z1 h9 => ?_)
    obtain ⟨rfl, e9⟩ := h9
    replace e9 := e9.symm
    have hO : lgO z a fl = laA (tk1 z) fl (-1) := by simp [lgO, c1]
    have hZ : lgZ z a fl = laO (tk0 z) fl 0 := by simp [lgZ, c1]
    rw [← hO, ← hZ] at e9
    subst e9
    refine w_goto (tgt := 29) C dX1_lanesGrow_22 (by decide) ?_
    refine w_aload_n C 2 dX1_lanesGrow_29 rfl rfl (by first | rfl | exact isRef_rf _) ?_
    refine w_getJ (ci := 2) (k := 15) (f := 79) C rfl i2 (by decide +kernel) (by decide) (by decide) rfl rfl dX1_lanesGrow_30 (is_J (is_J ha)) (rJ_Jf (by decide) rJ_Js) ?_
    refine w_lload_n C 1 dX1_lanesGrow_33 rfl rfl ?_
    refine w_lcmp C dX1_lanesGrow_34 ?_
    refine w_if_ne (tgt := 47) C dX1_lanesGrow_35 (by decide) (fun c2 => ?_) (fun c2 => ?_)
    · refine w_iconst (v := 1) C dX1_lanesGrow_47 (by decide) ?_
      refine w_goto (tgt := 52) C dX1_lanesGrow_48 (by decide) ?_
      exact w_zret C dX1_lanesGrow_52 (by first | rfl | assumption) ⟨by rw [lcmp_0] at c2; first | (rw [lcmp_0] at c3; simp [c2, c3, bI]) | simp [c2, bI], rfl⟩
    · refine w_aload_n C 2 dX1_lanesGrow_38 rfl rfl (by first | rfl | exact isRef_rf _) ?_
      refine w_getJ (ci := 2) (k := 16) (f := 80) C rfl i2 (by decide +kernel) (by decide) (by decide) rfl rfl dX1_lanesGrow_39 (is_J (is_J ha)) rJ_Js ?_
      refine w_lload_n C 0 dX1_lanesGrow_42 rfl rfl ?_
      refine w_lcmp C dX1_lanesGrow_43 ?_
      refine w_if_eq (tgt := 51) C dX1_lanesGrow_44 (by decide) (fun c3 => ?_) (fun c3 => ?_)
      · refine w_iconst (v := 0) C dX1_lanesGrow_51 (by decide) ?_
        exact w_zret C dX1_lanesGrow_52 (by first | rfl | assumption) ⟨by rw [lcmp_0] at c2; first | (rw [lcmp_0] at c3; simp [c2, c3, bI]) | simp [c2, bI], rfl⟩
      · refine w_iconst (v := 1) C dX1_lanesGrow_47 (by decide) ?_
        refine w_goto (tgt := 52) C dX1_lanesGrow_48 (by decide) ?_
        exact w_zret C dX1_lanesGrow_52 (by first | rfl | assumption) ⟨by rw [lcmp_0] at c2; first | (rw [lcmp_0] at c3; simp [c2, c3, bI]) | simp [c2, bI], rfl⟩
set_option maxHeartbeats 4000000 in
set_option maxRecDepth 100000 in
theorem c_Gate_init (l : Launch) (G : Gx) (z : Sto) {a : Nat} {n so : Int32} (ha : is z a 2) : Ct l yX1_init wsX1_init ({ frames := 1, cells := 0, slots := 0, locals := 12 } : Room) G z [.ref a, .int n, .int so] (fun rv z' => rv = none ∧ z' = putI (putI (putI (putI (putJ (putJ (putI (putI (putI (putR (putR (putR (putI (putI (putI (putI (putR z 66 a none) 67 a 0) 70 a (-1)) 71 a (-1)) 72 a (-1)) 73 a none) 74 a none) 75 a none) 76 a 0) 77 a 0) 78 a (-1)) 79 a 0) 80 a 0) 64 a n) 65 a so) 68 a (if so = 1 then 0 else 2)) 69 a (if so = 1 then 0 else 2)) := by
  refine ct_of (cc := cX1_init) (maxL := 3) (ret := none) (lv0 := [(0, .ref a), (1, .int n), (2, .int so)]) (by decide) rfl (by simp [lg_sl, cat_ref, cat_null, cat_int, cat_long, rf_cat]) (by simp [lv_args, cat_ref, cat_null, cat_int, cat_long, rf_cat]) ?_
  intro p e s m args below meth c C hin
  have i2 : ∀ w ∈ u_ws RX1 TX1 17, w ∈ wsX1_init := by decide +kernel
  refine w_aload_n C 0 dX1_init_0 rfl rfl (by first | rfl | exact isRef_rf _) ?_
  refine w_objInit C (by decide +kernel) (by decide +kernel) (by decide +kernel) dX1_init_1 (by decide) (by decide) ?_
  refine w_aload_n C 0 dX1_init_4 rfl rfl (by first | rfl | exact isRef_rf _) ?_
  refine w_null C dX1_init_5 ?_
  refine w_putR (ci := 2) (k := 2) (f := 66) (v := none) C rfl i2 (by decide +kernel) (by decide) (by decide) rfl rfl tyX1 tyX1_ok nmX1 rfl (by first | rfl | exact nar_rf _ _ | exact nar_ra _ _) (by first | rfl | exact fit_rf _ _ | exact fit_ra _ _) dX1_init_6 ha ?_
  refine w_aload_n C 0 dX1_init_9 rfl rfl (by first | rfl | exact isRef_rf _) ?_
  refine w_iconst (v := 0) C dX1_init_10 (by decide) ?_
  refine w_putI (ci := 2) (k := 3) (f := 67) C rfl i2 (by decide +kernel) (by decide) (by decide) rfl rfl tyX1 tyX1_ok nmX1 rfl rfl rfl dX1_init_11 (is_R ha) ?_
  refine w_aload_n C 0 dX1_init_14 rfl rfl (by first | rfl | exact isRef_rf _) ?_
  refine w_iconst (v := (-1)) C dX1_init_15 (by decide) ?_
  refine w_putI (ci := 2) (k := 6) (f := 70) C rfl i2 (by decide +kernel) (by decide) (by decide) rfl rfl tyX1 tyX1_ok nmX1 rfl rfl rfl dX1_init_16 (is_I (is_R ha)) ?_
  refine w_aload_n C 0 dX1_init_19 rfl rfl (by first | rfl | exact isRef_rf _) ?_
  refine w_iconst (v := (-1)) C dX1_init_20 (by decide) ?_
  refine w_putI (ci := 2) (k := 7) (f := 71) C rfl i2 (by decide +kernel) (by decide) (by decide) rfl rfl tyX1 tyX1_ok nmX1 rfl rfl rfl dX1_init_21 (is_I (is_I (is_R ha))) ?_
  refine w_aload_n C 0 dX1_init_24 rfl rfl (by first | rfl | exact isRef_rf _) ?_
  refine w_iconst (v := (-1)) C dX1_init_25 (by decide) ?_
  refine w_putI (ci := 2) (k := 8) (f := 72) C rfl i2 (by decide +kernel) (by decide) (by decide) rfl rfl tyX1 tyX1_ok nmX1 rfl rfl rfl dX1_init_26 (is_I (is_I (is_I (is_R ha)))) ?_
  refine w_aload_n C 0 dX1_init_29 rfl rfl (by first | rfl | exact isRef_rf _) ?_
  refine w_null C dX1_init_30 ?_
  refine w_putR (ci := 2) (k := 9) (f := 73) (v := none) C rfl i2 (by decide +kernel) (by decide) (by decide) rfl rfl tyX1 tyX1_ok nmX1 rfl (by first | rfl | exact nar_rf _ _ | exact nar_ra _ _) (by first | rfl | exact fit_rf _ _ | exact fit_ra _ _) dX1_init_31 (is_I (is_I (is_I (is_I (is_R ha))))) ?_
  refine w_aload_n C 0 dX1_init_34 rfl rfl (by first | rfl | exact isRef_rf _) ?_
  refine w_null C dX1_init_35 ?_
  refine w_putR (ci := 2) (k := 10) (f := 74) (v := none) C rfl i2 (by decide +kernel) (by decide) (by decide) rfl rfl tyX1 tyX1_ok nmX1 rfl (by first | rfl | exact nar_rf _ _ | exact nar_ra _ _) (by first | rfl | exact fit_rf _ _ | exact fit_ra _ _) dX1_init_36 (is_R (is_I (is_I (is_I (is_I (is_R ha)))))) ?_
  refine w_aload_n C 0 dX1_init_39 rfl rfl (by first | rfl | exact isRef_rf _) ?_
  refine w_null C dX1_init_40 ?_
  refine w_putR (ci := 2) (k := 11) (f := 75) (v := none) C rfl i2 (by decide +kernel) (by decide) (by decide) rfl rfl tyX1 tyX1_ok nmX1 rfl (by first | rfl | exact nar_rf _ _ | exact nar_ra _ _) (by first | rfl | exact fit_rf _ _ | exact fit_ra _ _) dX1_init_41 (is_R (is_R (is_I (is_I (is_I (is_I (is_R ha))))))) ?_
  refine w_aload_n C 0 dX1_init_44 rfl rfl (by first | rfl | exact isRef_rf _) ?_
  refine w_iconst (v := 0) C dX1_init_45 (by decide) ?_
  refine w_putI (ci := 2) (k := 12) (f := 76) C rfl i2 (by decide +kernel) (by decide) (by decide) rfl rfl tyX1 tyX1_ok nmX1 rfl rfl rfl dX1_init_46 (is_R (is_R (is_R (is_I (is_I (is_I (is_I (is_R ha)))))))) ?_
  refine w_aload_n C 0 dX1_init_49 rfl rfl (by first | rfl | exact isRef_rf _) ?_
  refine w_iconst (v := 0) C dX1_init_50 (by decide) ?_
  refine w_putI (ci := 2) (k := 13) (f := 77) C rfl i2 (by decide +kernel) (by decide) (by decide) rfl rfl tyX1 tyX1_ok nmX1 rfl rfl rfl dX1_init_51 (is_I (is_R (is_R (is_R (is_I (is_I (is_I (is_I (is_R ha))))))))) ?_
  refine w_aload_n C 0 dX1_init_54 rfl rfl (by first | rfl | exact isRef_rf _) ?_
  refine w_iconst (v := (-1)) C dX1_init_55 (by decide) ?_
  refine w_putI (ci := 2) (k := 14) (f := 78) C rfl i2 (by decide +kernel) (by decide) (by decide) rfl rfl tyX1 tyX1_ok nmX1 rfl rfl rfl dX1_init_56 (is_I (is_I (is_R (is_R (is_R (is_I (is_I (is_I (is_I (is_R ha)))))))))) ?_
  refine w_aload_n C 0 dX1_init_59 rfl rfl (by first | rfl | exact isRef_rf _) ?_
  refine w_lconst (v := 0) C dX1_init_60 (by decide) ?_
  refine w_putJ (ci := 2) (k := 15) (f := 79) C rfl i2 (by decide +kernel) (by decide) (by decide) rfl rfl tyX1 tyX1_ok nmX1 rfl rfl rfl dX1_init_61 (is_I (is_I (is_I (is_R (is_R (is_R (is_I (is_I (is_I (is_I (is_R ha))))))))))) ?_
  refine w_aload_n C 0 dX1_init_64 rfl rfl (by first | rfl | exact isRef_rf _) ?_
  refine w_lconst (v := 0) C dX1_init_65 (by decide) ?_
  refine w_putJ (ci := 2) (k := 16) (f := 80) C rfl i2 (by decide +kernel) (by decide) (by decide) rfl rfl tyX1 tyX1_ok nmX1 rfl rfl rfl dX1_init_66 (is_J (is_I (is_I (is_I (is_R (is_R (is_R (is_I (is_I (is_I (is_I (is_R ha)))))))))))) ?_
  refine w_aload_n C 0 dX1_init_69 rfl rfl (by first | rfl | exact isRef_rf _) ?_
  refine w_iload_n C 1 dX1_init_70 rfl rfl ?_
  refine w_putIF (ci := 2) (k := 0) (f := 64) C rfl i2 (by decide +kernel) (by decide) (by decide) rfl rfl tyX1 tyX1_ok nmX1 rfl hin rfl rfl rfl dX1_init_71 (is_J (is_J (is_I (is_I (is_I (is_R (is_R (is_R (is_I (is_I (is_I (is_I (is_R ha))))))))))))) ?_
  refine w_aload_n C 0 dX1_init_74 rfl rfl (by first | rfl | exact isRef_rf _) ?_
  refine w_iload_n C 2 dX1_init_75 rfl rfl ?_
  refine w_putIF (ci := 2) (k := 1) (f := 65) C rfl i2 (by decide +kernel) (by decide) (by decide) rfl rfl tyX1 tyX1_ok nmX1 rfl hin rfl rfl rfl dX1_init_76 (is_I (is_J (is_J (is_I (is_I (is_I (is_R (is_R (is_R (is_I (is_I (is_I (is_I (is_R ha)))))))))))))) ?_
  refine w_aload_n C 0 dX1_init_79 rfl rfl (by first | rfl | exact isRef_rf _) ?_
  refine w_iload_n C 2 dX1_init_80 rfl rfl ?_
  refine w_iconst (v := 1) C dX1_init_81 (by decide) ?_
  refine w_icmp_ne (tgt := 89) C dX1_init_82 (by decide) (fun c1 => ?_) (fun c1 => ?_)
  · refine w_iconst (v := 2) C dX1_init_89 (by decide) ?_
    refine w_putI (ci := 2) (k := 4) (f := 68) C rfl i2 (by decide +kernel) (by decide) (by decide) rfl rfl tyX1 tyX1_ok nmX1 rfl rfl rfl dX1_init_90 (is_I (is_I (is_J (is_J (is_I (is_I (is_I (is_R (is_R (is_R (is_I (is_I (is_I (is_I (is_R ha))))))))))))))) ?_
    refine w_aload_n C 0 dX1_init_93 rfl rfl (by first | rfl | exact isRef_rf _) ?_
    refine w_aload_n C 0 dX1_init_94 rfl rfl (by first | rfl | exact isRef_rf _) ?_
    refine w_getI (ci := 2) (k := 4) (f := 68) C rfl i2 (by decide +kernel) (by decide) (by decide) rfl rfl dX1_init_95 (is_I (is_I (is_I (is_J (is_J (is_I (is_I (is_I (is_R (is_R (is_R (is_I (is_I (is_I (is_I (is_R ha)))))))))))))))) rI_Is ?_
    refine w_putI (ci := 2) (k := 5) (f := 69) C rfl i2 (by decide +kernel) (by decide) (by decide) rfl rfl tyX1 tyX1_ok nmX1 rfl rfl rfl dX1_init_98 (is_I (is_I (is_I (is_J (is_J (is_I (is_I (is_I (is_R (is_R (is_R (is_I (is_I (is_I (is_I (is_R ha)))))))))))))))) ?_
    exact w_vret C dX1_init_101 ⟨rfl, by simp [c1]⟩
  · refine w_iconst (v := 0) C dX1_init_85 (by decide) ?_
    refine w_goto (tgt := 90) C dX1_init_86 (by decide) ?_
    refine w_putI (ci := 2) (k := 4) (f := 68) C rfl i2 (by decide +kernel) (by decide) (by decide) rfl rfl tyX1 tyX1_ok nmX1 rfl rfl rfl dX1_init_90 (is_I (is_I (is_J (is_J (is_I (is_I (is_I (is_R (is_R (is_R (is_I (is_I (is_I (is_I (is_R ha))))))))))))))) ?_
    refine w_aload_n C 0 dX1_init_93 rfl rfl (by first | rfl | exact isRef_rf _) ?_
    refine w_aload_n C 0 dX1_init_94 rfl rfl (by first | rfl | exact isRef_rf _) ?_
    refine w_getI (ci := 2) (k := 4) (f := 68) C rfl i2 (by decide +kernel) (by decide) (by decide) rfl rfl dX1_init_95 (is_I (is_I (is_I (is_J (is_J (is_I (is_I (is_I (is_R (is_R (is_R (is_I (is_I (is_I (is_I (is_R ha)))))))))))))))) rI_Is ?_
    refine w_putI (ci := 2) (k := 5) (f := 69) C rfl i2 (by decide +kernel) (by decide) (by decide) rfl rfl tyX1 tyX1_ok nmX1 rfl rfl rfl dX1_init_98 (is_I (is_I (is_I (is_J (is_J (is_I (is_I (is_I (is_R (is_R (is_R (is_I (is_I (is_I (is_I (is_R ha)))))))))))))))) ?_
    exact w_vret C dX1_init_101 ⟨rfl, by simp [c1]⟩
