/-! ===== Parts: leave ===== -/
theorem bch_ad {z z1 : Sto} {a : Nat} (hF : adF z z1 a) : ∀ {L : List Nat} {r e : Option Nat}, bch z r L e → bch z1 r L e := by
  intro L
  induction L with
  | nil => intro r e h; exact h
  | cons g tl ih => intro r e h; exact ⟨h.1, hF.1 _ _ h.2.1, h.2.2.1, by rw [hF.2.2.2.1 75 g (Or.inl (by decide))]; exact ih h.2.2.2⟩
theorem cpS1_R (z : Sto) (pt g : Nat) (L : List Nat) : sR (cpS1 z pt g L) = sR z := by
  unfold cpS1
  split
  · exact cps_R _ _ _
  · exact cps_R _ _ _
theorem cpS_R (z : Sto) (pt g : Nat) (L : List Nat) {f b : Nat} (h : f ≠ 131) : sR (cpS z pt g L) f b = sR z f b := by
  unfold cpS
  rw [R_pR, if_neg (fun q => h q.1), cpS1_R]
theorem cpS_is {z : Sto} {pt g : Nat} {L : List Nat} {b k : Nat} (h : is z b k) : is (cpS z pt g L) b k := by
  unfold cpS cpS1
  split
  · exact is_R (is_I (cps_is h))
  · exact is_R (cps_is h)
def lvZ (z2 : Sto) (g : Nat) (cf : Option Nat) : Sto := match cf with
  | none => z2
  | some q => putI z2 72 q (if sI z2 72 g < sI z2 72 q then sI z2 72 g else sI z2 72 q)
def lvC (b : Bool) (n cap : Nat) : Nat := if b = true ∧ ¬ n < cap then 1 else 0
def lvS (b : Bool) (n cap : Nat) : Nat := if b = true ∧ ¬ n < cap then gcap cap else 0
/-- the store behind leave's add -/
def lvA (G : Gx) (z z1 : Sto) (g ol n : Nat) (f : Nat → Nat) (cap : Nat) : Prop := (isLog (sI z 65 g) = false ∧ z1 = z) ∨ (isLog (sI z 65 g) = true ∧ adF z z1 ol ∧ lst G z1 ol (n + 1) (va_up f n g) (if n < cap then cap else gcap cap))
theorem lvA.I {G : Gx} {z z1 : Sto} {g ol n : Nat} {f : Nat → Nat} {cap : Nat} (h : lvA G z z1 g ol n f cap) (k b : Nat) (h0 : k ≠ 0) (h2 : k ≠ 2) : sI z1 k b = sI z k b := by
  rcases h with ⟨-, rfl⟩ | ⟨-, hF, -⟩
  · rfl
  · exact hF.2.1 k b (Or.inl ⟨h0, h2⟩)
theorem lvA.R {G : Gx} {z z1 : Sto} {g ol n : Nat} {f : Nat → Nat} {cap : Nat} (h : lvA G z z1 g ol n f cap) (k b : Nat) (h1 : k ≠ 1) : sR z1 k b = sR z k b := by
  rcases h with ⟨-, rfl⟩ | ⟨-, hF, -⟩
  · rfl
  · exact hF.2.2.2.1 k b (Or.inl h1)
theorem lvA.is {G : Gx} {z z1 : Sto} {g ol n : Nat} {f : Nat → Nat} {cap b k : Nat} (h : lvA G z z1 g ol n f cap) (hb : is z b k) : is z1 b k := by
  rcases h with ⟨-, rfl⟩ | ⟨-, hF, -⟩
  · exact hb
  · exact hF.1 b k hb
theorem lvA.bch {G : Gx} {z z1 : Sto} {g ol n : Nat} {f : Nat → Nat} {cap : Nat} (h : lvA G z z1 g ol n f cap) {L : List Nat} {r e : Option Nat} (hb : bch z r L e) : bch z1 r L e := by
  rcases h with ⟨-, rfl⟩ | ⟨-, hF, -⟩
  · exact hb
  · exact bch_ad hF hb
set_option maxHeartbeats 4000000 in
set_option maxRecDepth 100000 in
theorem c_leave (l : Launch) (G : Gx) (z : Sto) {pt g ol n cap : Nat} {f : Nat → Nat} {L : List Nat} (hp : is z pt 4) (hg : is z g 2) (hol : sR z 128 pt = some ol) (hl : lst G z ol n f cap) (hn : n ≤ 600) (hL : sI z 72 g = sI z 71 g → bch z (sR z 131 pt) L (sR z 75 g)) (hcf : ∀ q, sR z 74 g = some q → is z q 2) : Ct l yX3_leave wsX3_leave ({ frames := 7, cells := (lvC (isLog (sI z 65 g)) n cap), slots := (lvS (isLog (sI z 65 g)) n cap), locals := 200 } : Room) G z [.ref pt, .ref g] (fun rv z' => rv = some (va_rf (sR z 74 g)) ∧ ∃ z1, lvA G z z1 g ol n f cap ∧ z' = lvZ (if sI z 72 g = sI z 71 g then cpS z1 pt g L else z1) g (sR z 74 g)) := by
  refine ct_of (cc := cX3_leave) (maxL := 3) (ret := (some (.object "TernaryNet$Gate"))) (lv0 := [(0, .ref pt), (1, .ref g)]) (by decide) rfl (by simp [lg_sl, cat_ref, cat_null, cat_int, cat_long, rf_cat]) (by simp [lv_args, cat_ref, cat_null, cat_int, cat_long, rf_cat]) ?_
  intro p e s m args below meth c C hin
  have i2 : ∀ w ∈ u_ws RX1 TX1 17, w ∈ wsX3_leave := by decide +kernel
  have i4 : ∀ w ∈ u_ws RX3 TX3 4, w ∈ wsX3_leave := by decide +kernel
  have tail2 : ∀ (z1 z2 : Sto) (cc0 ss0 : Nat), cc0 ≤ lvC (isLog (sI z 65 g)) n cap → ss0 ≤ lvS (isLog (sI z 65 g)) n cap → lvA G z z1 g ol n f cap → z2 = (if sI z 72 g = sI z 71 g then cpS z1 pt g L else z1) → Wp p l e ({ frames := 7, cells := (lvC (isLog (sI z 65 g)) n cap), slots := (lvS (isLog (sI z 65 g)) n cap), locals := 200 } : Room) s m args below meth c G 3 cc0 ss0 (MQ below (cPost G (fun rv z' => rv = some (va_rf (sR z 74 g)) ∧ ∃ z1, lvA G z z1 g ol n f cap ∧ z' = lvZ (if sI z 72 g = sI z 71 g then cpS z1 pt g L else z1) g (sR z 74 g))) args s ((lvC (isLog (sI z 65 g)) n cap)) ((lvS (isLog (sI z 65 g)) n cap)) (gA G)) z2 32 [(0, .ref pt), (1, .ref g)] [] := by
    intro z1 z2 cc0 ss0 hc hs hA hz2
    have hR : sR z2 74 g = sR z 74 g := by rw [hz2]; split <;> first | (rw [cpS_R _ _ _ _ (by decide)]; exact hA.R 74 g (by decide)) | exact hA.R 74 g (by decide)
    have his : ∀ b k, is z b k → is z2 b k := fun b k h => by rw [hz2]; split <;> first | exact cpS_is (hA.is h) | exact hA.is h
    refine w_widen hc hs ?_
    refine w_aload_n C 1 dX3_leave_32 rfl rfl (by first | rfl | exact isRef_rf _) ?_
    refine w_getR (ci := 2) (k := 10) (f := 74) C rfl i2 (by decide +kernel) (by decide) (by decide) rfl rfl dX3_leave_33 (his _ _ hg) hR ?_
    refine w_astore_nB (lvq := [(2, _), (0, _), (1, _)]) C 1 rfl rfl (by first | rfl | exact rf_cat _) dX3_leave_36 rfl (by first | rfl | exact isRef_rf _) (by decide) rfl ?_
    refine w_aload_n C 0 dX3_leave_37 rfl rfl (by first | rfl | exact isRef_rf _) ?_
    refine w_ifnull (tgt := 56) C dX3_leave_38 (by decide) (fun c1 => ?_) (fun a38 c1 => ?_)
    · refine w_aload_n C 0 dX3_leave_56 rfl rfl (by first | rfl | exact isRef_rf _) ?_
      exact w_aret C (Or.inl ⟨_, rfl⟩) (by first | rfl | exact isRef_rf _) dX3_leave_57 ⟨rfl, z1, hA, by simp [lvZ, c1, hz2]⟩
    · rw [c1]
      refine w_aload_n C 0 dX3_leave_41 rfl rfl (by first | rfl | exact isRef_rf _) ?_
      refine w_aload_n C 0 dX3_leave_42 rfl rfl (by first | rfl | exact isRef_rf _) ?_
      refine w_getI (ci := 2) (k := 8) (f := 72) C rfl i2 (by decide +kernel) (by decide) (by decide) rfl rfl dX3_leave_43 (his _ _ (hcf _ c1)) rfl ?_
      refine w_aload_n C 2 dX3_leave_46 rfl rfl (by first | rfl | exact isRef_rf _) ?_
      refine w_getI (ci := 2) (k := 8) (f := 72) C rfl i2 (by decide +kernel) (by decide) (by decide) rfl rfl dX3_leave_47 (his _ _ hg) rfl ?_
      refine w_min C (by decide +kernel) (by decide +kernel) (by decide +kernel) (by decide +kernel) (Nat.le_of_ble_eq_true rfl) (by simp [cat_ref, rf_cat]) (by simp) (by simp) dX3_leave_50 ?_
      refine w_putI (ci := 2) (k := 8) (f := 72) C rfl i2 (by decide +kernel) (by decide) (by decide) rfl rfl tyX1 tyX1_ok nmX1 rfl rfl rfl dX3_leave_53 (his _ _ (hcf _ c1)) ?_
      refine w_aload_n C 0 dX3_leave_56 rfl rfl (by first | rfl | exact isRef_rf _) ?_
      exact w_aret C (Or.inl ⟨_, rfl⟩) (by first | rfl | exact isRef_rf _) dX3_leave_57 ⟨rfl, z1, hA, by simp [lvZ, c1, hz2]⟩
  have tail : ∀ (z1 : Sto) (cc0 ss0 : Nat), cc0 ≤ lvC (isLog (sI z 65 g)) n cap → ss0 ≤ lvS (isLog (sI z 65 g)) n cap → lvA G z z1 g ol n f cap → Wp p l e ({ frames := 7, cells := (lvC (isLog (sI z 65 g)) n cap), slots := (lvS (isLog (sI z 65 g)) n cap), locals := 200 } : Room) s m args below meth c G 3 cc0 ss0 (MQ below (cPost G (fun rv z' => rv = some (va_rf (sR z 74 g)) ∧ ∃ z1, lvA G z z1 g ol n f cap ∧ z' = lvZ (if sI z 72 g = sI z 71 g then cpS z1 pt g L else z1) g (sR z 74 g))) args s ((lvC (isLog (sI z 65 g)) n cap)) ((lvS (isLog (sI z 65 g)) n cap)) (gA G)) z1 16 [(0, .ref pt), (1, .ref g)] [] := by
    intro z1 cc0 ss0 hc hs hA
    refine w_aload_n C 1 dX3_leave_16 rfl rfl (by first | rfl | exact isRef_rf _) ?_
    refine w_getI (ci := 2) (k := 8) (f := 72) C rfl i2 (by decide +kernel) (by decide) (by decide) rfl rfl dX3_leave_17 (hA.is hg) (hA.I 72 g (by decide) (by decide)) ?_
    refine w_aload_n C 1 dX3_leave_20 rfl rfl (by first | rfl | exact isRef_rf _) ?_
    refine w_getI (ci := 2) (k := 7) (f := 71) C rfl i2 (by decide +kernel) (by decide) (by decide) rfl rfl dX3_leave_21 (hA.is hg) (hA.I 71 g (by decide) (by decide)) ?_
    refine w_icmp_ne (tgt := 32) C dX3_leave_24 (by decide) (fun c1 => ?_) (fun c1 => ?_)
    · exact tail2 z1 z1 _ _ hc hs hA (by rw [if_neg c1])
    · refine w_aload_n C 0 dX3_leave_27 rfl rfl (by first | rfl | exact isRef_rf _) ?_
      refine w_aload_n C 1 dX3_leave_28 rfl rfl (by first | rfl | exact isRef_rf _) ?_
      refine w_callV (ci := 4) (As := [.ref g]) (rest := []) C (cwV 1 C.1.2.2.2.2 gX3_leave_X3_closePart rfl rfl rfl (by decide +kernel) ⟨Nat.le_of_ble_eq_true rfl, Nat.le_of_ble_eq_true rfl⟩) (hA.is hp) rfl (by decide) rfl rfl (by first | decide | simp [cat_ref, cat_null, cat_int, cat_long, rf_cat]) dX3_leave_29 ⟨by simpa using hc, by simpa using hs⟩ (c_closePart l G z1 (L := L) (hA.is hp) (hA.is hg) (by rw [hA.R 131 pt (by decide), hA.R 75 g (by decide)]; exact hA.bch (hL c1))) (fun rv z1 h1 => ?_)
      obtain ⟨rfl, e1⟩ := h1
      replace e1 := e1.symm
      subst e1
      exact w_sub [0, 1] rfl (tail2 z1 _ _ _ (by simpa using hc) (by simpa using hs) hA (by rw [if_pos c1]))
  refine w_aload_n C 1 dX3_leave_0 rfl rfl (by first | rfl | exact isRef_rf _) ?_
  refine w_callV (ci := 2) (As := []) (rest := []) C (cwV 0 C.1.2.2.2.2 gX3_leave_X1_isLogic rfl rfl rfl (by decide +kernel) ⟨Nat.le_of_ble_eq_true rfl, Nat.le_of_ble_eq_true rfl⟩) hg rfl (by decide) rfl rfl (by first | decide | simp [cat_ref, cat_null, cat_int, cat_long, rf_cat]) dX3_leave_1 (by simp) (c_isLogic l G z hg) (fun rv z1 h1 => ?_)
  obtain ⟨rfl, e1⟩ := h1
  replace e1 := e1.symm
  subst e1
  refine w_if_eq (tgt := 16) C dX3_leave_4 (by decide) (fun c1 => ?_) (fun c1 => ?_)
  · rw [bI_0] at c1
    exact tail z _ _ (by simp) (by simp) (Or.inl ⟨c1, rfl⟩)
  · have c2 : isLog (sI z 65 g) = true := by cases h9 : isLog (sI z 65 g) with | true => rfl | false => exact absurd (by rw [h9]; rfl) c1
    by_cases hlt : n < cap
    · refine w_aload_n C 0 dX3_leave_7 rfl rfl (by first | rfl | exact isRef_rf _) ?_
      refine w_getRs (ci := 4) (k := 0) (f := 128) C rfl i4 (by decide +kernel) (by decide) (by decide) rfl rfl dX3_leave_8 hp hol ?_
      refine w_aload_n C 1 dX3_leave_11 rfl rfl (by first | rfl | exact isRef_rf _) ?_
      refine w_callV (ci := 0) (As := [.ref g]) (rest := []) C (cwV 1 C.1.2.2.2.2 gX3_leave_Jx4a65c_add_9ea2d rfl rfl rfl (by decide +kernel) ⟨Nat.le_of_ble_eq_true rfl, Nat.le_of_ble_eq_true rfl⟩) hl.1 rfl (by decide) rfl rfl (by first | decide | simp [cat_ref, cat_null, cat_int, cat_long, rf_cat]) dX3_leave_12 (by simp) (c_addRoom l G z hl hlt hg) (fun rv z1 h1 => ?_)
      obtain ⟨rfl, hF, hl1⟩ := h1
      refine w_pop C dX3_leave_15 (by first | rfl | exact rf_cat _) ?_
      exact tail _ _ _ (by simp) (by simp) (Or.inr ⟨c2, hF, by rw [if_pos hlt]; exact hl1⟩)
    · have hcap : n = cap := by have := hl.2.2.1; omega
      subst hcap
      have e1 : lvC (isLog (sI z 65 g)) n n = 1 := by simp [lvC, c2]
      have e2 : lvS (isLog (sI z 65 g)) n n = gcap n := by simp [lvS, c2]
      refine w_aload_n C 0 dX3_leave_7 rfl rfl (by first | rfl | exact isRef_rf _) ?_
      refine w_getRs (ci := 4) (k := 0) (f := 128) C rfl i4 (by decide +kernel) (by decide) (by decide) rfl rfl dX3_leave_8 hp hol ?_
      refine w_aload_n C 1 dX3_leave_11 rfl rfl (by first | rfl | exact isRef_rf _) ?_
      refine w_callV (ci := 0) (As := [.ref g]) (rest := []) C (cwV 1 C.1.2.2.2.2 gX3_leave_Jx4a65c_add_9ea2d rfl rfl rfl (by decide +kernel) ⟨Nat.le_of_ble_eq_true rfl, Nat.le_of_ble_eq_true rfl⟩) hl.1 rfl (by decide) rfl rfl (by first | decide | simp [cat_ref, cat_null, cat_int, cat_long, rf_cat]) dX3_leave_12 ⟨by simp [e1], by simp [e2]⟩ (c_addGrow l G z hl (by omega) hg) (fun rv z1 h1 => ?_)
      obtain ⟨rfl, hF, hl1⟩ := h1
      refine w_pop C dX3_leave_15 (by first | rfl | exact rf_cat _) ?_
      exact tail _ _ _ (by simp [e1]) (by simp [e2]) (Or.inr ⟨c2, hF, by rw [if_neg (Nat.lt_irrefl n)]; exact hl1⟩)
