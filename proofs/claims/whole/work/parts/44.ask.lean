/-! ===== TernaryNet: settles, findParts, forgetAll, value, round, blame, cycle ===== -/
theorem nFd_len (N : NT) (v : Nat) : (nFd N v).length = ((nFL N).filter (fun t => decide (t.1 = v))).length := by unfold nFd; rw [List.length_map, List.length_reverse]
theorem flt_sum (n : Nat) : ∀ (L : List (Nat × Nat × Int32)), sumN (fun v => (L.filter (fun t => decide (t.1 = v))).length) n ≤ L.length := by
  intro L
  induction L with
  | nil => 
    have : sumN (fun v => (([] : List (Nat × Nat × Int32)).filter (fun t => decide (t.1 = v))).length) n = sumN (fun _ => 0 * 0) n := sumN_congr (fun _ _ => rfl)
    rw [this]
    clear this
    induction n with
    | zero => exact Nat.le_refl _
    | succ n ih => exact ih
  | cons t L ih =>
    by_cases ht : t.1 < n
    · have := sumN_upd (f := fun v => ((t :: L).filter (fun t => decide (t.1 = v))).length) (g := fun v => (L.filter (fun t => decide (t.1 = v))).length) ht (fun i _ hi => by
        show ((t :: L).filter (fun t => decide (t.1 = i))).length = _
        rw [List.filter_cons, decide_eq_false (fun e => hi e.symm), if_neg (by decide)])
      have e : ((t :: L).filter (fun y => decide (y.1 = t.1))).length = (L.filter (fun y => decide (y.1 = t.1))).length + 1 := by
        rw [List.filter_cons, decide_eq_true rfl, if_pos rfl, List.length_cons]
      rw [e] at this
      rw [List.length_cons]
      omega
    · have : sumN (fun v => ((t :: L).filter (fun t => decide (t.1 = v))).length) n = sumN (fun v => (L.filter (fun t => decide (t.1 = v))).length) n := sumN_congr (fun i hi => by
        have hne : ¬ t.1 = i := fun e => ht (by omega)
        rw [List.filter_cons, decide_eq_false hne, if_neg (by decide)])
      rw [this, List.length_cons]
      omega
theorem nFd_sum (N : NT) : sumN (fun v => (nFd N v).length) (nN N) ≤ (nFL N).length := by
  rw [sumN_congr (fun i _ => nFd_len N i)]
  exact flt_sum _ _
/-- the least number of a set, or -1 -/
def isLst (P : Nat → Prop) (r : Int32) : Prop := (∃ u, P u ∧ r = nI u ∧ ∀ w, P w → u ≤ w) ∨ ((∀ w, ¬ P w) ∧ r = -1)
theorem isLst.uniq {P : Nat → Prop} {r s : Int32} (h1 : isLst P r) (h2 : isLst P s) : r = s := by
  rcases h1 with ⟨u, a1, rfl, a2⟩ | ⟨a1, rfl⟩ <;> rcases h2 with ⟨v, b1, rfl, b2⟩ | ⟨b1, rfl⟩
  · rw [Nat.le_antisymm (a2 v b1) (b2 u a1)]
  · exact absurd a1 (b1 u)
  · exact absurd b1 (a1 v)
  · rfl
theorem isLst.ext {P P' : Nat → Prop} {r : Int32} (h : isLst P r) (he : ∀ u, P u ↔ P' u) : isLst P' r := by
  rcases h with ⟨u, a1, a2, a3⟩ | ⟨a1, a2⟩
  · exact Or.inl ⟨u, (he u).mp a1, a2, fun w hw => a3 w ((he w).mpr hw)⟩
  · exact Or.inr ⟨fun w hw => a1 w ((he w).mpr hw), a2⟩
/-- one more number -/
theorem isLst.more {P : Nat → Prop} {r : Int32} (h : isLst P r) (hb : ∀ u, P u → u < 2 ^ 31) {x : Nat} (hx : x < 2 ^ 31) {b : Prop} {db : Decidable b} : isLst (fun u => P u ∨ (b ∧ u = x)) (if b ∧ (r = -1 ∨ nI x < r) then nI x else r) := by
  by_cases hbb : b
  · rcases h with ⟨u, a1, a2, a3⟩ | ⟨a1, a2⟩
    · have hne : ¬ r = -1 := fun e => absurd ((a2 ▸ e : nI u = -1) ▸ nI_pos (hb u a1) : ¬ (-1 : Int32) < 0) (by decide)
      by_cases hlt : nI x < r
      · rw [if_pos ⟨hbb, Or.inr hlt⟩]
        rw [a2, nI_ltI hx (hb u a1)] at hlt
        exact Or.inl ⟨x, Or.inr ⟨hbb, rfl⟩, rfl, fun w hw => by rcases hw with hw | ⟨-, rfl⟩; have := a3 w hw; omega; omega⟩
      · rw [if_neg (fun q => q.2.elim hne hlt)]
        rw [a2, nI_ltI hx (hb u a1)] at hlt
        exact Or.inl ⟨u, Or.inl a1, a2, fun w hw => by rcases hw with hw | ⟨-, rfl⟩; exact a3 w hw; omega⟩
    · rw [if_pos ⟨hbb, Or.inl a2⟩]
      exact Or.inl ⟨x, Or.inr ⟨hbb, rfl⟩, rfl, fun w hw => by rcases hw with hw | ⟨-, rfl⟩; exact absurd hw (a1 w); omega⟩
  · rw [if_neg (fun q => hbb q.1)]
    exact h.ext (fun u => ⟨Or.inl, fun q => q.elim id (fun q => absurd q.1 hbb)⟩)
theorem luf_lst {z : Sto} {ga : Nat → Nat} {n : Nat} {V : Nat → Int32} (hn : n < 2 ^ 31) (h1 : ∀ u, u < n → sI z 69 (ga u) = V u ∧ sI z 64 (ga u) = nI u) : ∀ (L : List (Nat × Int32)) (P : Nat → Prop) (m : Int32), (∀ x ∈ L, x.1 < n) → (∀ u, P u → u < n) → isLst P m → isLst (fun u => P u ∨ (V u = 2 ∧ u ∈ L.map Prod.fst)) (luf z (L.map (fun x => (ga x.1, x.2))) m) := by
  intro L
  induction L with
  | nil => intro P m _ _ h; exact h.ext (fun u => ⟨Or.inl, fun q => q.elim id (fun q => by cases q.2)⟩)
  | cons x tl ih =>
    intro P m hL hP h
    have hx := hL x List.mem_cons_self
    obtain ⟨e1, e2⟩ := h1 x.1 hx
    show isLst _ (luf z (tl.map (fun x => (ga x.1, x.2))) (if sI z 69 (ga x.1) = 2 ∧ (m = -1 ∨ sI z 64 (ga x.1) < m) then sI z 64 (ga x.1) else m))
    rw [e1, e2]
    have h2 := h.more (fun u hu => by have := hP u hu; omega) (x := x.1) (by omega) (b := V x.1 = 2) (db := inferInstance)
    refine (ih _ _ (fun y hy => hL y (List.mem_cons_of_mem _ hy)) (fun u hu => ?_) h2).ext (fun u => ?_)
    · rcases hu with hu | ⟨-, rfl⟩
      · exact hP u hu
      · exact hx
    · rw [List.map_cons, List.mem_cons]
      constructor
      · rintro ((q | ⟨q1, q2⟩) | ⟨q1, q2⟩)
        · exact Or.inl q
        · exact Or.inr ⟨by rw [q2]; exact q1, Or.inl q2⟩
        · exact Or.inr ⟨q1, Or.inr q2⟩
      · rintro (q | ⟨q1, q2 | q2⟩)
        · exact Or.inl (Or.inl q)
        · exact Or.inl (Or.inr ⟨q2 ▸ q1, q2⟩)
        · exact Or.inr ⟨q1, q2⟩
/-- blame's answer -/
def isBlm (N : NT) (i : Nat) (r : Int32) : Prop := (¬ nV N (nRC N) i = 2 ∧ r = -1) ∨ (nV N (nRC N) i = 2 ∧ nSo N i = 0 ∧ r = nI i) ∨ (nV N (nRC N) i = 2 ∧ ¬ nSo N i = 0 ∧ isLst (fun u => nV N (nRC N) u = 2 ∧ u ∈ (nFd N i).map Prod.fst) r)

set_option maxHeartbeats 4000000 in
set_option maxRecDepth 100000 in
theorem c_settles (l : Launch) (G : Gx) (z : Sto) {x gl pt ol : Nat} {ga : Nat → Nat} {N : NT} (h : netI G z x gl pt ol ga N) : Ct l yX4_settles wsX4_settles ({ frames := 6, cells := 0, slots := 0, locals := 150 } : Room) G z [.ref x] (fun rv z' => rv = some (.int (bI (decide (nUn N (nRC N) = 0)))) ∧ iF pSK z z' ∧ netV z' x ga N ∧ netI G z' x gl pt ol ga N) := by
  refine ct_of (cc := cX4_settles) (maxL := 1) (ret := (some .boolean)) (lv0 := [(0, .ref x)]) (by decide) rfl (by simp [lg_sl, cat_ref, cat_null, cat_int, cat_long, rf_cat]) (by simp [lv_args, cat_ref, cat_null, cat_int, cat_long, rf_cat]) ?_
  intro p e s m args below meth c C hin
  have i5 : ∀ w ∈ u_ws RX4 TX4 9, w ∈ wsX4_settles := by decide +kernel
  have hG := h.2.1
  refine w_aload_n C 0 dX4_settles_0 rfl rfl (by first | rfl | exact isRef_rf _) ?_
  refine w_callV (ci := 5) (As := []) (rest := []) C (cwV 0 C.1.2.2.2.2 gX4_settles_X4_spreadKnown rfl rfl rfl (by decide +kernel) ⟨Nat.le_of_ble_eq_true rfl, Nat.le_of_ble_eq_true rfl⟩) hG.1.1 rfl (by decide) rfl rfl (by first | decide | simp [cat_ref, cat_null, cat_int, cat_long, rf_cat]) dX4_settles_1 ⟨Nat.le_of_ble_eq_true rfl, Nat.le_of_ble_eq_true rfl⟩ (c_spreadKnown l G z h) (fun rv z1 h9 => ?_)
  obtain ⟨rfl, hF, hV, hN⟩ := h9
  have hG1 := hN.2.1
  refine w_aload_n C 0 dX4_settles_4 rfl rfl (by first | rfl | exact isRef_rf _) ?_
  refine w_getI (ci := 5) (k := 5) (f := 165) C rfl i5 (by decide +kernel) (by decide) (by decide) rfl rfl dX4_settles_5 hG1.1.1 hV.2.1 ?_
  refine w_if_ne (tgt := 15) C dX4_settles_8 (by decide) (fun c1 => ?_) (fun c1 => ?_)
  · have hz : decide (nUn N (nRC N) = 0) = false := decide_eq_false (fun q => c1 (by rw [q]; rfl))
    refine w_iconst (v := 0) C dX4_settles_15 (by decide) ?_
    exact w_zret C dX4_settles_16 (by first | rfl | assumption) ⟨by rw [hz]; rfl, hF, hV, hN⟩
  · have hz : decide (nUn N (nRC N) = 0) = true := decide_eq_true ((nI_eq (b := 0) (by have := cnt_le (fun i => decide (nV N (nRC N) i = 2)) (nN N); have := h.1.1; unfold nUn; omega) (by omega)).mp c1)
    refine w_iconst (v := 1) C dX4_settles_11 (by decide) ?_
    refine w_goto (tgt := 16) C dX4_settles_12 (by decide) ?_
    exact w_zret C dX4_settles_16 (by first | rfl | assumption) ⟨by rw [hz]; rfl, hF, hV, hN⟩
theorem netI_fp {G : Gx} {z z' : Sto} {x gl pt ol : Nat} {ga : Nat → Nat} {N : NT} (h : netI G z x gl pt ol ga N) (hF : pF z z' ol) (hG : netG G z' x gl pt ol ga N) (hR : ptR G z' pt ol (nN N) ga (nSo N) (nFd N)) : netI G (putI z' 168 x 0) x gl pt ol ga N ∧ ptR G (putI z' 168 x 0) pt ol (nN N) ga (nSo N) (nFd N) := by
  obtain ⟨hO, -, ⟨vs, h1, h2⟩, -⟩ := h
  have I : ∀ f b, wIf f = false → f ≠ 0 ∧ f ≠ 2 → sI z' f b = sI z f b := fun f b h h' => hF.2.1 f b h (Or.inl h')
  have hF2 : iF (fun f => decide (f = 168)) z' (putI z' 168 x 0) := iF_I _ _ 168 x 0 rfl
  have hR2 := ptR_iF hR hF2 (by decide)
  refine ⟨⟨hO, netG_iF hG hF2 (by decide), ⟨vs, rI_If (by decide) ((I 167 x rfl (by decide)).trans h1), fun q => ?_⟩, false, rI_Is, fun _ => hR2⟩, hR2⟩
  obtain ⟨v1, v2, v3⟩ := h2 q
  exact ⟨fun i hi => ⟨rI_If (by decide) ((I 69 _ rfl (by decide)).trans (v1 i hi).1), rI_If (by decide) ((I 70 _ rfl (by decide)).trans (v1 i hi).2)⟩, rI_If (by decide) ((I 165 _ rfl (by decide)).trans v2), rI_If (by decide) ((I 166 _ rfl (by decide)).trans v3)⟩
set_option maxHeartbeats 4000000 in
set_option maxRecDepth 100000 in
theorem c_findParts (l : Launch) (G : Gx) (z : Sto) {x gl pt ol : Nat} {ga : Nat → Nat} {N : NT} (h : netI G z x gl pt ol ga N) : Ct l yX4_findParts wsX4_findParts ({ frames := 10, cells := 900, slots := 3600, locals := 310 } : Room) G z [.ref x] (fun rv z' => rv = none ∧ kfr z z' ∧ netI G z' x gl pt ol ga N ∧ ptR G z' pt ol (nN N) ga (nSo N) (nFd N)) := by
  refine ct_of (cc := cX4_findParts) (maxL := 1) (ret := none) (lv0 := [(0, .ref x)]) (by decide) rfl (by simp [lg_sl, cat_ref, cat_null, cat_int, cat_long, rf_cat]) (by simp [lv_args, cat_ref, cat_null, cat_int, cat_long, rf_cat]) ?_
  intro p e s m args below meth c C hin
  have i5 : ∀ w ∈ u_ws RX4 TX4 9, w ∈ wsX4_findParts := by decide +kernel
  have hG := h.2.1
  obtain ⟨ps, hp1, hp2⟩ := h.2.2.2
  obtain ⟨capg, hgl, hgc⟩ := hG.2.2.1
  obtain ⟨no, fo, cap, hlo, hcap⟩ := hG.2.2.2.1
  refine w_aload_n C 0 dX4_findParts_0 rfl rfl (by first | rfl | exact isRef_rf _) ?_
  refine w_getI (ci := 5) (k := 8) (f := 168) C rfl i5 (by decide +kernel) (by decide) (by decide) rfl rfl dX4_findParts_1 hG.1.1 hp1 ?_
  refine w_if_eq (tgt := 23) C dX4_findParts_4 (by decide) (fun c1 => ?_) (fun c1 => ?_)
  · have hps : ps = false := by cases ps with | false => rfl | true => exact absurd c1 (by decide)
    refine w_widen (k := 900) (n := 3600) (by omega) (by omega) ?_
    exact w_vret C dX4_findParts_23 (by first | exact ⟨rfl, (kfr_pF hF).tr (kfr_I _ x 0 (by decide)), hN⟩ | exact ⟨rfl, kfr.rf z, h, hp2 hps⟩)
  · refine w_aload_n C 0 dX4_findParts_7 rfl rfl (by first | rfl | exact isRef_rf _) ?_
    refine w_getRs (ci := 5) (k := 1) (f := 161) C rfl i5 (by decide +kernel) (by decide) (by decide) rfl rfl dX4_findParts_8 hG.1.1 hG.1.2.2 ?_
    refine w_aload_n C 0 dX4_findParts_11 rfl rfl (by first | rfl | exact isRef_rf _) ?_
    refine w_getRs (ci := 5) (k := 0) (f := 160) C rfl i5 (by decide +kernel) (by decide) (by decide) rfl rfl dX4_findParts_12 hG.1.1 hG.1.2.1 ?_
    refine w_callV (ci := 4) (As := [.ref gl]) (rest := []) C (cwV 1 C.1.2.2.2.2 gX4_findParts_X3_findIn rfl rfl rfl (by decide +kernel) ⟨Nat.le_of_ble_eq_true rfl, Nat.le_of_ble_eq_true rfl⟩) hG.2.1.1 rfl (by decide) rfl rfl (by first | decide | simp [cat_ref, cat_null, cat_int, cat_long, rf_cat]) dX4_findParts_15 ⟨Nat.le_of_ble_eq_true rfl, Nat.le_of_ble_eq_true rfl⟩ (c_findIn l G z hG.2.1.1 hG.2.1.2.1 hlo hcap hgl hG.2.1.2.2 hG.2.2.2.2.1 h.1.1 (Nat.le_trans (nFd_sum N) h.1.2.1)) (fun rv z1 h9 => ?_)
    obtain ⟨rfl, hF, hR⟩ := h9
    refine w_sep C (fun hE => ?_)
    have hG1 := netG_pF hG hF (by obtain ⟨-, -, os, cap9, q1, q2, -⟩ := hR; exact ⟨_, _, cap9, q1, q2⟩) hE
    have hN := netI_fp h hF hG1 hR
    refine w_aload_n C 0 dX4_findParts_18 rfl rfl (by first | rfl | exact isRef_rf _) ?_
    refine w_iconst (v := 0) C dX4_findParts_19 (by decide) ?_
    refine w_putI (ci := 5) (k := 8) (f := 168) C rfl i5 (by decide +kernel) (by decide) (by decide) rfl rfl tyX4 tyX4_ok nmX4 rfl rfl rfl dX4_findParts_20 hG1.1.1 ?_
    exact w_vret C dX4_findParts_23 (by first | exact ⟨rfl, (kfr_pF hF).tr (kfr_I _ x 0 (by decide)), hN⟩ | exact ⟨rfl, kfr.rf z, h, hp2 hps⟩)
set_option maxHeartbeats 4000000 in
set_option maxRecDepth 100000 in
theorem c_forgetAll (l : Launch) (G : Gx) (z : Sto) {x : Nat} (hx : is z x 5) : Ct l yX4_forgetAll wsX4_forgetAll ({ frames := 0, cells := 0, slots := 0, locals := 0 } : Room) G z [.ref x] (fun rv z' => rv = none ∧ z' = putI (putI z 167 x 1) 168 x 1) := by
  refine ct_of (cc := cX4_forgetAll) (maxL := 1) (ret := none) (lv0 := [(0, .ref x)]) (by decide) rfl (by simp [lg_sl, cat_ref, cat_null, cat_int, cat_long, rf_cat]) (by simp [lv_args, cat_ref, cat_null, cat_int, cat_long, rf_cat]) ?_
  intro p e s m args below meth c C hin
  have i5 : ∀ w ∈ u_ws RX4 TX4 9, w ∈ wsX4_forgetAll := by decide +kernel
  refine w_aload_n C 0 dX4_forgetAll_0 rfl rfl (by first | rfl | exact isRef_rf _) ?_
  refine w_iconst (v := 1) C dX4_forgetAll_1 (by decide) ?_
  refine w_putI (ci := 5) (k := 7) (f := 167) C rfl i5 (by decide +kernel) (by decide) (by decide) rfl rfl tyX4 tyX4_ok nmX4 rfl rfl rfl dX4_forgetAll_2 hx ?_
  refine w_aload_n C 0 dX4_forgetAll_5 rfl rfl (by first | rfl | exact isRef_rf _) ?_
  refine w_iconst (v := 1) C dX4_forgetAll_6 (by decide) ?_
  refine w_putI (ci := 5) (k := 8) (f := 168) C rfl i5 (by decide +kernel) (by decide) (by decide) rfl rfl tyX4 tyX4_ok nmX4 rfl rfl rfl dX4_forgetAll_7 (is_I hx) ?_
  exact w_vret C dX4_forgetAll_10 ⟨rfl, rfl⟩
set_option maxHeartbeats 4000000 in
set_option maxRecDepth 100000 in
theorem c_value (l : Launch) (G : Gx) (z : Sto) {x gl pt ol : Nat} {ga : Nat → Nat} {N : NT} {i : Nat} (h : netI G z x gl pt ol ga N) (hi : i < nN N) : Ct l yX4_value wsX4_value ({ frames := 6, cells := 0, slots := 0, locals := 150 } : Room) G z [.ref x, .int (nI i)] (fun rv z' => rv = some (.int (nV N (nRC N) i)) ∧ kfr z z' ∧ netI G z' x gl pt ol ga N) := by
  refine ct_of (cc := cX4_value) (maxL := 3) (ret := (some .int)) (lv0 := [(0, .ref x), (1, .int (nI i))]) (by decide) rfl (by simp [lg_sl, cat_ref, cat_null, cat_int, cat_long, rf_cat]) (by simp [lv_args, cat_ref, cat_null, cat_int, cat_long, rf_cat]) ?_
  intro p e s m args below meth c C hin
  have i2 : ∀ w ∈ u_ws RX1 TX1 17, w ∈ wsX4_value := by decide +kernel
  have hG := h.2.1
  obtain ⟨capg, hgl, hgc⟩ := hG.2.2.1
  have hgi := lst_is hgl hi
  refine w_aload_n C 0 dX4_value_0 rfl rfl (by first | rfl | exact isRef_rf _) ?_
  refine w_iload_n C 1 dX4_value_1 rfl rfl ?_
  refine w_callV (ci := 5) (As := [.int (nI i)]) (rest := []) C (cwV 1 C.1.2.2.2.2 gX4_value_X4_gateAt rfl rfl rfl (by decide +kernel) ⟨Nat.le_of_ble_eq_true rfl, Nat.le_of_ble_eq_true rfl⟩) hG.1.1 rfl (by decide) rfl rfl (by first | decide | simp [cat_ref, cat_null, cat_int, cat_long, rf_cat]) dX4_value_2 ⟨Nat.le_of_ble_eq_true rfl, Nat.le_of_ble_eq_true rfl⟩ (c_gateAt l G z hG.1.1 hG.1.2.1 hgl hi) (fun rv z1 h9 => ?_)
  obtain ⟨rfl, e9⟩ := h9
  replace e9 := e9.symm
  subst e9
  refine w_astore_nB (lvq := [(2, _), (0, _), (1, _)]) C 1 rfl rfl (by first | rfl | exact rf_cat _) dX4_value_5 rfl (by first | rfl | exact isRef_rf _) (by decide) rfl ?_
  refine w_aload_n C 1 dX4_value_6 rfl rfl (by first | rfl | exact isRef_rf _) ?_
  refine w_callV (ci := 5) (As := []) (rest := []) C (cwV 0 C.1.2.2.2.2 gX4_value_X4_spreadKnown rfl rfl rfl (by decide +kernel) ⟨Nat.le_of_ble_eq_true rfl, Nat.le_of_ble_eq_true rfl⟩) hG.1.1 rfl (by decide) rfl rfl (by first | decide | simp [cat_ref, cat_null, cat_int, cat_long, rf_cat]) dX4_value_7 ⟨Nat.le_of_ble_eq_true rfl, Nat.le_of_ble_eq_true rfl⟩ (c_spreadKnown l G z h) (fun rv z1 h9 => ?_)
  obtain ⟨rfl, hF, hV, hN⟩ := h9
  have hG1 := hN.2.1
  refine w_aload_n C 0 dX4_value_10 rfl rfl (by first | rfl | exact isRef_rf _) ?_
  refine w_getI (ci := 2) (k := 5) (f := 69) C rfl i2 (by decide +kernel) (by decide) (by decide) rfl rfl dX4_value_11 (hF.is hgi) (hV.1 i hi).1 ?_
  exact w_iret C dX4_value_14 ⟨rfl, (kfr_iF hF (fun _ q => pSK_192 q)), hN⟩
set_option maxHeartbeats 4000000 in
set_option maxRecDepth 100000 in
theorem c_round (l : Launch) (G : Gx) (z : Sto) {x gl pt ol : Nat} {ga : Nat → Nat} {N : NT} {i : Nat} (h : netI G z x gl pt ol ga N) (hi : i < nN N) : Ct l yX4_round wsX4_round ({ frames := 6, cells := 0, slots := 0, locals := 150 } : Room) G z [.ref x, .int (nI i)] (fun rv z' => rv = some (.int (nR N (nRC N) i)) ∧ kfr z z' ∧ netI G z' x gl pt ol ga N) := by
  refine ct_of (cc := cX4_round) (maxL := 3) (ret := (some .int)) (lv0 := [(0, .ref x), (1, .int (nI i))]) (by decide) rfl (by simp [lg_sl, cat_ref, cat_null, cat_int, cat_long, rf_cat]) (by simp [lv_args, cat_ref, cat_null, cat_int, cat_long, rf_cat]) ?_
  intro p e s m args below meth c C hin
  have i2 : ∀ w ∈ u_ws RX1 TX1 17, w ∈ wsX4_round := by decide +kernel
  have hG := h.2.1
  obtain ⟨capg, hgl, hgc⟩ := hG.2.2.1
  have hgi := lst_is hgl hi
  refine w_aload_n C 0 dX4_round_0 rfl rfl (by first | rfl | exact isRef_rf _) ?_
  refine w_iload_n C 1 dX4_round_1 rfl rfl ?_
  refine w_callV (ci := 5) (As := [.int (nI i)]) (rest := []) C (cwV 1 C.1.2.2.2.2 gX4_round_X4_gateAt rfl rfl rfl (by decide +kernel) ⟨Nat.le_of_ble_eq_true rfl, Nat.le_of_ble_eq_true rfl⟩) hG.1.1 rfl (by decide) rfl rfl (by first | decide | simp [cat_ref, cat_null, cat_int, cat_long, rf_cat]) dX4_round_2 ⟨Nat.le_of_ble_eq_true rfl, Nat.le_of_ble_eq_true rfl⟩ (c_gateAt l G z hG.1.1 hG.1.2.1 hgl hi) (fun rv z1 h9 => ?_)
  obtain ⟨rfl, e9⟩ := h9
  replace e9 := e9.symm
  subst e9
  refine w_astore_nB (lvq := [(2, _), (0, _), (1, _)]) C 1 rfl rfl (by first | rfl | exact rf_cat _) dX4_round_5 rfl (by first | rfl | exact isRef_rf _) (by decide) rfl ?_
  refine w_aload_n C 1 dX4_round_6 rfl rfl (by first | rfl | exact isRef_rf _) ?_
  refine w_callV (ci := 5) (As := []) (rest := []) C (cwV 0 C.1.2.2.2.2 gX4_round_X4_spreadKnown rfl rfl rfl (by decide +kernel) ⟨Nat.le_of_ble_eq_true rfl, Nat.le_of_ble_eq_true rfl⟩) hG.1.1 rfl (by decide) rfl rfl (by first | decide | simp [cat_ref, cat_null, cat_int, cat_long, rf_cat]) dX4_round_7 ⟨Nat.le_of_ble_eq_true rfl, Nat.le_of_ble_eq_true rfl⟩ (c_spreadKnown l G z h) (fun rv z1 h9 => ?_)
  obtain ⟨rfl, hF, hV, hN⟩ := h9
  have hG1 := hN.2.1
  refine w_aload_n C 0 dX4_round_10 rfl rfl (by first | rfl | exact isRef_rf _) ?_
  refine w_getI (ci := 2) (k := 6) (f := 70) C rfl i2 (by decide +kernel) (by decide) (by decide) rfl rfl dX4_round_11 (hF.is hgi) (hV.1 i hi).2 ?_
  exact w_iret C dX4_round_14 ⟨rfl, (kfr_iF hF (fun _ q => pSK_192 q)), hN⟩
set_option maxHeartbeats 4000000 in
set_option maxRecDepth 100000 in
theorem c_blame (l : Launch) (G : Gx) (z : Sto) {x gl pt ol : Nat} {ga : Nat → Nat} {N : NT} {i : Nat} (h : netI G z x gl pt ol ga N) (hi : i < nN N) : Ct l yX4_blame wsX4_blame ({ frames := 6, cells := 0, slots := 0, locals := 150 } : Room) G z [.ref x, .int (nI i)] (fun rv z' => ∃ r, rv = some (.int r) ∧ isBlm N i r ∧ kfr z z' ∧ netI G z' x gl pt ol ga N) := by
  refine ct_of (cc := cX4_blame) (maxL := 3) (ret := (some .int)) (lv0 := [(0, .ref x), (1, .int (nI i))]) (by decide) rfl (by simp [lg_sl, cat_ref, cat_null, cat_int, cat_long, rf_cat]) (by simp [lv_args, cat_ref, cat_null, cat_int, cat_long, rf_cat]) ?_
  intro p e s m args below meth c C hin
  have i2 : ∀ w ∈ u_ws RX1 TX1 17, w ∈ wsX4_blame := by decide +kernel
  have hG := h.2.1
  obtain ⟨capg, hgl, hgc⟩ := hG.2.2.1
  have hgi := lst_is hgl hi
  refine w_aload_n C 0 dX4_blame_0 rfl rfl (by first | rfl | exact isRef_rf _) ?_
  refine w_iload_n C 1 dX4_blame_1 rfl rfl ?_
  refine w_callV (ci := 5) (As := [.int (nI i)]) (rest := []) C (cwV 1 C.1.2.2.2.2 gX4_blame_X4_gateAt rfl rfl rfl (by decide +kernel) ⟨Nat.le_of_ble_eq_true rfl, Nat.le_of_ble_eq_true rfl⟩) hG.1.1 rfl (by decide) rfl rfl (by first | decide | simp [cat_ref, cat_null, cat_int, cat_long, rf_cat]) dX4_blame_2 ⟨Nat.le_of_ble_eq_true rfl, Nat.le_of_ble_eq_true rfl⟩ (c_gateAt l G z hG.1.1 hG.1.2.1 hgl hi) (fun rv z1 h9 => ?_)
  obtain ⟨rfl, e9⟩ := h9
  replace e9 := e9.symm
  subst e9
  refine w_astore_nB (lvq := [(2, _), (0, _), (1, _)]) C 1 rfl rfl (by first | rfl | exact rf_cat _) dX4_blame_5 rfl (by first | rfl | exact isRef_rf _) (by decide) rfl ?_
  refine w_aload_n C 1 dX4_blame_6 rfl rfl (by first | rfl | exact isRef_rf _) ?_
  refine w_callV (ci := 5) (As := []) (rest := []) C (cwV 0 C.1.2.2.2.2 gX4_blame_X4_spreadKnown rfl rfl rfl (by decide +kernel) ⟨Nat.le_of_ble_eq_true rfl, Nat.le_of_ble_eq_true rfl⟩) hG.1.1 rfl (by decide) rfl rfl (by first | decide | simp [cat_ref, cat_null, cat_int, cat_long, rf_cat]) dX4_blame_7 ⟨Nat.le_of_ble_eq_true rfl, Nat.le_of_ble_eq_true rfl⟩ (c_spreadKnown l G z h) (fun rv z1 h9 => ?_)
  obtain ⟨rfl, hF, hV, hN⟩ := h9
  have hG1 := hN.2.1
  refine w_aload_n C 0 dX4_blame_10 rfl rfl (by first | rfl | exact isRef_rf _) ?_
  refine w_getI (ci := 2) (k := 5) (f := 69) C rfl i2 (by decide +kernel) (by decide) (by decide) rfl rfl dX4_blame_11 (hF.is hgi) (hV.1 i hi).1 ?_
  refine w_iconst (v := 2) C dX4_blame_14 (by decide) ?_
  refine w_icmp_eq (tgt := 20) C dX4_blame_15 (by decide) (fun c1 => ?_) (fun c1 => ?_)
  · refine w_aload_n C 0 dX4_blame_20 rfl rfl (by first | rfl | exact isRef_rf _) ?_
    refine w_getI (ci := 2) (k := 1) (f := 65) C rfl i2 (by decide +kernel) (by decide) (by decide) rfl rfl dX4_blame_21 (hF.is hgi) (hG1.2.2.2.2.1.1 i hi).2.2.1 ?_
    refine w_if_ne (tgt := 34) C dX4_blame_24 (by decide) (fun c2 => ?_) (fun c2 => ?_)
    · refine w_aload_n C 0 dX4_blame_34 rfl rfl (by first | rfl | exact isRef_rf _) ?_
      refine w_callV (ci := 2) (As := []) (rest := []) C (cwV 0 C.1.2.2.2.2 gX4_blame_X1_leastUnknownFeed rfl rfl rfl (by decide +kernel) ⟨Nat.le_of_ble_eq_true rfl, Nat.le_of_ble_eq_true rfl⟩) (hF.is hgi) rfl (by decide) rfl rfl (by first | decide | simp [cat_ref, cat_null, cat_int, cat_long, rf_cat]) dX4_blame_35 ⟨Nat.le_of_ble_eq_true rfl, Nat.le_of_ble_eq_true rfl⟩ (c_leastUnknownFeed l G z1 (hF.is hgi) (hG1.2.2.2.2.1.1 i hi).2.2.2.1) (fun rv z2 h9 => ?_)
      obtain ⟨rfl, e9⟩ := h9
      replace e9 := e9.symm
      subst e9
      exact w_iret C dX4_blame_38 (by first | exact ⟨_, rfl, Or.inr (Or.inl ⟨c1, c2, rfl⟩), (kfr_iF hF (fun _ q => pSK_192 q)), hN⟩ | exact ⟨_, rfl, Or.inr (Or.inr ⟨c1, c2, (luf_lst (V := nV N (nRC N)) (n := nN N) (by have := h.1.1; omega) (fun u hu => ⟨(hV.1 u hu).1, (hG1.2.2.2.2.1.1 u hu).2.1⟩) _ (fun _ => False) _ ((hG1.2.2.2.2.1.1 i hi).2.2.2.2) (fun _ q => q.elim) (Or.inr ⟨fun _ q => q, rfl⟩)).ext (fun u => ⟨fun q => q.elim False.elim id, Or.inr⟩)⟩), (kfr_iF hF (fun _ q => pSK_192 q)), hN⟩)
    · refine w_aload_n C 0 dX4_blame_27 rfl rfl (by first | rfl | exact isRef_rf _) ?_
      refine w_getI (ci := 2) (k := 0) (f := 64) C rfl i2 (by decide +kernel) (by decide) (by decide) rfl rfl dX4_blame_28 (hF.is hgi) (hG1.2.2.2.2.1.1 i hi).2.1 ?_
      refine w_goto (tgt := 38) C dX4_blame_31 (by decide) ?_
      exact w_iret C dX4_blame_38 (by first | exact ⟨_, rfl, Or.inr (Or.inl ⟨c1, c2, rfl⟩), (kfr_iF hF (fun _ q => pSK_192 q)), hN⟩ | exact ⟨_, rfl, Or.inr (Or.inr ⟨c1, c2, (luf_lst (V := nV N (nRC N)) (n := nN N) (by have := h.1.1; omega) (fun u hu => ⟨(hV.1 u hu).1, (hG1.2.2.2.2.1.1 u hu).2.1⟩) _ (fun _ => False) _ ((hG1.2.2.2.2.1.1 i hi).2.2.2.2) (fun _ q => q.elim) (Or.inr ⟨fun _ q => q, rfl⟩)).ext (fun u => ⟨fun q => q.elim False.elim id, Or.inr⟩)⟩), (kfr_iF hF (fun _ q => pSK_192 q)), hN⟩)
  · refine w_iconst (v := (-1)) C dX4_blame_18 (by decide) ?_
    exact w_iret C dX4_blame_19 ⟨_, rfl, Or.inl ⟨c1, rfl⟩, (kfr_iF hF (fun _ q => pSK_192 q)), hN⟩
set_option maxHeartbeats 4000000 in
set_option maxRecDepth 100000 in
theorem c_cycle (l : Launch) (G : Gx) (z : Sto) {x gl pt ol : Nat} {ga : Nat → Nat} {N : NT} {i : Nat} (h : netI G z x gl pt ol ga N) (hi : i < nN N) : Ct l yX4_cycle wsX4_cycle ({ frames := 11, cells := 900, slots := 3600, locals := 340 } : Room) G z [.ref x, .int (nI i)] (fun rv z' => ∃ r, rv = some (.int r) ∧ isPart (nsc (nSo N) (nFd N)) i r ∧ kfr z z' ∧ netI G z' x gl pt ol ga N) := by
  refine ct_of (cc := cX4_cycle) (maxL := 3) (ret := (some .int)) (lv0 := [(0, .ref x), (1, .int (nI i))]) (by decide) rfl (by simp [lg_sl, cat_ref, cat_null, cat_int, cat_long, rf_cat]) (by simp [lv_args, cat_ref, cat_null, cat_int, cat_long, rf_cat]) ?_
  intro p e s m args below meth c C hin
  have i2 : ∀ w ∈ u_ws RX1 TX1 17, w ∈ wsX4_cycle := by decide +kernel
  have hG := h.2.1
  obtain ⟨capg, hgl, hgc⟩ := hG.2.2.1
  have hgi := lst_is hgl hi
  refine w_aload_n C 0 dX4_cycle_0 rfl rfl (by first | rfl | exact isRef_rf _) ?_
  refine w_iload_n C 1 dX4_cycle_1 rfl rfl ?_
  refine w_callV (ci := 5) (As := [.int (nI i)]) (rest := []) C (cwV 1 C.1.2.2.2.2 gX4_cycle_X4_gateAt rfl rfl rfl (by decide +kernel) ⟨Nat.le_of_ble_eq_true rfl, Nat.le_of_ble_eq_true rfl⟩) hG.1.1 rfl (by decide) rfl rfl (by first | decide | simp [cat_ref, cat_null, cat_int, cat_long, rf_cat]) dX4_cycle_2 ⟨Nat.le_of_ble_eq_true rfl, Nat.le_of_ble_eq_true rfl⟩ (c_gateAt l G z hG.1.1 hG.1.2.1 hgl hi) (fun rv z1 h9 => ?_)
  obtain ⟨rfl, e9⟩ := h9
  replace e9 := e9.symm
  subst e9
  refine w_astore_nB (lvq := [(2, _), (0, _), (1, _)]) C 1 rfl rfl (by first | rfl | exact rf_cat _) dX4_cycle_5 rfl (by first | rfl | exact isRef_rf _) (by decide) rfl ?_
  refine w_aload_n C 1 dX4_cycle_6 rfl rfl (by first | rfl | exact isRef_rf _) ?_
  refine w_callV (ci := 5) (As := []) (rest := []) C (cwV 0 C.1.2.2.2.2 gX4_cycle_X4_findParts rfl rfl rfl (by decide +kernel) ⟨Nat.le_of_ble_eq_true rfl, Nat.le_of_ble_eq_true rfl⟩) hG.1.1 rfl (by decide) rfl rfl (by first | decide | simp [cat_ref, cat_null, cat_int, cat_long, rf_cat]) dX4_cycle_7 ⟨Nat.le_of_ble_eq_true rfl, Nat.le_of_ble_eq_true rfl⟩ (c_findParts l G z h) (fun rv z1 h9 => ?_)
  obtain ⟨rfl, hK, hN, hR⟩ := h9
  refine w_aload_n C 0 dX4_cycle_10 rfl rfl (by first | rfl | exact isRef_rf _) ?_
  refine w_getI (ci := 2) (k := 14) (f := 78) C rfl i2 (by decide +kernel) (by decide) (by decide) rfl rfl dX4_cycle_11 (hK.1 _ _ hgi) rfl ?_
  exact w_iret C dX4_cycle_14 ⟨_, rfl, hR.1 i hi, hK, hN⟩
set_option maxHeartbeats 4000000 in
set_option maxRecDepth 100000 in
theorem x_value (l : Launch) (G : Gx) (z : Sto) {x gl pt ol : Nat} {ga : Nat → Nat} {N : NT} {j : Int32} (hl9 : l.stackTraces = false) (h : netI G z x gl pt ol ga N) (hj : j < 0 ∨ nI (nN N) ≤ j) : CtX l yX4_value wsX4_value ({ frames := 7, cells := 1, slots := 6, locals := 150 } : Room) G z [.ref x, .int j] (fun _ _ => False) (fun E z' => E = "java/lang/IndexOutOfBoundsException" ∧ z' = z) := by
  refine ctx_of (cc := cX4_value) (maxL := 3) (ret := (some .int)) (lv0 := [(0, .ref x), (1, .int j)]) (by decide) rfl (by simp [lg_sl, cat_ref, cat_null, cat_int, cat_long, rf_cat]) (by simp [lv_args, cat_ref, cat_null, cat_int, cat_long, rf_cat]) ?_
  intro p e s m args below meth c C hin ht9
  have i2 : ∀ w ∈ u_ws RX1 TX1 17, w ∈ wsX4_value := by decide +kernel
  have hG := h.2.1
  obtain ⟨capg, hgl, hgc⟩ := hG.2.2.1
  refine w_aload_n C 0 dX4_value_0 rfl rfl (by first | rfl | exact isRef_rf _) ?_
  refine w_iload_n C 1 dX4_value_1 rfl rfl ?_
  exact w_callVX (ci := 5) (As := [.int j]) (rest := []) C ht9 (cwV 1 C.1.2.2.2.2 gX4_value_X4_gateAt rfl rfl rfl (by decide +kernel) ⟨Nat.le_of_ble_eq_true rfl, Nat.le_of_ble_eq_true rfl⟩) hG.1.1 rfl (by decide) rfl rfl (by decide) dX4_value_2 ⟨Nat.le_of_ble_eq_true rfl, Nat.le_of_ble_eq_true rfl⟩ ⟨Nat.le_of_ble_eq_true rfl, Nat.le_of_ble_eq_true rfl⟩ (x_gateAt l G z hl9 hG.1.1 hG.1.2.1 hgl hj) (fun E z' q => q)
set_option maxHeartbeats 4000000 in
set_option maxRecDepth 100000 in
theorem x_round (l : Launch) (G : Gx) (z : Sto) {x gl pt ol : Nat} {ga : Nat → Nat} {N : NT} {j : Int32} (hl9 : l.stackTraces = false) (h : netI G z x gl pt ol ga N) (hj : j < 0 ∨ nI (nN N) ≤ j) : CtX l yX4_round wsX4_round ({ frames := 7, cells := 1, slots := 6, locals := 150 } : Room) G z [.ref x, .int j] (fun _ _ => False) (fun E z' => E = "java/lang/IndexOutOfBoundsException" ∧ z' = z) := by
  refine ctx_of (cc := cX4_round) (maxL := 3) (ret := (some .int)) (lv0 := [(0, .ref x), (1, .int j)]) (by decide) rfl (by simp [lg_sl, cat_ref, cat_null, cat_int, cat_long, rf_cat]) (by simp [lv_args, cat_ref, cat_null, cat_int, cat_long, rf_cat]) ?_
  intro p e s m args below meth c C hin ht9
  have i2 : ∀ w ∈ u_ws RX1 TX1 17, w ∈ wsX4_round := by decide +kernel
  have hG := h.2.1
  obtain ⟨capg, hgl, hgc⟩ := hG.2.2.1
  refine w_aload_n C 0 dX4_round_0 rfl rfl (by first | rfl | exact isRef_rf _) ?_
  refine w_iload_n C 1 dX4_round_1 rfl rfl ?_
  exact w_callVX (ci := 5) (As := [.int j]) (rest := []) C ht9 (cwV 1 C.1.2.2.2.2 gX4_round_X4_gateAt rfl rfl rfl (by decide +kernel) ⟨Nat.le_of_ble_eq_true rfl, Nat.le_of_ble_eq_true rfl⟩) hG.1.1 rfl (by decide) rfl rfl (by decide) dX4_round_2 ⟨Nat.le_of_ble_eq_true rfl, Nat.le_of_ble_eq_true rfl⟩ ⟨Nat.le_of_ble_eq_true rfl, Nat.le_of_ble_eq_true rfl⟩ (x_gateAt l G z hl9 hG.1.1 hG.1.2.1 hgl hj) (fun E z' q => q)
set_option maxHeartbeats 4000000 in
set_option maxRecDepth 100000 in
theorem x_blame (l : Launch) (G : Gx) (z : Sto) {x gl pt ol : Nat} {ga : Nat → Nat} {N : NT} {j : Int32} (hl9 : l.stackTraces = false) (h : netI G z x gl pt ol ga N) (hj : j < 0 ∨ nI (nN N) ≤ j) : CtX l yX4_blame wsX4_blame ({ frames := 7, cells := 1, slots := 6, locals := 150 } : Room) G z [.ref x, .int j] (fun _ _ => False) (fun E z' => E = "java/lang/IndexOutOfBoundsException" ∧ z' = z) := by
  refine ctx_of (cc := cX4_blame) (maxL := 3) (ret := (some .int)) (lv0 := [(0, .ref x), (1, .int j)]) (by decide) rfl (by simp [lg_sl, cat_ref, cat_null, cat_int, cat_long, rf_cat]) (by simp [lv_args, cat_ref, cat_null, cat_int, cat_long, rf_cat]) ?_
  intro p e s m args below meth c C hin ht9
  have i2 : ∀ w ∈ u_ws RX1 TX1 17, w ∈ wsX4_blame := by decide +kernel
  have hG := h.2.1
  obtain ⟨capg, hgl, hgc⟩ := hG.2.2.1
  refine w_aload_n C 0 dX4_blame_0 rfl rfl (by first | rfl | exact isRef_rf _) ?_
  refine w_iload_n C 1 dX4_blame_1 rfl rfl ?_
  exact w_callVX (ci := 5) (As := [.int j]) (rest := []) C ht9 (cwV 1 C.1.2.2.2.2 gX4_blame_X4_gateAt rfl rfl rfl (by decide +kernel) ⟨Nat.le_of_ble_eq_true rfl, Nat.le_of_ble_eq_true rfl⟩) hG.1.1 rfl (by decide) rfl rfl (by decide) dX4_blame_2 ⟨Nat.le_of_ble_eq_true rfl, Nat.le_of_ble_eq_true rfl⟩ ⟨Nat.le_of_ble_eq_true rfl, Nat.le_of_ble_eq_true rfl⟩ (x_gateAt l G z hl9 hG.1.1 hG.1.2.1 hgl hj) (fun E z' q => q)
set_option maxHeartbeats 4000000 in
set_option maxRecDepth 100000 in
theorem x_cycle (l : Launch) (G : Gx) (z : Sto) {x gl pt ol : Nat} {ga : Nat → Nat} {N : NT} {j : Int32} (hl9 : l.stackTraces = false) (h : netI G z x gl pt ol ga N) (hj : j < 0 ∨ nI (nN N) ≤ j) : CtX l yX4_cycle wsX4_cycle ({ frames := 7, cells := 1, slots := 6, locals := 150 } : Room) G z [.ref x, .int j] (fun _ _ => False) (fun E z' => E = "java/lang/IndexOutOfBoundsException" ∧ z' = z) := by
  refine ctx_of (cc := cX4_cycle) (maxL := 3) (ret := (some .int)) (lv0 := [(0, .ref x), (1, .int j)]) (by decide) rfl (by simp [lg_sl, cat_ref, cat_null, cat_int, cat_long, rf_cat]) (by simp [lv_args, cat_ref, cat_null, cat_int, cat_long, rf_cat]) ?_
  intro p e s m args below meth c C hin ht9
  have i2 : ∀ w ∈ u_ws RX1 TX1 17, w ∈ wsX4_cycle := by decide +kernel
  have hG := h.2.1
  obtain ⟨capg, hgl, hgc⟩ := hG.2.2.1
  refine w_aload_n C 0 dX4_cycle_0 rfl rfl (by first | rfl | exact isRef_rf _) ?_
  refine w_iload_n C 1 dX4_cycle_1 rfl rfl ?_
  exact w_callVX (ci := 5) (As := [.int j]) (rest := []) C ht9 (cwV 1 C.1.2.2.2.2 gX4_cycle_X4_gateAt rfl rfl rfl (by decide +kernel) ⟨Nat.le_of_ble_eq_true rfl, Nat.le_of_ble_eq_true rfl⟩) hG.1.1 rfl (by decide) rfl rfl (by decide) dX4_cycle_2 ⟨Nat.le_of_ble_eq_true rfl, Nat.le_of_ble_eq_true rfl⟩ ⟨Nat.le_of_ble_eq_true rfl, Nat.le_of_ble_eq_true rfl⟩ (x_gateAt l G z hl9 hG.1.1 hG.1.2.1 hgl hj) (fun E z' q => q)
set_option maxHeartbeats 4000000 in
set_option maxRecDepth 100000 in
theorem x_cut (l : Launch) (G : Gx) (z : Sto) {x gl pt ol : Nat} {ga : Nat → Nat} {N : NT} {j : Int32} (hl9 : l.stackTraces = false) (h : netI G z x gl pt ol ga N) (hj : j < 0 ∨ nI (nN N) ≤ j) : CtX l yX4_cut wsX4_cut ({ frames := 7, cells := 1, slots := 6, locals := 150 } : Room) G z [.ref x, .int j] (fun _ _ => False) (fun E z' => E = "java/lang/IndexOutOfBoundsException" ∧ z' = z) := by
  refine ctx_of (cc := cX4_cut) (maxL := 3) (ret := (some .int)) (lv0 := [(0, .ref x), (1, .int j)]) (by decide) rfl (by simp [lg_sl, cat_ref, cat_null, cat_int, cat_long, rf_cat]) (by simp [lv_args, cat_ref, cat_null, cat_int, cat_long, rf_cat]) ?_
  intro p e s m args below meth c C hin ht9
  have i5 : ∀ w ∈ u_ws RX4 TX4 9, w ∈ wsX4_cut := by decide +kernel
  have hG := h.2.1
  obtain ⟨capg, hgl, hgc⟩ := hG.2.2.1
  refine w_aload_n C 0 dX4_cut_0 rfl rfl (by first | rfl | exact isRef_rf _) ?_
  refine w_iload_n C 1 dX4_cut_1 rfl rfl ?_
  exact w_callVX (ci := 5) (As := [.int j]) (rest := []) C ht9 (cwV 1 C.1.2.2.2.2 gX4_cut_X4_gateAt rfl rfl rfl (by decide +kernel) ⟨Nat.le_of_ble_eq_true rfl, Nat.le_of_ble_eq_true rfl⟩) hG.1.1 rfl (by decide) rfl rfl (by decide) dX4_cut_2 ⟨Nat.le_of_ble_eq_true rfl, Nat.le_of_ble_eq_true rfl⟩ ⟨Nat.le_of_ble_eq_true rfl, Nat.le_of_ble_eq_true rfl⟩ (x_gateAt l G z hl9 hG.1.1 hG.1.2.1 hgl hj) (fun E z' q => q)
