/-! ===== Lanes: spreadLanes, the batches, settlingChoices; choices ===== -/
theorem unW_le (N : NT) (W : Wt) : unW N W ≤ 64 * nN N := by
  have h1 : unW N W ≤ sumN (fun _ => nN N) 64 := sumN_le (fun b _ => cnt_le _ _)
  have h2 : ∀ k, sumN (fun _ => nN N) k = k * nN N := by
    intro k
    induction k with
    | zero => simp [sumN]
    | succ k ih => show sumN (fun _ => nN N) k + nN N = _; rw [ih, Nat.succ_mul]
  rw [h2] at h1
  exact h1
def fr (N : NT) (i : Nat) : Bool := decide (nSo N i = 0 ∧ nHd N i = 2)
/-- the net under choice c -/
def chH (N : NT) (c : Nat) (i : Nat) : Int32 := if fr N i then (if c.testBit (cnt (fr N) i) then 1 else 0) else nHd N i
def nCh (N : NT) (c : Nat) : NT := (nN N, nSo N, chH N c, nFL N)
def stl (N : NT) (c : Nat) : Bool := decide (nUn (nCh N c) (nRC (nCh N c)) = 0)
def nCho (N : NT) : Nat := cnt (stl N) (2 ^ cnt (fr N) (nN N))
theorem fr_le {N : NT} (hO : nOK N) : cnt (fr N) (nN N) ≤ 12 := Nat.le_trans (cnt_mono (fun i _ q => decide_eq_true (of_decide_eq_true q : nSo N i = 0 ∧ nHd N i = 2).1)) hO.2.2.2.2.2.1
theorem fr_eq {N : NT} (i : Nat) : decide (nSo N i = 0 ∧ nV N 0 i = 2) = fr N i := by
  unfold fr
  refine decide_eq_decide.mpr ⟨fun q => ⟨q.1, (nV_0 (log_0 q.1)).symm.trans q.2⟩, fun q => ⟨q.1, (nV_0 (log_0 q.1)).trans q.2⟩⟩
theorem nOK_ch {N : NT} (hO : nOK N) (c : Nat) : nOK (nCh N c) := by
  obtain ⟨a1, a2, a3, a4, a5, a6, a7, a8⟩ := hO
  refine ⟨a1, a2, a3, a4, fun i hi => ?_, a6, a7, a8⟩
  show (chH N c i = 0 ∨ chH N c i = 1 ∨ chH N c i = 2) ∧ (nSo N i = 1 → chH N c i = 0 ∨ chH N c i = 1)
  unfold chH
  cases hf : fr N i with
  | true =>
    rw [if_pos rfl]
    split
    · exact ⟨Or.inr (Or.inl rfl), fun _ => Or.inr rfl⟩
    · exact ⟨Or.inl rfl, fun _ => Or.inl rfl⟩
  | false => exact a5 i hi
theorem nCh_0 (N : NT) (c i : Nat) : nV (nCh N c) 0 i = if fr N i then (if c.testBit (cnt (fr N) i) then 1 else 0) else nV N 0 i := by
  show (if isLog (nSo N i) then (2 : Int32) else chH N c i) = _
  unfold chH
  cases hf : fr N i with
  | true =>
    have : nSo N i = 0 := (of_decide_eq_true hf : nSo N i = 0 ∧ nHd N i = 2).1
    rw [log_0 this]
    rfl
  | false => rfl
theorem lb_bits : ∀ pl, pl < 6 → ∀ b, b < 64 → tb (lBits pl) b = b.testBit pl := by decide +kernel
theorem sh_bits : ∀ t, t < 64 → ∀ k, k < 6 → ((nI t >>> ((nI (k + 6) - 6) &&& 31)) &&& 1) = if t.testBit k then 1 else 0 := by decide +kernel
theorem ch_bits : ∀ f, f < 6 → ∀ b, b < 64 → tb (((1 : Int64) <<< (((1 : Int32) <<< (nI f &&& 31)).toInt64 &&& 63)) - 1) b = decide (b < 2 ^ f) := by decide +kernel
theorem bt_eq : ∀ f, f ≤ 12 → 6 < f → (1 : Int32) <<< ((nI f - 6) &&& 31) = nI (2 ^ (f - 6)) := by decide +kernel
theorem tb_lo {t b pl : Nat} (hb : b < 64) (hp : pl < 6) : (64 * t + b).testBit pl = b.testBit pl := by
  rw [Nat.testBit_eq_decide_div_mod_eq, Nat.testBit_eq_decide_div_mod_eq]
  refine decide_eq_decide.mpr ?_
  match pl, hp with
  | 0, _ => omega
  | 1, _ => omega
  | 2, _ => omega
  | 3, _ => omega
  | 4, _ => omega
  | 5, _ => omega
theorem tb_hi {t b k : Nat} (hb : b < 64) : (64 * t + b).testBit (k + 6) = t.testBit k := by
  rw [← Nat.testBit_div_two_pow, show (64 * t + b) / 2 ^ 6 = t by omega]
theorem cnt_shift (P : Nat → Bool) (a : Nat) : ∀ m, cnt P (a + m) = cnt P a + cnt (fun b => P (a + b)) m := by
  intro m
  induction m with
  | zero => rfl
  | succ m ih => show cnt P (a + m) + (if P (a + m) then 1 else 0) = cnt P a + (cnt (fun b => P (a + b)) m + (if P (a + m) then 1 else 0)); rw [ih]; omega
theorem cnt_cut (P : Nat → Bool) (m : Nat) : ∀ k, cnt (fun b => P b && decide (b < m)) (m + k) = cnt P m := by
  intro k
  induction k with
  | zero => exact cnt_congr (fun i hi => by rw [decide_eq_true (show i < m from hi), Bool.and_true])
  | succ k ih =>
    show cnt (fun b => P b && decide (b < m)) (m + k) + (if (P (m + k) && decide (m + k < m)) then 1 else 0) = _
    rw [ih, decide_eq_false (by omega), Bool.and_false]
    rfl
set_option maxHeartbeats 4000000 in
set_option maxRecDepth 100000 in
theorem c_spreadLanes (l : Launch) (G : Gx) (z : Sto) {la gl ol n : Nat} {ga : Nat → Nat} {N : NT} {os : List Nat} {W Vi : Wt} (h : lnH G z la gl ol n ga N os) (hV : Vfix N Vi) (hr : lrep z ga (nN N) W) (hI : LInv N Vi W) : Ct l yX2_spreadLanes wsX2_spreadLanes ({ frames := 4, cells := 0, slots := 0, locals := 110 } : Room) G z [.ref la] (fun rv z' => rv = none ∧ jF z z' ∧ ∃ W1, lrep z' ga (nN N) W1 ∧ LInv N Vi W1 ∧ ∀ b, b < 64 → ∀ i, i < nN N → isLog (nSo N i) = true → W1 b i = gvN N (W1 b) i) := by
  refine ct_of (cc := cX2_spreadLanes) (maxL := 3) (ret := none) (lv0 := [(0, .ref la)]) (by decide) rfl (by simp [lg_sl, cat_ref, cat_null, cat_int, cat_long, rf_cat]) (by simp [lv_args, cat_ref, cat_null, cat_int, cat_long, rf_cat]) ?_
  intro p e s m args below meth c C hin
  have hnn := h.2.1
  subst hnn
  have hO := h.2.2.2.2.2.2.2.2.2
  have hall := h.2.2.2.2.2.1
  have done : ∀ (z1 : Sto) (pa : Nat) (W1 : Wt), jF z z1 → lrep z1 ga (nN N) W1 → LInv N Vi W1 → (∀ i, i ∈ os → ∀ b, b < 64 → W1 b i = gvN N (W1 b) i) → Wp p l e ({ frames := 4, cells := 0, slots := 0, locals := 110 } : Room) s m args below meth c G 3 0 0 (MQ below (cPost G (fun rv z' => rv = none ∧ jF z z' ∧ ∃ W1, lrep z' ga (nN N) W1 ∧ LInv N Vi W1 ∧ ∀ b, b < 64 → ∀ i, i < nN N → isLog (nSo N i) = true → W1 b i = gvN N (W1 b) i)) args s (0) (0) (gA G)) z1 4 [(1, .int (bI false)), (2, .int (nI pa)), (0, .ref la)] [] := by
    intro z1 pa W1 hF h1 h2 h3
    refine w_iload_n C 0 dX2_spreadLanes_4 rfl rfl ?_
    refine w_if_eq (tgt := 38) C dX2_spreadLanes_5 (by decide) (fun c1 => ?_) (fun c1 => ?_)
    · exact w_vret C dX2_spreadLanes_38 ⟨rfl, hF, W1, h1, h2, fun b hb i hi hl => h3 i (hall i hi hl) b hb⟩
    · exact absurd rfl c1
  have loop : ∀ (k pa : Nat) (z1 : Sto) (W1 : Wt), pa + k ≤ 38400 → jF z z1 → lrep z1 ga (nN N) W1 → LInv N Vi W1 → unW N W1 ≤ k → Wp p l e ({ frames := 4, cells := 0, slots := 0, locals := 110 } : Room) s m args below meth c G 3 0 0 (MQ below (cPost G (fun rv z' => rv = none ∧ jF z z' ∧ ∃ W1, lrep z' ga (nN N) W1 ∧ LInv N Vi W1 ∧ ∀ b, b < 64 → ∀ i, i < nN N → isLog (nSo N i) = true → W1 b i = gvN N (W1 b) i)) args s (0) (0) (gA G)) z1 4 [(1, .int (bI true)), (2, .int (nI pa)), (0, .ref la)] [] := by
    intro k
    induction k with
    | zero =>
      intro pa z1 W1 hpa hF h1 h2 hu
      have hx1 := lnH_jF h hF
      have fin : ∀ (g : Bool) (z2 : Sto), psP z1 z2 ga N Vi W1 g (fun i => i ∈ os) → Wp p l e ({ frames := 4, cells := 0, slots := 0, locals := 110 } : Room) s m args below meth c G 3 0 0 (MQ below (cPost G (fun rv z' => rv = none ∧ jF z z' ∧ ∃ W1, lrep z' ga (nN N) W1 ∧ LInv N Vi W1 ∧ ∀ b, b < 64 → ∀ i, i < nN N → isLog (nSo N i) = true → W1 b i = gvN N (W1 b) i)) args s (0) (0) (gA G)) z2 31 [(1, .int (bI true)), (2, .int (nI pa)), (0, .ref la)] [.int (bI g)] := by
        intro g z2 hp
        obtain ⟨q0, W2, q1, q2, q3, q4, q5⟩ := hp
        have hg : g = false := by cases g with | false => rfl | true => exact absurd (q4 rfl) (by omega)
        subst hg
        refine w_istore_nB (lvq := [(1, _), (2, _), (0, _)]) C 2 rfl rfl (by first | rfl | exact rf_cat _) dX2_spreadLanes_31 rfl (by decide) rfl ?_
        refine w_iincB (v := nI (pa + 1)) (lvq := [(2, _), (1, _), (0, _)]) C 1 0 rfl rfl (by first | rfl | exact rf_cat _) dX2_spreadLanes_32 rfl (nI_1 pa) (by decide) rfl ?_
        refine w_goto (tgt := 4) C dX2_spreadLanes_35 (by decide) ?_
        exact w_sub [1, 0, 2] rfl (done z2 (pa + 1) W2 (hF.tr q0) q1 q2 (q3 rfl))
      refine w_iload_n C 0 dX2_spreadLanes_4 rfl rfl ?_
      refine w_if_eq (tgt := 38) C dX2_spreadLanes_5 (by decide) (fun c1 => ?_) (fun c1 => ?_)
      · exact absurd c1 (by decide)
      · refine w_iload_n C 1 dX2_spreadLanes_8 rfl rfl ?_
        refine w_ldc (v := 38401) C dX2_spreadLanes_9 (by decide +kernel) ?_
        refine w_icmp_ge (tgt := 38) C dX2_spreadLanes_11 (by decide) (fun c2 => ?_) (fun c2 => ?_)
        · exact absurd c2 (nI_ge (a := pa) (b := 38401) (by omega) (by decide))
        · refine w_iload_n C 1 dX2_spreadLanes_14 rfl rfl ?_
          refine w_iconst (v := 1) C dX2_spreadLanes_15 (by decide) ?_
          refine w_iand C dX2_spreadLanes_16 ?_
          refine w_if_ne (tgt := 27) C dX2_spreadLanes_17 (by decide) (fun c3 => ?_) (fun c3 => ?_)
          · refine w_aload_n C 2 dX2_spreadLanes_27 rfl rfl (by first | rfl | exact isRef_rf _) ?_
            refine w_callV (ci := 3) (As := []) (rest := []) C (cwV 0 C.1.2.2.2.2 gX2_spreadLanes_X2_passBackwards rfl rfl rfl (by decide +kernel) ⟨Nat.le_of_ble_eq_true rfl, Nat.le_of_ble_eq_true rfl⟩) hx1.1.1 rfl (by decide) rfl rfl (by first | decide | simp [cat_ref, cat_null, cat_int, cat_long, rf_cat]) dX2_spreadLanes_28 ⟨Nat.le_of_ble_eq_true rfl, Nat.le_of_ble_eq_true rfl⟩ (c_passBackwards l G z1 hx1 hV h1 h2) (fun rv z2 h9 => ?_)
            obtain ⟨g, rfl, hp⟩ := h9
            exact w_sub [0, 1, 2] rfl (fin g z2 hp)
          · refine w_aload_n C 2 dX2_spreadLanes_20 rfl rfl (by first | rfl | exact isRef_rf _) ?_
            refine w_callV (ci := 3) (As := []) (rest := []) C (cwV 0 C.1.2.2.2.2 gX2_spreadLanes_X2_passForwards rfl rfl rfl (by decide +kernel) ⟨Nat.le_of_ble_eq_true rfl, Nat.le_of_ble_eq_true rfl⟩) hx1.1.1 rfl (by decide) rfl rfl (by first | decide | simp [cat_ref, cat_null, cat_int, cat_long, rf_cat]) dX2_spreadLanes_21 ⟨Nat.le_of_ble_eq_true rfl, Nat.le_of_ble_eq_true rfl⟩ (c_passForwards l G z1 hx1 hV h1 h2) (fun rv z2 h9 => ?_)
            obtain ⟨g, rfl, hp⟩ := h9
            refine w_goto (tgt := 31) C dX2_spreadLanes_24 (by decide) ?_
            exact w_sub [0, 1, 2] rfl (fin g z2 hp)
    | succ k ih =>
      intro pa z1 W1 hpa hF h1 h2 hu
      have hx1 := lnH_jF h hF
      have fin : ∀ (g : Bool) (z2 : Sto), psP z1 z2 ga N Vi W1 g (fun i => i ∈ os) → Wp p l e ({ frames := 4, cells := 0, slots := 0, locals := 110 } : Room) s m args below meth c G 3 0 0 (MQ below (cPost G (fun rv z' => rv = none ∧ jF z z' ∧ ∃ W1, lrep z' ga (nN N) W1 ∧ LInv N Vi W1 ∧ ∀ b, b < 64 → ∀ i, i < nN N → isLog (nSo N i) = true → W1 b i = gvN N (W1 b) i)) args s (0) (0) (gA G)) z2 31 [(1, .int (bI true)), (2, .int (nI pa)), (0, .ref la)] [.int (bI g)] := by
        intro g z2 hp
        obtain ⟨q0, W2, q1, q2, q3, q4, q5⟩ := hp
        refine w_istore_nB (lvq := [(1, _), (2, _), (0, _)]) C 2 rfl rfl (by first | rfl | exact rf_cat _) dX2_spreadLanes_31 rfl (by decide) rfl ?_
        refine w_iincB (v := nI (pa + 1)) (lvq := [(2, _), (1, _), (0, _)]) C 1 0 rfl rfl (by first | rfl | exact rf_cat _) dX2_spreadLanes_32 rfl (nI_1 pa) (by decide) rfl ?_
        refine w_goto (tgt := 4) C dX2_spreadLanes_35 (by decide) ?_
        cases g with
        | false => exact w_sub [1, 0, 2] rfl (done z2 (pa + 1) W2 (hF.tr q0) q1 q2 (q3 rfl))
        | true => exact w_sub [1, 0, 2] rfl (ih (pa + 1) z2 W2 (by omega) (hF.tr q0) q1 q2 (by have := q4 rfl; omega))
      refine w_iload_n C 0 dX2_spreadLanes_4 rfl rfl ?_
      refine w_if_eq (tgt := 38) C dX2_spreadLanes_5 (by decide) (fun c1 => ?_) (fun c1 => ?_)
      · exact absurd c1 (by decide)
      · refine w_iload_n C 1 dX2_spreadLanes_8 rfl rfl ?_
        refine w_ldc (v := 38401) C dX2_spreadLanes_9 (by decide +kernel) ?_
        refine w_icmp_ge (tgt := 38) C dX2_spreadLanes_11 (by decide) (fun c2 => ?_) (fun c2 => ?_)
        · exact absurd c2 (nI_ge (a := pa) (b := 38401) (by omega) (by decide))
        · refine w_iload_n C 1 dX2_spreadLanes_14 rfl rfl ?_
          refine w_iconst (v := 1) C dX2_spreadLanes_15 (by decide) ?_
          refine w_iand C dX2_spreadLanes_16 ?_
          refine w_if_ne (tgt := 27) C dX2_spreadLanes_17 (by decide) (fun c3 => ?_) (fun c3 => ?_)
          · refine w_aload_n C 2 dX2_spreadLanes_27 rfl rfl (by first | rfl | exact isRef_rf _) ?_
            refine w_callV (ci := 3) (As := []) (rest := []) C (cwV 0 C.1.2.2.2.2 gX2_spreadLanes_X2_passBackwards rfl rfl rfl (by decide +kernel) ⟨Nat.le_of_ble_eq_true rfl, Nat.le_of_ble_eq_true rfl⟩) hx1.1.1 rfl (by decide) rfl rfl (by first | decide | simp [cat_ref, cat_null, cat_int, cat_long, rf_cat]) dX2_spreadLanes_28 ⟨Nat.le_of_ble_eq_true rfl, Nat.le_of_ble_eq_true rfl⟩ (c_passBackwards l G z1 hx1 hV h1 h2) (fun rv z2 h9 => ?_)
            obtain ⟨g, rfl, hp⟩ := h9
            exact w_sub [0, 1, 2] rfl (fin g z2 hp)
          · refine w_aload_n C 2 dX2_spreadLanes_20 rfl rfl (by first | rfl | exact isRef_rf _) ?_
            refine w_callV (ci := 3) (As := []) (rest := []) C (cwV 0 C.1.2.2.2.2 gX2_spreadLanes_X2_passForwards rfl rfl rfl (by decide +kernel) ⟨Nat.le_of_ble_eq_true rfl, Nat.le_of_ble_eq_true rfl⟩) hx1.1.1 rfl (by decide) rfl rfl (by first | decide | simp [cat_ref, cat_null, cat_int, cat_long, rf_cat]) dX2_spreadLanes_21 ⟨Nat.le_of_ble_eq_true rfl, Nat.le_of_ble_eq_true rfl⟩ (c_passForwards l G z1 hx1 hV h1 h2) (fun rv z2 h9 => ?_)
            obtain ⟨g, rfl, hp⟩ := h9
            refine w_goto (tgt := 31) C dX2_spreadLanes_24 (by decide) ?_
            exact w_sub [0, 1, 2] rfl (fin g z2 hp)
  refine w_iconst (v := 1) C dX2_spreadLanes_0 (by decide) ?_
  refine w_istore_nB (lvq := [(1, _), (0, _)]) C 0 rfl rfl (by first | rfl | exact rf_cat _) dX2_spreadLanes_1 rfl (by decide) rfl ?_
  refine w_iconst (v := 0) C dX2_spreadLanes_2 (by decide) ?_
  refine w_istore_nB (lvq := [(2, _), (1, _), (0, _)]) C 0 rfl rfl (by first | rfl | exact rf_cat _) dX2_spreadLanes_3 rfl (by decide) rfl ?_
  exact w_sub [1, 0, 2] rfl (loop 38400 0 z W (by omega) (jF.rf z) hr hI (by have := unW_le N W; have := hO.1; omega))
set_option maxHeartbeats 4000000 in
set_option maxRecDepth 100000 in
theorem c_isFree (l : Launch) (G : Gx) (z : Sto) {la g : Nat} (hg : is z g 2) : Ct l yX2_isFree wsX2_isFree ({ frames := 0, cells := 0, slots := 0, locals := 0 } : Room) G z [.ref la, .ref g] (fun rv z' => rv = some (.int (bI (decide (sI z 65 g = 0 ∧ sI z 68 g = 2)))) ∧ z' = z) := by
  refine ct_of (cc := cX2_isFree) (maxL := 2) (ret := (some .boolean)) (lv0 := [(0, .ref la), (1, .ref g)]) (by decide) rfl (by simp [lg_sl, cat_ref, cat_null, cat_int, cat_long, rf_cat]) (by simp [lv_args, cat_ref, cat_null, cat_int, cat_long, rf_cat]) ?_
  intro p e s m args below meth c C hin
  have i2 : ∀ w ∈ u_ws RX1 TX1 17, w ∈ wsX2_isFree := by decide +kernel
  refine w_aload_n C 1 dX2_isFree_0 rfl rfl (by first | rfl | exact isRef_rf _) ?_
  refine w_getI (ci := 2) (k := 1) (f := 65) C rfl i2 (by decide +kernel) (by decide) (by decide) rfl rfl dX2_isFree_1 hg rfl ?_
  refine w_if_ne (tgt := 19) C dX2_isFree_4 (by decide) (fun c1 => ?_) (fun c1 => ?_)
  · refine w_iconst (v := 0) C dX2_isFree_19 (by decide) ?_
    exact w_zret C dX2_isFree_20 (by first | rfl | assumption) ⟨by first | (simp [c1, bI]; done) | (simp [c1, c2, bI]; done), rfl⟩
  · refine w_aload_n C 1 dX2_isFree_7 rfl rfl (by first | rfl | exact isRef_rf _) ?_
    refine w_getI (ci := 2) (k := 4) (f := 68) C rfl i2 (by decide +kernel) (by decide) (by decide) rfl rfl dX2_isFree_8 hg rfl ?_
    refine w_iconst (v := 2) C dX2_isFree_11 (by decide) ?_
    refine w_icmp_ne (tgt := 19) C dX2_isFree_12 (by decide) (fun c2 => ?_) (fun c2 => ?_)
    · refine w_iconst (v := 0) C dX2_isFree_19 (by decide) ?_
      exact w_zret C dX2_isFree_20 (by first | rfl | assumption) ⟨by first | (simp [c1, bI]; done) | (simp [c1, c2, bI]; done), rfl⟩
    · refine w_iconst (v := 1) C dX2_isFree_15 (by decide) ?_
      refine w_goto (tgt := 20) C dX2_isFree_16 (by decide) ?_
      exact w_zret C dX2_isFree_20 (by first | rfl | assumption) ⟨by first | (simp [c1, bI]; done) | (simp [c1, c2, bI]; done), rfl⟩
set_option maxHeartbeats 4000000 in
set_option maxRecDepth 100000 in
theorem c_freeInputs (l : Launch) (G : Gx) (z : Sto) {la gl ol n : Nat} {ga : Nat → Nat} {N : NT} {os : List Nat} (h : lnH G z la gl ol n ga N os) : Ct l yX2_freeInputs wsX2_freeInputs ({ frames := 3, cells := 0, slots := 0, locals := 70 } : Room) G z [.ref la] (fun rv z' => rv = some (.int (nI (cnt (fr N) n))) ∧ z' = z) := by
  refine ct_of (cc := cX2_freeInputs) (maxL := 3) (ret := (some .int)) (lv0 := [(0, .ref la)]) (by decide) rfl (by simp [lg_sl, cat_ref, cat_null, cat_int, cat_long, rf_cat]) (by simp [lv_args, cat_ref, cat_null, cat_int, cat_long, rf_cat]) ?_
  intro p e s m args below meth c C hin
  have i3 : ∀ w ∈ u_ws RX2 TX2 2, w ∈ wsX2_freeInputs := by decide +kernel
  obtain ⟨⟨hla, hl96, hl97⟩, hnn, ⟨cg, hgl⟩, ⟨co, hol⟩, hos, hall, hlen, hgts, h68, hO⟩ := id h
  subst hnn
  have hn := hO.1
  have loop : ∀ (r i : Nat), i + r = nN N → Wp p l e ({ frames := 3, cells := 0, slots := 0, locals := 70 } : Room) s m args below meth c G 3 0 0 (MQ below (cPost G (fun rv z' => rv = some (.int (nI (cnt (fr N) (nN N)))) ∧ z' = z)) args s (0) (0) (gA G)) z 4 [(2, .int (nI i)), (1, .int (nI (cnt (fr N) i))), (0, .ref la)] [] := by
    intro r
    induction r with
    | zero =>
      intro i hi
      have hin : i = nN N := by omega
      subst hin
      refine w_iload_n C 0 dX2_freeInputs_4 rfl rfl ?_
      refine w_aload_n C 2 dX2_freeInputs_5 rfl rfl (by first | rfl | exact isRef_rf _) ?_
      refine w_getRs (ci := 3) (k := 0) (f := 96) C rfl i3 (by decide +kernel) (by decide) (by decide) rfl rfl dX2_freeInputs_6 hla hl96 ?_
      refine w_callV (ci := 0) (As := []) (rest := [.int (nI (nN N))]) C (cwV 0 C.1.2.2.2.2 gX2_freeInputs_Jx4a65c_size_8abf5 rfl rfl rfl (by decide +kernel) ⟨Nat.le_of_ble_eq_true rfl, Nat.le_of_ble_eq_true rfl⟩) hgl.1 rfl (by decide) rfl rfl (by first | decide | simp [cat_ref, cat_null, cat_int, cat_long, rf_cat]) dX2_freeInputs_9 ⟨Nat.le_of_ble_eq_true rfl, Nat.le_of_ble_eq_true rfl⟩ (c_size l G z hgl) (fun rv z2 h9 => ?_)
      obtain ⟨rfl, e9⟩ := h9
      replace e9 := e9.symm
      subst e9
      refine w_icmp_ge (tgt := 42) C dX2_freeInputs_12 (by decide) (fun c1 => ?_) (fun c1 => ?_)
      · refine w_iload_n C 1 dX2_freeInputs_42 rfl rfl ?_
        exact w_iret C dX2_freeInputs_43 ⟨rfl, rfl⟩
      · exact absurd (nI_le (Nat.le_refl _) (by omega)) c1
    | succ r ih =>
      intro i hi
      have hin : i < nN N := by omega
      obtain ⟨gi1, gi2, gi3, gi4, gi5⟩ := hgts.1 i hin
      have hcs : cnt (fr N) (i + 1) = cnt (fr N) i + (if fr N i then 1 else 0) := rfl
      refine w_iload_n C 0 dX2_freeInputs_4 rfl rfl ?_
      refine w_aload_n C 2 dX2_freeInputs_5 rfl rfl (by first | rfl | exact isRef_rf _) ?_
      refine w_getRs (ci := 3) (k := 0) (f := 96) C rfl i3 (by decide +kernel) (by decide) (by decide) rfl rfl dX2_freeInputs_6 hla hl96 ?_
      refine w_callV (ci := 0) (As := []) (rest := [.int (nI i)]) C (cwV 0 C.1.2.2.2.2 gX2_freeInputs_Jx4a65c_size_8abf5 rfl rfl rfl (by decide +kernel) ⟨Nat.le_of_ble_eq_true rfl, Nat.le_of_ble_eq_true rfl⟩) hgl.1 rfl (by decide) rfl rfl (by first | decide | simp [cat_ref, cat_null, cat_int, cat_long, rf_cat]) dX2_freeInputs_9 ⟨Nat.le_of_ble_eq_true rfl, Nat.le_of_ble_eq_true rfl⟩ (c_size l G z hgl) (fun rv z2 h9 => ?_)
      obtain ⟨rfl, e9⟩ := h9
      replace e9 := e9.symm
      subst e9
      refine w_icmp_ge (tgt := 42) C dX2_freeInputs_12 (by decide) (fun c1 => ?_) (fun c1 => ?_)
      · exact absurd c1 (nI_ge hin (by omega))
      · refine w_aload_n C 2 dX2_freeInputs_15 rfl rfl (by first | rfl | exact isRef_rf _) ?_
        refine w_aload_n C 2 dX2_freeInputs_16 rfl rfl (by first | rfl | exact isRef_rf _) ?_
        refine w_getRs (ci := 3) (k := 0) (f := 96) C rfl i3 (by decide +kernel) (by decide) (by decide) rfl rfl dX2_freeInputs_17 hla hl96 ?_
        refine w_iload_n C 0 dX2_freeInputs_20 rfl rfl ?_
        refine w_callV (ci := 0) (As := [.int (nI i)]) (rest := [.ref la]) C (cwV 1 C.1.2.2.2.2 gX2_freeInputs_Jx4a65c_get_915e3 rfl rfl rfl (by decide +kernel) ⟨Nat.le_of_ble_eq_true rfl, Nat.le_of_ble_eq_true rfl⟩) hgl.1 rfl (by decide) rfl rfl (by first | decide | simp [cat_ref, cat_null, cat_int, cat_long, rf_cat]) dX2_freeInputs_21 ⟨Nat.le_of_ble_eq_true rfl, Nat.le_of_ble_eq_true rfl⟩ (c_get l G z hgl hin) (fun rv z2 h9 => ?_)
        obtain ⟨rfl, e9⟩ := h9
        replace e9 := e9.symm
        subst e9
        refine w_cast (ci := 2) C (by decide +kernel) gi1 rfl (by decide) dX2_freeInputs_24 ?_
        refine w_callV (ci := 3) (As := [.ref (ga i)]) (rest := []) C (cwV 1 C.1.2.2.2.2 gX2_freeInputs_X2_isFree rfl rfl rfl (by decide +kernel) ⟨Nat.le_of_ble_eq_true rfl, Nat.le_of_ble_eq_true rfl⟩) hla rfl (by decide) rfl rfl (by first | decide | simp [cat_ref, cat_null, cat_int, cat_long, rf_cat]) dX2_freeInputs_27 ⟨Nat.le_of_ble_eq_true rfl, Nat.le_of_ble_eq_true rfl⟩ (c_isFree l G z gi1) (fun rv z2 h9 => ?_)
        obtain ⟨rfl, e9⟩ := h9
        replace e9 := e9.symm
        subst e9
        rw [gi3, h68 i hin, fr_eq i]
        refine w_if_eq (tgt := 36) C dX2_freeInputs_30 (by decide) (fun c2 => ?_) (fun c2 => ?_)
        · rw [bI_0] at c2
          rw [c2] at hcs
          simp only [Bool.false_eq_true, if_false, Nat.add_zero] at hcs
          refine w_iincB (v := nI (i + 1)) (lvq := [(2, _), (1, _), (0, _)]) C 0 1 rfl rfl (by first | rfl | exact rf_cat _) dX2_freeInputs_36 rfl (nI_1 i) (by decide) rfl ?_
          refine w_goto (tgt := 4) C dX2_freeInputs_39 (by decide) ?_
          exact w_sub [0, 1, 2] rfl (hcs ▸ ih (i + 1) (by omega))
        · have c3 : fr N i = true := by cases q : fr N i with | true => rfl | false => rw [q] at c2; exact absurd rfl c2
          rw [c3] at hcs
          simp only [if_true] at hcs
          refine w_iincB (v := nI (cnt (fr N) i + 1)) (lvq := [(1, _), (2, _), (0, _)]) C 1 2 rfl rfl (by first | rfl | exact rf_cat _) dX2_freeInputs_33 rfl (nI_1 _) (by decide) rfl ?_
          refine w_iincB (v := nI (i + 1)) (lvq := [(2, _), (1, _), (0, _)]) C 1 0 rfl rfl (by first | rfl | exact rf_cat _) dX2_freeInputs_36 rfl (nI_1 i) (by decide) rfl ?_
          refine w_goto (tgt := 4) C dX2_freeInputs_39 (by decide) ?_
          exact w_sub [0, 1, 2] rfl (hcs ▸ ih (i + 1) (by omega))
  refine w_iconst (v := 0) C dX2_freeInputs_0 (by decide) ?_
  refine w_istore_nB (lvq := [(1, _), (0, _)]) C 0 rfl rfl (by first | rfl | exact rf_cat _) dX2_freeInputs_1 rfl (by decide) rfl ?_
  refine w_iconst (v := 0) C dX2_freeInputs_2 (by decide) ?_
  refine w_istore_nB (lvq := [(2, _), (1, _), (0, _)]) C 0 rfl rfl (by first | rfl | exact rf_cat _) dX2_freeInputs_3 rfl (by decide) rfl ?_
  exact w_sub [0, 1, 2] rfl (loop (nN N) 0 (by omega))
set_option maxHeartbeats 4000000 in
set_option maxRecDepth 100000 in
theorem c_lanesOfInput (l : Launch) (G : Gx) (z : Sto) {la pl t : Nat} (hp : pl < 12) (ht : t < 64) : Ct l yX2_lanesOfInput wsX2_lanesOfInput ({ frames := 0, cells := 0, slots := 0, locals := 0 } : Room) G z [.ref la, .int (nI pl), .int (nI t)] (fun rv z' => ∃ v, rv = some (.long v) ∧ (∀ b, b < 64 → tb v b = (64 * t + b).testBit pl) ∧ z' = z) := by
  refine ct_of (cc := cX2_lanesOfInput) (maxL := 4) (ret := (some .long)) (lv0 := [(0, .ref la), (1, .int (nI pl)), (2, .int (nI t))]) (by decide) rfl (by simp [lg_sl, cat_ref, cat_null, cat_int, cat_long, rf_cat]) (by simp [lv_args, cat_ref, cat_null, cat_int, cat_long, rf_cat]) ?_
  intro p e s m args below meth c C hin
  refine w_iload_n C 1 dX2_lanesOfInput_0 rfl rfl ?_
  refine w_if_lt (tgt := 18) C dX2_lanesOfInput_1 (by decide) (fun c1 => ?_) (fun c1 => ?_)
  · exact absurd c1 (nI_pos (by omega))
  · refine w_iload_n C 1 dX2_lanesOfInput_4 rfl rfl ?_
    refine w_getsB C (by decide +kernel) dX2_lanesOfInput_5 ?_
    refine w_tlenB C dX2_lanesOfInput_8 ?_
    refine w_icmp_ge (tgt := 18) C dX2_lanesOfInput_9 (by decide) (fun c2 => ?_) (fun c2 => ?_)
    · have hge : 6 ≤ pl := by
        refine Decidable.byContradiction fun q => ?_
        exact absurd c2 (nI_ge (a := pl) (b := 6) (by omega) (by decide))
      obtain ⟨k, rfl⟩ : ∃ k, pl = k + 6 := ⟨pl - 6, by omega⟩
      refine w_iload_n C 2 dX2_lanesOfInput_18 rfl rfl ?_
      refine w_iload_n C 1 dX2_lanesOfInput_19 rfl rfl ?_
      refine w_getsB C (by decide +kernel) dX2_lanesOfInput_20 ?_
      refine w_tlenB C dX2_lanesOfInput_23 ?_
      refine w_isub C dX2_lanesOfInput_24 ?_
      refine w_ishr C dX2_lanesOfInput_25 ?_
      refine w_iconst (v := 1) C dX2_lanesOfInput_26 (by decide) ?_
      refine w_iand C dX2_lanesOfInput_27 ?_
      refine w_inti (sh_bits t ht k (by omega)) ?_
      refine w_istore_nB (lvq := [(3, _), (0, _), (1, _), (2, _)]) C 2 rfl rfl (by first | rfl | exact rf_cat _) dX2_lanesOfInput_28 rfl (by decide) rfl ?_
      refine w_iload_n C 0 dX2_lanesOfInput_29 rfl rfl ?_
      refine w_iconst (v := 1) C dX2_lanesOfInput_30 (by decide) ?_
      refine w_icmp_ne (tgt := 40) C dX2_lanesOfInput_31 (by decide) (fun c3 => ?_) (fun c3 => ?_)
      · refine w_lconst (v := 0) C dX2_lanesOfInput_40 (by decide) ?_
        exact w_lret C dX2_lanesOfInput_41 (by first | exact ⟨_, rfl, fun b hb => by rw [tb_hi hb, tb_0]; cases q : t.testBit k with | false => rfl | true => (rw [q] at c3; exact absurd rfl c3), rfl⟩ | exact ⟨_, rfl, fun b hb => by rw [tb_hi hb, tb_m1 b hb]; cases q : t.testBit k with | true => rfl | false => (rw [q] at c3; exact absurd c3 (by decide)), rfl⟩)
      · refine w_ldc2 (v := (-1)) C dX2_lanesOfInput_34 (by decide +kernel) ?_
        refine w_goto (tgt := 41) C dX2_lanesOfInput_37 (by decide) ?_
        exact w_lret C dX2_lanesOfInput_41 (by first | exact ⟨_, rfl, fun b hb => by rw [tb_hi hb, tb_0]; cases q : t.testBit k with | false => rfl | true => (rw [q] at c3; exact absurd rfl c3), rfl⟩ | exact ⟨_, rfl, fun b hb => by rw [tb_hi hb, tb_m1 b hb]; cases q : t.testBit k with | true => rfl | false => (rw [q] at c3; exact absurd c3 (by decide)), rfl⟩)
    · have hlt : pl < 6 := by
        refine Decidable.byContradiction fun q => c2 ?_
        exact nI_le (a := 6) (b := pl) (by omega) (by omega)
      refine w_getsB C (by decide +kernel) dX2_lanesOfInput_12 ?_
      refine w_iload_n C 1 dX2_lanesOfInput_15 rfl rfl ?_
      refine w_taldB C rfl hlt dX2_lanesOfInput_16 ?_
      exact w_lret C dX2_lanesOfInput_17 ⟨_, rfl, fun b hb => by rw [lb_bits pl hlt b hb, tb_lo hb hlt], rfl⟩
set_option maxHeartbeats 4000000 in
set_option maxRecDepth 100000 in
theorem c_startBatch (l : Launch) (G : Gx) (z : Sto) {la gl ol n : Nat} {ga : Nat → Nat} {N : NT} {os : List Nat} {t : Nat} (h : lnH G z la gl ol n ga N os) (ht : t < 64) : Ct l yX2_startBatch wsX2_startBatch ({ frames := 3, cells := 0, slots := 0, locals := 80 } : Room) G z [.ref la, .int (nI t)] (fun rv z' => rv = none ∧ jF z z' ∧ lrep z' ga (nN N) (fun b => nV (nCh N (64 * t + b)) 0)) := by
  refine ct_of (cc := cX2_startBatch) (maxL := 5) (ret := none) (lv0 := [(0, .ref la), (1, .int (nI t))]) (by decide) rfl (by simp [lg_sl, cat_ref, cat_null, cat_int, cat_long, rf_cat]) (by simp [lv_args, cat_ref, cat_null, cat_int, cat_long, rf_cat]) ?_
  intro p e s m args below meth c C hin
  have i2 : ∀ w ∈ u_ws RX1 TX1 17, w ∈ wsX2_startBatch := by decide +kernel
  have i3 : ∀ w ∈ u_ws RX2 TX2 2, w ∈ wsX2_startBatch := by decide +kernel
  obtain ⟨⟨hla, hl96, hl97⟩, hnn, ⟨cg, hgl⟩, ⟨co, hol⟩, hos, hall, hlen, hgts, h68, hO⟩ := id h
  subst hnn
  have hn := hO.1
  have hga := hgts.2
  have hf12 := fr_le hO
  have loop : ∀ (r i : Nat) (z1 : Sto), i + r = nN N → jF z z1 → lrep z1 ga i (fun b => nV (nCh N (64 * t + b)) 0) → Wp p l e ({ frames := 3, cells := 0, slots := 0, locals := 80 } : Room) s m args below meth c G 5 0 0 (MQ below (cPost G (fun rv z' => rv = none ∧ jF z z' ∧ lrep z' ga (nN N) (fun b => nV (nCh N (64 * t + b)) 0))) args s (0) (0) (gA G)) z1 4 [(3, .int (nI i)), (2, .int (nI (cnt (fr N) i))), (0, .ref la), (1, .int (nI t))] [] := by
    intro r
    induction r with
    | zero =>
      intro i z1 hi hF h1
      have hin : i = nN N := by omega
      subst hin
      have hl1 := hF.lst hgl
      refine w_iload_n C 0 dX2_startBatch_4 rfl rfl ?_
      refine w_aload_n C 2 dX2_startBatch_5 rfl rfl (by first | rfl | exact isRef_rf _) ?_
      refine w_getRs (ci := 3) (k := 0) (f := 96) C rfl i3 (by decide +kernel) (by decide) (by decide) rfl rfl dX2_startBatch_6 (hF.is hla) ((hF.R _ _).trans hl96) ?_
      refine w_callV (ci := 0) (As := []) (rest := [.int (nI (nN N))]) C (cwV 0 C.1.2.2.2.2 gX2_startBatch_Jx4a65c_size_8abf5 rfl rfl rfl (by decide +kernel) ⟨Nat.le_of_ble_eq_true rfl, Nat.le_of_ble_eq_true rfl⟩) hl1.1 rfl (by decide) rfl rfl (by first | decide | simp [cat_ref, cat_null, cat_int, cat_long, rf_cat]) dX2_startBatch_9 ⟨Nat.le_of_ble_eq_true rfl, Nat.le_of_ble_eq_true rfl⟩ (c_size l G z1 hl1) (fun rv z2 h9 => ?_)
      obtain ⟨rfl, e9⟩ := h9
      replace e9 := e9.symm
      subst e9
      refine w_icmp_ge (tgt := 115) C dX2_startBatch_12 (by decide) (fun c1 => ?_) (fun c1 => ?_)
      · exact w_vret C dX2_startBatch_115 ⟨rfl, hF, h1⟩
      · exact absurd (nI_le (Nat.le_refl _) (by omega)) c1
    | succ r ih =>
      intro i z1 hi hF h1
      have hin : i < nN N := by omega
      have hl1 := hF.lst hgl
      obtain ⟨gi1, gi2, gi3, gi4, gi5⟩ := (hF.gts hgts).1 i hin
      have e68 : sI z1 68 (ga i) = nV N 0 i := (hF.I _ _).trans (h68 i hin)
      have hcs : cnt (fr N) (i + 1) = cnt (fr N) i + (if fr N i then 1 else 0) := rfl
      have hle : cnt (fr N) (i + 1) ≤ 12 := Nat.le_trans (by have : ∀ k, cnt (fr N) (i + 1) ≤ cnt (fr N) (i + 1 + k) := (fun k => by rw [cnt_shift (fr N) (i + 1) k]; omega); have h9 := this (nN N - (i + 1)); rw [show i + 1 + (nN N - (i + 1)) = nN N by omega] at h9; exact h9) hf12
      have v3 : nV N 0 i = 0 ∨ nV N 0 i = 1 ∨ nV N 0 i = 2 := nV_3 hO 0 i hin
      have fin : ∀ (O Z : Int64) (mm : Nat), mm = cnt (fr N) (i + 1) → (∀ b, b < 64 → tb O b = decide (nV (nCh N (64 * t + b)) 0 i = 1) ∧ tb Z b = decide (nV (nCh N (64 * t + b)) 0 i = 0)) → Wp p l e ({ frames := 3, cells := 0, slots := 0, locals := 80 } : Room) s m args below meth c G 5 0 0 (MQ below (cPost G (fun rv z' => rv = none ∧ jF z z' ∧ lrep z' ga (nN N) (fun b => nV (nCh N (64 * t + b)) 0))) args s (0) (0) (gA G)) (putJ (putJ z1 79 (ga i) O) 80 (ga i) Z) 109 [(4, .ref (ga i)), (3, .int (nI i)), (2, .int (nI mm)), (0, .ref la), (1, .int (nI t))] [] := by
        intro O Z mm hm hbits
        subst hm
        refine w_iincB (v := nI (i + 1)) (lvq := [(3, _), (4, _), (2, _), (0, _), (1, _)]) C 1 2 rfl rfl (by first | rfl | exact rf_cat _) dX2_startBatch_109 rfl (nI_1 i) (by decide) rfl ?_
        refine w_goto (tgt := 4) C dX2_startBatch_112 (by decide) ?_
        refine w_sub [0, 2, 3, 4] rfl (ih (i + 1) _ (by omega) ((hF.tr (jF_J z1 79 (ga i) O)).tr (jF_J _ 80 (ga i) Z)) (fun j hj b hb => ?_))
        by_cases hji : j = i
        · subst hji
          have q1 : sJ (putJ (putJ z1 79 (ga j) O) 80 (ga j) Z) 79 (ga j) = O := rJ_Jf (by decide) rJ_Js
          have q2 : sJ (putJ (putJ z1 79 (ga j) O) 80 (ga j) Z) 80 (ga j) = Z := rJ_Js
          rw [q1, q2]
          exact ⟨(hbits b hb).1, (hbits b hb).2, nV_3 (nOK_ch hO _) 0 j hin⟩
        · have hne : ga j ≠ ga i := fun e9 => hji (hga j i (by omega) hin e9)
          have q1 : sJ (putJ (putJ z1 79 (ga i) O) 80 (ga i) Z) 79 (ga j) = sJ z1 79 (ga j) := rJ_Jf (by decide) (rJ_Ja hne rfl)
          have q2 : sJ (putJ (putJ z1 79 (ga i) O) 80 (ga i) Z) 80 (ga j) = sJ z1 80 (ga j) := rJ_Ja hne (rJ_Jf (by decide) rfl)
          rw [q1, q2]
          exact h1 j (by omega) b hb
      refine w_iload_n C 0 dX2_startBatch_4 rfl rfl ?_
      refine w_aload_n C 2 dX2_startBatch_5 rfl rfl (by first | rfl | exact isRef_rf _) ?_
      refine w_getRs (ci := 3) (k := 0) (f := 96) C rfl i3 (by decide +kernel) (by decide) (by decide) rfl rfl dX2_startBatch_6 (hF.is hla) ((hF.R _ _).trans hl96) ?_
      refine w_callV (ci := 0) (As := []) (rest := [.int (nI i)]) C (cwV 0 C.1.2.2.2.2 gX2_startBatch_Jx4a65c_size_8abf5 rfl rfl rfl (by decide +kernel) ⟨Nat.le_of_ble_eq_true rfl, Nat.le_of_ble_eq_true rfl⟩) hl1.1 rfl (by decide) rfl rfl (by first | decide | simp [cat_ref, cat_null, cat_int, cat_long, rf_cat]) dX2_startBatch_9 ⟨Nat.le_of_ble_eq_true rfl, Nat.le_of_ble_eq_true rfl⟩ (c_size l G z1 hl1) (fun rv z2 h9 => ?_)
      obtain ⟨rfl, e9⟩ := h9
      replace e9 := e9.symm
      subst e9
      refine w_icmp_ge (tgt := 115) C dX2_startBatch_12 (by decide) (fun c1 => ?_) (fun c1 => ?_)
      · exact absurd c1 (nI_ge hin (by omega))
      · refine w_aload_n C 2 dX2_startBatch_15 rfl rfl (by first | rfl | exact isRef_rf _) ?_
        refine w_getRs (ci := 3) (k := 0) (f := 96) C rfl i3 (by decide +kernel) (by decide) (by decide) rfl rfl dX2_startBatch_16 (hF.is hla) ((hF.R _ _).trans hl96) ?_
        refine w_iload_n C 0 dX2_startBatch_19 rfl rfl ?_
        refine w_callV (ci := 0) (As := [.int (nI i)]) (rest := []) C (cwV 1 C.1.2.2.2.2 gX2_startBatch_Jx4a65c_get_915e3 rfl rfl rfl (by decide +kernel) ⟨Nat.le_of_ble_eq_true rfl, Nat.le_of_ble_eq_true rfl⟩) hl1.1 rfl (by decide) rfl rfl (by first | decide | simp [cat_ref, cat_null, cat_int, cat_long, rf_cat]) dX2_startBatch_20 ⟨Nat.le_of_ble_eq_true rfl, Nat.le_of_ble_eq_true rfl⟩ (c_get l G z1 hl1 hin) (fun rv z2 h9 => ?_)
        obtain ⟨rfl, e9⟩ := h9
        replace e9 := e9.symm
        subst e9
        refine w_cast (ci := 2) C (by decide +kernel) gi1 rfl (by decide) dX2_startBatch_23 ?_
        refine w_astoreB (lvq := [(4, _), (3, _), (2, _), (0, _), (1, _)]) C 0 rfl rfl (by first | rfl | exact rf_cat _) dX2_startBatch_26 (by first | rfl | exact isRef_rf _) (by decide) rfl ?_
        refine w_aload_n C 3 dX2_startBatch_28 rfl rfl (by first | rfl | exact isRef_rf _) ?_
        refine w_aload C 0 dX2_startBatch_29 rfl (by first | rfl | exact isRef_rf _) ?_
        refine w_callV (ci := 3) (As := [.ref (ga i)]) (rest := []) C (cwV 1 C.1.2.2.2.2 gX2_startBatch_X2_isFree rfl rfl rfl (by decide +kernel) ⟨Nat.le_of_ble_eq_true rfl, Nat.le_of_ble_eq_true rfl⟩) (hF.is hla) rfl (by decide) rfl rfl (by first | decide | simp [cat_ref, cat_null, cat_int, cat_long, rf_cat]) dX2_startBatch_31 ⟨Nat.le_of_ble_eq_true rfl, Nat.le_of_ble_eq_true rfl⟩ (c_isFree l G z1 gi1) (fun rv z2 h9 => ?_)
        obtain ⟨rfl, e9⟩ := h9
        replace e9 := e9.symm
        subst e9
        rw [gi3, e68, fr_eq i]
        refine w_if_eq (tgt := 68) C dX2_startBatch_34 (by decide) (fun c2 => ?_) (fun c2 => ?_)
        · rw [bI_0] at c2
          rw [c2] at hcs
          simp only [Bool.false_eq_true, if_false, Nat.add_zero] at hcs
          have hval : ∀ b, nV (nCh N (64 * t + b)) 0 i = nV N 0 i := fun b => by rw [nCh_0, c2]; rfl
          refine w_aload C 0 dX2_startBatch_68 rfl (by first | rfl | exact isRef_rf _) ?_
          refine w_aload C 0 dX2_startBatch_70 rfl (by first | rfl | exact isRef_rf _) ?_
          refine w_getI (ci := 2) (k := 4) (f := 68) C rfl i2 (by decide +kernel) (by decide) (by decide) rfl rfl dX2_startBatch_72 gi1 e68 ?_
          refine w_iconst (v := 1) C dX2_startBatch_75 (by decide) ?_
          refine w_icmp_ne (tgt := 85) C dX2_startBatch_76 (by decide) (fun c4 => ?_) (fun c4 => ?_)
          · refine w_lconst (v := 0) C dX2_startBatch_85 (by decide) ?_
            refine w_putJ (ci := 2) (k := 15) (f := 79) C rfl i2 (by decide +kernel) (by decide) (by decide) rfl rfl tyX1 tyX1_ok nmX1 rfl rfl rfl dX2_startBatch_86 gi1 ?_
            refine w_aload C 0 dX2_startBatch_89 rfl (by first | rfl | exact isRef_rf _) ?_
            refine w_aload C 0 dX2_startBatch_91 rfl (by first | rfl | exact isRef_rf _) ?_
            refine w_getI (ci := 2) (k := 4) (f := 68) C rfl i2 (by decide +kernel) (by decide) (by decide) rfl rfl dX2_startBatch_93 (is_J gi1) (rI_J e68) ?_
            refine w_if_ne (tgt := 105) C dX2_startBatch_96 (by decide) (fun c5 => ?_) (fun c5 => ?_)
            · refine w_lconst (v := 0) C dX2_startBatch_105 (by decide) ?_
              refine w_putJ (ci := 2) (k := 16) (f := 80) C rfl i2 (by decide +kernel) (by decide) (by decide) rfl rfl tyX1 tyX1_ok nmX1 rfl rfl rfl dX2_startBatch_106 (is_J gi1) ?_
              first
              | exact w_sub [0, 1, 2, 3, 4] rfl (fin _ _ _ hcs.symm (fun b hb => by rw [tb_xor, tb_m1 b hb, hv9 b hb, nCh_0, c3, if_pos rfl]; cases (64 * t + b).testBit (cnt (fr N) i) <;> exact ⟨rfl, rfl⟩))
              | refine w_sub [0, 1, 2, 3, 4] rfl (fin _ _ _ hcs.symm (fun b hb => ?_))
                rw [hval b]
                first
                | exact ⟨(tb_m1 b hb).trans (decide_eq_true c4).symm, (tb_0 b).trans (decide_eq_false c5).symm⟩
                | exact ⟨(tb_0 b).trans (decide_eq_false c4).symm, (tb_m1 b hb).trans (decide_eq_true c5).symm⟩
                | exact ⟨(tb_0 b).trans (decide_eq_false c4).symm, (tb_0 b).trans (decide_eq_false c5).symm⟩
                | exact absurd (c4.symm.trans c5) (by decide)
            · refine w_ldc2 (v := (-1)) C dX2_startBatch_99 (by decide +kernel) ?_
              refine w_goto (tgt := 106) C dX2_startBatch_102 (by decide) ?_
              refine w_putJ (ci := 2) (k := 16) (f := 80) C rfl i2 (by decide +kernel) (by decide) (by decide) rfl rfl tyX1 tyX1_ok nmX1 rfl rfl rfl dX2_startBatch_106 (is_J gi1) ?_
              first
              | exact w_sub [0, 1, 2, 3, 4] rfl (fin _ _ _ hcs.symm (fun b hb => by rw [tb_xor, tb_m1 b hb, hv9 b hb, nCh_0, c3, if_pos rfl]; cases (64 * t + b).testBit (cnt (fr N) i) <;> exact ⟨rfl, rfl⟩))
              | refine w_sub [0, 1, 2, 3, 4] rfl (fin _ _ _ hcs.symm (fun b hb => ?_))
                rw [hval b]
                first
                | exact ⟨(tb_m1 b hb).trans (decide_eq_true c4).symm, (tb_0 b).trans (decide_eq_false c5).symm⟩
                | exact ⟨(tb_0 b).trans (decide_eq_false c4).symm, (tb_m1 b hb).trans (decide_eq_true c5).symm⟩
                | exact ⟨(tb_0 b).trans (decide_eq_false c4).symm, (tb_0 b).trans (decide_eq_false c5).symm⟩
                | exact absurd (c4.symm.trans c5) (by decide)
          · refine w_ldc2 (v := (-1)) C dX2_startBatch_79 (by decide +kernel) ?_
            refine w_goto (tgt := 86) C dX2_startBatch_82 (by decide) ?_
            refine w_putJ (ci := 2) (k := 15) (f := 79) C rfl i2 (by decide +kernel) (by decide) (by decide) rfl rfl tyX1 tyX1_ok nmX1 rfl rfl rfl dX2_startBatch_86 gi1 ?_
            refine w_aload C 0 dX2_startBatch_89 rfl (by first | rfl | exact isRef_rf _) ?_
            refine w_aload C 0 dX2_startBatch_91 rfl (by first | rfl | exact isRef_rf _) ?_
            refine w_getI (ci := 2) (k := 4) (f := 68) C rfl i2 (by decide +kernel) (by decide) (by decide) rfl rfl dX2_startBatch_93 (is_J gi1) (rI_J e68) ?_
            refine w_if_ne (tgt := 105) C dX2_startBatch_96 (by decide) (fun c5 => ?_) (fun c5 => ?_)
            · refine w_lconst (v := 0) C dX2_startBatch_105 (by decide) ?_
              refine w_putJ (ci := 2) (k := 16) (f := 80) C rfl i2 (by decide +kernel) (by decide) (by decide) rfl rfl tyX1 tyX1_ok nmX1 rfl rfl rfl dX2_startBatch_106 (is_J gi1) ?_
              first
              | exact w_sub [0, 1, 2, 3, 4] rfl (fin _ _ _ hcs.symm (fun b hb => by rw [tb_xor, tb_m1 b hb, hv9 b hb, nCh_0, c3, if_pos rfl]; cases (64 * t + b).testBit (cnt (fr N) i) <;> exact ⟨rfl, rfl⟩))
              | refine w_sub [0, 1, 2, 3, 4] rfl (fin _ _ _ hcs.symm (fun b hb => ?_))
                rw [hval b]
                first
                | exact ⟨(tb_m1 b hb).trans (decide_eq_true c4).symm, (tb_0 b).trans (decide_eq_false c5).symm⟩
                | exact ⟨(tb_0 b).trans (decide_eq_false c4).symm, (tb_m1 b hb).trans (decide_eq_true c5).symm⟩
                | exact ⟨(tb_0 b).trans (decide_eq_false c4).symm, (tb_0 b).trans (decide_eq_false c5).symm⟩
                | exact absurd (c4.symm.trans c5) (by decide)
            · refine w_ldc2 (v := (-1)) C dX2_startBatch_99 (by decide +kernel) ?_
              refine w_goto (tgt := 106) C dX2_startBatch_102 (by decide) ?_
              refine w_putJ (ci := 2) (k := 16) (f := 80) C rfl i2 (by decide +kernel) (by decide) (by decide) rfl rfl tyX1 tyX1_ok nmX1 rfl rfl rfl dX2_startBatch_106 (is_J gi1) ?_
              first
              | exact w_sub [0, 1, 2, 3, 4] rfl (fin _ _ _ hcs.symm (fun b hb => by rw [tb_xor, tb_m1 b hb, hv9 b hb, nCh_0, c3, if_pos rfl]; cases (64 * t + b).testBit (cnt (fr N) i) <;> exact ⟨rfl, rfl⟩))
              | refine w_sub [0, 1, 2, 3, 4] rfl (fin _ _ _ hcs.symm (fun b hb => ?_))
                rw [hval b]
                first
                | exact ⟨(tb_m1 b hb).trans (decide_eq_true c4).symm, (tb_0 b).trans (decide_eq_false c5).symm⟩
                | exact ⟨(tb_0 b).trans (decide_eq_false c4).symm, (tb_m1 b hb).trans (decide_eq_true c5).symm⟩
                | exact ⟨(tb_0 b).trans (decide_eq_false c4).symm, (tb_0 b).trans (decide_eq_false c5).symm⟩
                | exact absurd (c4.symm.trans c5) (by decide)
        · have c3 : fr N i = true := by cases q : fr N i with | true => rfl | false => rw [q] at c2; exact absurd rfl c2
          rw [c3] at hcs
          simp only [if_true] at hcs
          refine w_aload C 0 dX2_startBatch_37 rfl (by first | rfl | exact isRef_rf _) ?_
          refine w_aload_n C 3 dX2_startBatch_39 rfl rfl (by first | rfl | exact isRef_rf _) ?_
          refine w_iload_n C 2 dX2_startBatch_40 rfl rfl ?_
          refine w_iload_n C 4 dX2_startBatch_41 rfl rfl ?_
          refine w_callV (ci := 3) (As := [.int (nI (cnt (fr N) i)), .int (nI t)]) (rest := [.ref (ga i)]) C (cwV 2 C.1.2.2.2.2 gX2_startBatch_X2_lanesOfInput rfl rfl rfl (by decide +kernel) ⟨Nat.le_of_ble_eq_true rfl, Nat.le_of_ble_eq_true rfl⟩) (hF.is hla) rfl (by decide) rfl rfl (by first | decide | simp [cat_ref, cat_null, cat_int, cat_long, rf_cat]) dX2_startBatch_42 ⟨Nat.le_of_ble_eq_true rfl, Nat.le_of_ble_eq_true rfl⟩ (c_lanesOfInput l G z1 (la := la) (pl := cnt (fr N) i) (t := t) (by omega) ht) (fun rv z2 h9 => ?_)
          obtain ⟨v9, rfl, hv9, e9⟩ := h9
          replace e9 := e9.symm
          subst e9
          refine w_putJ (ci := 2) (k := 15) (f := 79) C rfl i2 (by decide +kernel) (by decide) (by decide) rfl rfl tyX1 tyX1_ok nmX1 rfl rfl rfl dX2_startBatch_45 gi1 ?_
          refine w_aload C 0 dX2_startBatch_48 rfl (by first | rfl | exact isRef_rf _) ?_
          refine w_aload C 0 dX2_startBatch_50 rfl (by first | rfl | exact isRef_rf _) ?_
          refine w_getJ (ci := 2) (k := 15) (f := 79) C rfl i2 (by decide +kernel) (by decide) (by decide) rfl rfl dX2_startBatch_52 (is_J gi1) rJ_Js ?_
          refine w_ldc2 (v := (-1)) C dX2_startBatch_55 (by decide +kernel) ?_
          refine w_lxor C dX2_startBatch_58 ?_
          refine w_putJ (ci := 2) (k := 16) (f := 80) C rfl i2 (by decide +kernel) (by decide) (by decide) rfl rfl tyX1 tyX1_ok nmX1 rfl rfl rfl dX2_startBatch_59 (is_J gi1) ?_
          refine w_iincB (v := nI (cnt (fr N) i + 1)) (lvq := [(2, _), (4, _), (3, _), (0, _), (1, _)]) C 2 4 rfl rfl (by first | rfl | exact rf_cat _) dX2_startBatch_62 rfl (nI_1 _) (by decide) rfl ?_
          refine w_goto (tgt := 109) C dX2_startBatch_65 (by decide) ?_
          first
          | exact w_sub [1, 2, 0, 3, 4] rfl (fin _ _ _ hcs.symm (fun b hb => by rw [tb_xor, tb_m1 b hb, hv9 b hb, nCh_0, c3, if_pos rfl]; cases (64 * t + b).testBit (cnt (fr N) i) <;> exact ⟨rfl, rfl⟩))
          | refine w_sub [1, 2, 0, 3, 4] rfl (fin _ _ _ hcs.symm (fun b hb => ?_))
            rw [hval b]
            first
            | exact ⟨(tb_m1 b hb).trans (decide_eq_true c4).symm, (tb_0 b).trans (decide_eq_false c5).symm⟩
            | exact ⟨(tb_0 b).trans (decide_eq_false c4).symm, (tb_m1 b hb).trans (decide_eq_true c5).symm⟩
            | exact ⟨(tb_0 b).trans (decide_eq_false c4).symm, (tb_0 b).trans (decide_eq_false c5).symm⟩
            | exact absurd (c4.symm.trans c5) (by decide)
  refine w_iconst (v := 0) C dX2_startBatch_0 (by decide) ?_
  refine w_istore_nB (lvq := [(2, _), (0, _), (1, _)]) C 1 rfl rfl (by first | rfl | exact rf_cat _) dX2_startBatch_1 rfl (by decide) rfl ?_
  refine w_iconst (v := 0) C dX2_startBatch_2 (by decide) ?_
  refine w_istore_nB (lvq := [(3, _), (2, _), (0, _), (1, _)]) C 0 rfl rfl (by first | rfl | exact rf_cat _) dX2_startBatch_3 rfl (by decide) rfl ?_
  exact w_sub [0, 1, 2, 3] rfl (loop (nN N) 0 z (by omega) (jF.rf z) (fun j hj => by cases hj))
set_option maxHeartbeats 4000000 in
set_option maxRecDepth 100000 in
theorem c_lanesAllKnown (l : Launch) (G : Gx) (z : Sto) {la gl ol n : Nat} {ga : Nat → Nat} {N : NT} {os : List Nat} {W : Wt} (h : lnH G z la gl ol n ga N os) (hr : lrep z ga (nN N) W) : Ct l yX2_lanesAllKnown wsX2_lanesAllKnown ({ frames := 3, cells := 0, slots := 0, locals := 70 } : Room) G z [.ref la] (fun rv z' => ∃ v, rv = some (.long v) ∧ (∀ b, b < 64 → (tb v b = true ↔ ∀ j, j < nN N → ¬ W b j = 2)) ∧ z' = z) := by
  refine ct_of (cc := cX2_lanesAllKnown) (maxL := 5) (ret := (some .long)) (lv0 := [(0, .ref la)]) (by decide) rfl (by simp [lg_sl, cat_ref, cat_null, cat_int, cat_long, rf_cat]) (by simp [lv_args, cat_ref, cat_null, cat_int, cat_long, rf_cat]) ?_
  intro p e s m args below meth c C hin
  have i2 : ∀ w ∈ u_ws RX1 TX1 17, w ∈ wsX2_lanesAllKnown := by decide +kernel
  have i3 : ∀ w ∈ u_ws RX2 TX2 2, w ∈ wsX2_lanesAllKnown := by decide +kernel
  obtain ⟨⟨hla, hl96, hl97⟩, hnn, ⟨cg, hgl⟩, ⟨co, hol⟩, hos, hall, hlen, hgts, h68, hO⟩ := id h
  subst hnn
  have hn := hO.1
  have loop : ∀ (r i : Nat) (v : Int64), i + r = nN N → (∀ b, b < 64 → (tb v b = true ↔ ∀ j, j < i → ¬ W b j = 2)) → Wp p l e ({ frames := 3, cells := 0, slots := 0, locals := 70 } : Room) s m args below meth c G 5 0 0 (MQ below (cPost G (fun rv z' => ∃ v, rv = some (.long v) ∧ (∀ b, b < 64 → (tb v b = true ↔ ∀ j, j < nN N → ¬ W b j = 2)) ∧ z' = z)) args s (0) (0) (gA G)) z 6 [(3, .int (nI i)), (1, .long v), (0, .ref la)] [] := by
    intro r
    induction r with
    | zero =>
      intro i v hi h1
      have hin : i = nN N := by omega
      subst hin
      refine w_iload_n C 0 dX2_lanesAllKnown_6 rfl rfl ?_
      refine w_aload_n C 2 dX2_lanesAllKnown_7 rfl rfl (by first | rfl | exact isRef_rf _) ?_
      refine w_getRs (ci := 3) (k := 0) (f := 96) C rfl i3 (by decide +kernel) (by decide) (by decide) rfl rfl dX2_lanesAllKnown_8 hla hl96 ?_
      refine w_callV (ci := 0) (As := []) (rest := [.int (nI (nN N))]) C (cwV 0 C.1.2.2.2.2 gX2_lanesAllKnown_Jx4a65c_size_8abf5 rfl rfl rfl (by decide +kernel) ⟨Nat.le_of_ble_eq_true rfl, Nat.le_of_ble_eq_true rfl⟩) hgl.1 rfl (by decide) rfl rfl (by first | decide | simp [cat_ref, cat_null, cat_int, cat_long, rf_cat]) dX2_lanesAllKnown_11 ⟨Nat.le_of_ble_eq_true rfl, Nat.le_of_ble_eq_true rfl⟩ (c_size l G z hgl) (fun rv z2 h9 => ?_)
      obtain ⟨rfl, e9⟩ := h9
      replace e9 := e9.symm
      subst e9
      refine w_icmp_ge (tgt := 50) C dX2_lanesAllKnown_14 (by decide) (fun c1 => ?_) (fun c1 => ?_)
      · refine w_lload_n C 1 dX2_lanesAllKnown_50 rfl rfl ?_
        exact w_lret C dX2_lanesAllKnown_51 ⟨_, rfl, h1, rfl⟩
      · exact absurd (nI_le (Nat.le_refl _) (by omega)) c1
    | succ r ih =>
      intro i v hi h1
      have hin : i < nN N := by omega
      obtain ⟨gi1, gi2, gi3, gi4, gi5⟩ := hgts.1 i hin
      refine w_iload_n C 0 dX2_lanesAllKnown_6 rfl rfl ?_
      refine w_aload_n C 2 dX2_lanesAllKnown_7 rfl rfl (by first | rfl | exact isRef_rf _) ?_
      refine w_getRs (ci := 3) (k := 0) (f := 96) C rfl i3 (by decide +kernel) (by decide) (by decide) rfl rfl dX2_lanesAllKnown_8 hla hl96 ?_
      refine w_callV (ci := 0) (As := []) (rest := [.int (nI i)]) C (cwV 0 C.1.2.2.2.2 gX2_lanesAllKnown_Jx4a65c_size_8abf5 rfl rfl rfl (by decide +kernel) ⟨Nat.le_of_ble_eq_true rfl, Nat.le_of_ble_eq_true rfl⟩) hgl.1 rfl (by decide) rfl rfl (by first | decide | simp [cat_ref, cat_null, cat_int, cat_long, rf_cat]) dX2_lanesAllKnown_11 ⟨Nat.le_of_ble_eq_true rfl, Nat.le_of_ble_eq_true rfl⟩ (c_size l G z hgl) (fun rv z2 h9 => ?_)
      obtain ⟨rfl, e9⟩ := h9
      replace e9 := e9.symm
      subst e9
      refine w_icmp_ge (tgt := 50) C dX2_lanesAllKnown_14 (by decide) (fun c1 => ?_) (fun c1 => ?_)
      · exact absurd c1 (nI_ge hin (by omega))
      · refine w_aload_n C 2 dX2_lanesAllKnown_17 rfl rfl (by first | rfl | exact isRef_rf _) ?_
        refine w_getRs (ci := 3) (k := 0) (f := 96) C rfl i3 (by decide +kernel) (by decide) (by decide) rfl rfl dX2_lanesAllKnown_18 hla hl96 ?_
        refine w_iload_n C 0 dX2_lanesAllKnown_21 rfl rfl ?_
        refine w_callV (ci := 0) (As := [.int (nI i)]) (rest := []) C (cwV 1 C.1.2.2.2.2 gX2_lanesAllKnown_Jx4a65c_get_915e3 rfl rfl rfl (by decide +kernel) ⟨Nat.le_of_ble_eq_true rfl, Nat.le_of_ble_eq_true rfl⟩) hgl.1 rfl (by decide) rfl rfl (by first | decide | simp [cat_ref, cat_null, cat_int, cat_long, rf_cat]) dX2_lanesAllKnown_22 ⟨Nat.le_of_ble_eq_true rfl, Nat.le_of_ble_eq_true rfl⟩ (c_get l G z hgl hin) (fun rv z2 h9 => ?_)
        obtain ⟨rfl, e9⟩ := h9
        replace e9 := e9.symm
        subst e9
        refine w_cast (ci := 2) C (by decide +kernel) gi1 rfl (by decide) dX2_lanesAllKnown_25 ?_
        refine w_astoreB (lvq := [(4, _), (3, _), (1, _), (0, _)]) C 0 rfl rfl (by first | rfl | exact rf_cat _) dX2_lanesAllKnown_28 (by first | rfl | exact isRef_rf _) (by decide) rfl ?_
        refine w_lload_n C 2 dX2_lanesAllKnown_30 rfl rfl ?_
        refine w_aload C 0 dX2_lanesAllKnown_31 rfl (by first | rfl | exact isRef_rf _) ?_
        refine w_getJ (ci := 2) (k := 15) (f := 79) C rfl i2 (by decide +kernel) (by decide) (by decide) rfl rfl dX2_lanesAllKnown_33 gi1 rfl ?_
        refine w_aload C 0 dX2_lanesAllKnown_36 rfl (by first | rfl | exact isRef_rf _) ?_
        refine w_getJ (ci := 2) (k := 16) (f := 80) C rfl i2 (by decide +kernel) (by decide) (by decide) rfl rfl dX2_lanesAllKnown_38 gi1 rfl ?_
        refine w_lor C dX2_lanesAllKnown_41 ?_
        refine w_land C dX2_lanesAllKnown_42 ?_
        refine w_lstore_n (lvq := [(1, _), (4, _), (3, _), (0, _)]) C dX2_lanesAllKnown_43 rfl (by decide) rfl ?_
        refine w_iinc (v := nI (i + 1)) (lvq := [(3, _), (1, _), (4, _), (0, _)]) C 2 dX2_lanesAllKnown_44 rfl (nI_1 i) (by decide) rfl ?_
        refine w_goto (tgt := 6) C dX2_lanesAllKnown_47 (by decide) ?_
        refine w_sub [0, 1, 3] rfl (ih (i + 1) _ (by omega) (fun b hb => ?_))
        obtain ⟨a1, a2, a3⟩ := hr i hin b hb
        rw [tb_and, tb_or, a1, a2, Bool.and_eq_true, h1 b hb, Bool.or_eq_true, decide_eq_true_iff, decide_eq_true_iff]
        constructor
        · rintro ⟨q1, q2⟩ j hj
          by_cases hji : j = i
          · rw [hji]
            rcases q2 with q2 | q2 <;> rw [q2] <;> decide
          · exact q1 j (by omega)
        · intro q
          refine ⟨fun j hj => q j (by omega), ?_⟩
          rcases a3 with a3 | a3 | a3
          · exact Or.inr a3
          · exact Or.inl a3
          · exact absurd a3 (q i (by omega))
  refine w_ldc2 (v := (-1)) C dX2_lanesAllKnown_0 (by decide +kernel) ?_
  refine w_lstore_n (lvq := [(1, _), (0, _)]) C dX2_lanesAllKnown_3 rfl (by decide) rfl ?_
  refine w_iconst (v := 0) C dX2_lanesAllKnown_4 (by decide) ?_
  refine w_istore_n (lvq := [(3, _), (1, _), (0, _)]) C dX2_lanesAllKnown_5 rfl (by decide) rfl ?_
  exact w_sub [0, 1, 2] rfl (loop (nN N) 0 (-1) (by omega) (fun b hb => ⟨fun _ j hj => (by cases hj), fun _ => tb_m1 b hb⟩))
