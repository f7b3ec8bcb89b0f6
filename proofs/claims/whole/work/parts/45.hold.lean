/-! ===== TernaryNet: set, reset, step ===== -/
def nSet (N : NT) (i : Nat) (v : Int32) : NT := (nN N, nSo N, va_up (nHd N) i v, nFL N)
def nRes (N : NT) : NT := (nN N, nSo N, fun i => if nSo N i = 1 then 0 else nHd N i, nFL N)
def nNx (N : NT) (i : Nat) : Int32 := match nFd N i with
  | [] => nHd N i
  | x :: _ => tkv (nV N (nRC N) x.1) x.2
def nStp (N : NT) : NT := (nN N, nSo N, fun i => if nSo N i = 1 then nNx N i else nHd N i, nFL N)
def pHd (f : Nat) : Bool := decide (f = 68) || decide (f = 167)
theorem pHd_192 {f : Nat} (h : 192 ≤ f) : pHd f = false := by
  unfold pHd
  simp only [Bool.or_eq_false_iff, decide_eq_false_iff_not]
  omega
theorem nV_0 {N : NT} {i : Nat} (h : isLog (nSo N i) = false) : nV N 0 i = nHd N i := by show (if isLog (nSo N i) then (2 : Int32) else nHd N i) = _; rw [h]; rfl
theorem netI_hd {G : Gx} {z z' : Sto} {x gl pt ol : Nat} {ga : Nat → Nat} {N : NT} {hd : Nat → Int32} (h : netI G z x gl pt ol ga N) (hF : iF pHd z z') (hO : nOK (nN N, nSo N, hd, nFL N)) (h68 : ∀ i, i < nN N → sI z' 68 (ga i) = nV (nN N, nSo N, hd, nFL N) 0 i) (h167 : sI z' 167 x = 1) : netI G z' x gl pt ol ga (nN N, nSo N, hd, nFL N) := by
  obtain ⟨-, ⟨⟨a1, a2, a3⟩, ⟨b1, b2, b3⟩, ⟨cg, c1, c2⟩, ⟨no, fo, cap, d1, d2⟩, e1, e2, f1, f2, f3⟩, -, ps, p1, p2⟩ := h
  refine ⟨hO, ⟨⟨hF.is a1, (hF.R _ _).trans a2, (hF.R _ _).trans a3⟩, ⟨hF.is b1, (hF.R _ _).trans b2, hF.rsep b3⟩, ⟨cg, hF.lst rfl c1, c2⟩, ⟨no, fo, cap, hF.lst rfl d1, d2⟩, hF.gts rfl rfl rfl e1, fun i hi => ⟨(hF.2 67 _ rfl).trans (e2 i hi).1, h68 i hi⟩, (hF.2 162 _ rfl).trans f1, (hF.2 163 _ rfl).trans f2, (hF.2 164 _ rfl).trans f3⟩, ⟨true, h167, fun q => by cases q⟩, ps, (hF.2 168 _ rfl).trans p1, fun q => ptR_iF (p2 q) hF (by decide)⟩
theorem nV_3 {N : NT} (hO : nOK N) : ∀ (k i : Nat), i < nN N → nV N k i = 0 ∨ nV N k i = 1 ∨ nV N k i = 2 := by
  intro k
  induction k with
  | zero =>
    intro i hi
    show (if isLog (nSo N i) then (2 : Int32) else nHd N i) = 0 ∨ (if isLog (nSo N i) then (2 : Int32) else nHd N i) = 1 ∨ (if isLog (nSo N i) then (2 : Int32) else nHd N i) = 2
    split
    · exact Or.inr (Or.inr rfl)
    · exact (hO.2.2.2.2.1 i hi).1
  | succ k ih =>
    intro i hi
    by_cases h : isLog (nSo N i) = true ∧ nV N k i = 2
    · have e : nV N (k + 1) i = gvf (dcd (nSo N i)) ((nFd N i).map (fun x => tkv (nV N k x.1) x.2)) := by
        show (if isLog (nSo N i) = true ∧ nV N k i = 2 then _ else _) = _
        rw [if_pos h]
      rw [e]
      unfold gvf dcd
      split <;> split <;> first | exact Or.inl rfl | exact Or.inr (Or.inl rfl) | (split <;> first | exact Or.inl rfl | exact Or.inr (Or.inl rfl) | exact Or.inr (Or.inr rfl))
    · have e : nV N (k + 1) i = nV N k i := by
        show (if isLog (nSo N i) = true ∧ nV N k i = 2 then _ else _) = _
        rw [if_neg h]
      rw [e]
      exact ih i hi
theorem tkv_01 {v g : Int32} (hv : v = 0 ∨ v = 1) (hg : g = 0 ∨ g = 1) : tkv v g = 0 ∨ tkv v g = 1 := by
  rcases hv with rfl | rfl <;> rcases hg with rfl | rfl <;> decide
theorem nV_noLog {N : NT} {i : Nat} (h : isLog (nSo N i) = false) : ∀ k, nV N k i = nHd N i := by
  intro k
  induction k with
  | zero => exact nV_0 h
  | succ k ih =>
    show (if isLog (nSo N i) = true ∧ nV N k i = 2 then _ else nV N k i) = _
    rw [if_neg (fun q => by rw [h] at q; cases q.1), ih]
theorem log_1 {s : Int32} (h : s = 1) : isLog s = false := by rw [h]; rfl
theorem log_0 {s : Int32} (h : s = 0) : isLog s = false := by rw [h]; rfl
theorem nFd_mem {N : NT} {i : Nat} {y : Nat × Int32} (h : y ∈ nFd N i) : (i, y.1, y.2) ∈ nFL N := by
  unfold nFd at h
  obtain ⟨t, ht, rfl⟩ := List.mem_map.mp h
  rw [List.mem_reverse, List.mem_filter] at ht
  have := of_decide_eq_true ht.2
  rw [← this]
  exact ht.1
theorem nFd_memI {N : NT} {i : Nat} {y : Nat × Int32} (h : (i, y.1, y.2) ∈ nFL N) : y ∈ nFd N i := by
  unfold nFd
  exact List.mem_map.mpr ⟨(i, y.1, y.2), by rw [List.mem_reverse, List.mem_filter]; exact ⟨h, decide_eq_true rfl⟩, rfl⟩
theorem nOK_set {N : NT} (hO : nOK N) {i : Nat} {v : Int32} (hs : nSo N i = 0) (hv : v = 0 ∨ v = 1 ∨ v = 2) : nOK (nSet N i v) := by
  obtain ⟨a1, a2, a3, a4, a5, a6, a7, a8⟩ := hO
  refine ⟨a1, a2, a3, a4, fun j hj => ?_, a6, a7, a8⟩
  show (va_up (nHd N) i v j = 0 ∨ va_up (nHd N) i v j = 1 ∨ va_up (nHd N) i v j = 2) ∧ (nSo N j = 1 → va_up (nHd N) i v j = 0 ∨ va_up (nHd N) i v j = 1)
  by_cases h : j = i
  · rw [h, va_up_self]
    exact ⟨hv, fun q => by rw [hs] at q; exact absurd q (by decide)⟩
  · rw [va_up_ne _ _ h]
    exact a5 j hj
theorem nOK_res {N : NT} (hO : nOK N) : nOK (nRes N) := by
  obtain ⟨a1, a2, a3, a4, a5, a6, a7, a8⟩ := hO
  refine ⟨a1, a2, a3, a4, fun j hj => ?_, a6, a7, a8⟩
  show ((if nSo N j = 1 then (0 : Int32) else nHd N j) = 0 ∨ (if nSo N j = 1 then (0 : Int32) else nHd N j) = 1 ∨ (if nSo N j = 1 then (0 : Int32) else nHd N j) = 2) ∧ (nSo N j = 1 → (if nSo N j = 1 then (0 : Int32) else nHd N j) = 0 ∨ (if nSo N j = 1 then (0 : Int32) else nHd N j) = 1)
  by_cases h : nSo N j = 1
  · rw [if_pos h]; exact ⟨Or.inl rfl, fun _ => Or.inl rfl⟩
  · rw [if_neg h]; exact ⟨(a5 j hj).1, fun q => absurd q h⟩
theorem nUn_zero {N : NT} {k : Nat} (h : nUn N k = 0) {i : Nat} (hi : i < nN N) : ¬ nV N k i = 2 := fun e => by
  have := cnt_pos h i hi
  rw [decide_eq_true e] at this; cases this
theorem nNx_01 {N : NT} (hO : nOK N) (h0 : nUn N (nRC N) = 0) {i : Nat} (hi : i < nN N) (hs : nSo N i = 1) : nNx N i = 0 ∨ nNx N i = 1 := by
  unfold nNx
  cases hf : nFd N i with
  | nil => exact (hO.2.2.2.2.1 i hi).2 hs
  | cons y tl =>
    have hm : y ∈ nFd N i := by rw [hf]; exact List.mem_cons_self
    obtain ⟨t1, t2, t3⟩ := hO.2.2.1 _ (nFd_mem hm)
    have hv := nV_3 hO (nRC N) y.1 t2
    exact tkv_01 (hv.elim Or.inl (fun q => q.elim Or.inr (fun q => absurd q (nUn_zero h0 t2)))) t3
theorem nOK_stp {N : NT} (hO : nOK N) (h0 : nUn N (nRC N) = 0) : nOK (nStp N) := by
  obtain ⟨a1, a2, a3, a4, a5, a6, a7, a8⟩ := id hO
  refine ⟨a1, a2, a3, a4, fun j hj => ?_, a6, a7, a8⟩
  show ((if nSo N j = 1 then nNx N j else nHd N j) = 0 ∨ (if nSo N j = 1 then nNx N j else nHd N j) = 1 ∨ (if nSo N j = 1 then nNx N j else nHd N j) = 2) ∧ (nSo N j = 1 → (if nSo N j = 1 then nNx N j else nHd N j) = 0 ∨ (if nSo N j = 1 then nNx N j else nHd N j) = 1)
  by_cases h : nSo N j = 1
  · rw [if_pos h]
    have := nNx_01 hO h0 hj h
    exact ⟨this.imp id Or.inl, fun _ => this⟩
  · rw [if_neg h]; exact ⟨(a5 j hj).1, fun q => absurd q h⟩

set_option maxHeartbeats 4000000 in
set_option maxRecDepth 100000 in
theorem c_set (l : Launch) (G : Gx) (z : Sto) {x gl pt ol : Nat} {ga : Nat → Nat} {N : NT} {i : Nat} {v : Int32} (h : netI G z x gl pt ol ga N) (hi : i < nN N) (hs : nSo N i = 0) (hv0 : ¬ v < 0) (hv2 : v ≤ 2) : Ct l yX4_set wsX4_set ({ frames := 4, cells := 0, slots := 0, locals := 100 } : Room) G z [.ref x, .int (nI i), .int v] (fun rv z' => rv = some (.int (nHd N i)) ∧ kfr z z' ∧ netI G z' x gl pt ol ga (nSet N i v)) := by
  refine ct_of (cc := cX4_set) (maxL := 5) (ret := (some .int)) (lv0 := [(0, .ref x), (1, .int (nI i)), (2, .int v)]) (by decide) rfl (by simp [lg_sl, cat_ref, cat_null, cat_int, cat_long, rf_cat]) (by simp [lv_args, cat_ref, cat_null, cat_int, cat_long, rf_cat]) ?_
  intro p e s m args below meth c C hin
  have i2 : ∀ w ∈ u_ws RX1 TX1 17, w ∈ wsX4_set := by decide +kernel
  have i5 : ∀ w ∈ u_ws RX4 TX4 9, w ∈ wsX4_set := by decide +kernel
  have hG := h.2.1
  obtain ⟨capg, hgl, hgc⟩ := hG.2.2.1
  have hgi := lst_is hgl hi
  have hv3 : v = 0 ∨ v = 1 ∨ v = 2 := by
    obtain ⟨j, hj, rfl⟩ := nI_of2 (n := 2) (by decide) hv0 hv2
    match j, hj with
    | 0, _ => exact Or.inl rfl
    | 1, _ => exact Or.inr (Or.inl rfl)
    | 2, _ => exact Or.inr (Or.inr rfl)
  refine w_aload_n C 0 dX4_set_0 rfl rfl (by first | rfl | exact isRef_rf _) ?_
  refine w_iload_n C 1 dX4_set_1 rfl rfl ?_
  refine w_callV (ci := 5) (As := [.int (nI i)]) (rest := []) C (cwV 1 C.1.2.2.2.2 gX4_set_X4_gateAt rfl rfl rfl (by decide +kernel) ⟨Nat.le_of_ble_eq_true rfl, Nat.le_of_ble_eq_true rfl⟩) hG.1.1 rfl (by decide) rfl rfl (by first | decide | simp [cat_ref, cat_null, cat_int, cat_long, rf_cat]) dX4_set_2 ⟨Nat.le_of_ble_eq_true rfl, Nat.le_of_ble_eq_true rfl⟩ (c_gateAt l G z hG.1.1 hG.1.2.1 hgl hi) (fun rv z1 h9 => ?_)
  obtain ⟨rfl, e9⟩ := h9
  replace e9 := e9.symm
  subst e9
  refine w_astore_nB (lvq := [(3, _), (0, _), (1, _), (2, _)]) C 2 rfl rfl (by first | rfl | exact rf_cat _) dX4_set_5 rfl (by first | rfl | exact isRef_rf _) (by decide) rfl ?_
  refine w_aload_n C 0 dX4_set_6 rfl rfl (by first | rfl | exact isRef_rf _) ?_
  refine w_getI (ci := 2) (k := 1) (f := 65) C rfl i2 (by decide +kernel) (by decide) (by decide) rfl rfl dX4_set_7 hgi ((hG.2.2.2.2.1.1 i hi).2.2.1.trans hs) ?_
  refine w_if_eq (tgt := 23) C dX4_set_10 (by decide) (fun c1 => ?_) (fun c1 => ?_)
  · refine w_iload_n C 3 dX4_set_23 rfl rfl ?_
    refine w_if_lt (tgt := 32) C dX4_set_24 (by decide) (fun c2 => ?_) (fun c2 => ?_)
    · exact absurd c2 hv0
    · refine w_iload_n C 3 dX4_set_27 rfl rfl ?_
      refine w_iconst (v := 2) C dX4_set_28 (by decide) ?_
      refine w_icmp_le (tgt := 42) C dX4_set_29 (by decide) (fun c3 => ?_) (fun c3 => ?_)
      · refine w_aload_n C 0 dX4_set_42 rfl rfl (by first | rfl | exact isRef_rf _) ?_
        refine w_getI (ci := 2) (k := 4) (f := 68) C rfl i2 (by decide +kernel) (by decide) (by decide) rfl rfl dX4_set_43 hgi ((hG.2.2.2.2.2.1 i hi).2.trans (nV_0 (log_0 hs))) ?_
        refine w_istoreB (lvq := [(4, _), (3, _), (0, _), (1, _), (2, _)]) C 0 rfl rfl (by first | rfl | exact rf_cat _) dX4_set_46 (by decide) rfl ?_
        refine w_aload_n C 1 dX4_set_48 rfl rfl (by first | rfl | exact isRef_rf _) ?_
        refine w_iload_n C 4 dX4_set_49 rfl rfl ?_
        refine w_putI (ci := 2) (k := 4) (f := 68) C rfl i2 (by decide +kernel) (by decide) (by decide) rfl rfl tyX1 tyX1_ok nmX1 rfl rfl rfl dX4_set_50 hgi ?_
        refine w_aload_n C 2 dX4_set_53 rfl rfl (by first | rfl | exact isRef_rf _) ?_
        refine w_iconst (v := 1) C dX4_set_54 (by decide) ?_
        refine w_putI (ci := 5) (k := 7) (f := 167) C rfl i5 (by decide +kernel) (by decide) (by decide) rfl rfl tyX4 tyX4_ok nmX4 rfl rfl rfl dX4_set_55 (is_I hG.1.1) ?_
        refine w_iload C 0 dX4_set_58 rfl ?_
        refine w_iret C dX4_set_60 ?_
        refine ⟨rfl, (kfr_I _ _ _ (by decide)).tr (kfr_I _ _ _ (by decide)), netI_hd (hd := va_up (nHd N) i v) h ((iF_I _ pHd 68 _ _ rfl).tr (iF_I _ pHd 167 _ _ rfl)) (nOK_set h.1 hs hv3) (fun j hj => ?_) rI_Is⟩
        refine rI_If (by decide) ?_
        by_cases hji : j = i
        · rw [hji]
          refine rI_Is.trans ?_
          show v = (if isLog (nSo N i) then (2 : Int32) else va_up (nHd N) i v i)
          rw [log_0 hs, va_up_self]
          rfl
        · refine rI_Ia (fun e9 => hji (hG.2.2.2.2.1.2 j i hj hi e9)) ((hG.2.2.2.2.2.1 j hj).2.trans ?_)
          show (if isLog (nSo N j) then (2 : Int32) else nHd N j) = (if isLog (nSo N j) then (2 : Int32) else va_up (nHd N) i v j)
          rw [va_up_ne _ _ hji]
        skip
      · exact absurd hv2 c3
  · exact absurd rfl c1
set_option maxHeartbeats 4000000 in
set_option maxRecDepth 100000 in
theorem x_set (l : Launch) (G : Gx) (z : Sto) {x gl pt ol : Nat} {ga : Nat → Nat} {N : NT} {j v : Int32} (hl9 : l.stackTraces = false) (h : netI G z x gl pt ol ga N) (hj : j < 0 ∨ nI (nN N) ≤ j) : CtX l yX4_set wsX4_set ({ frames := 7, cells := 1, slots := 6, locals := 150 } : Room) G z [.ref x, .int j, .int v] (fun _ _ => False) (fun E z' => E = "java/lang/IndexOutOfBoundsException" ∧ z' = z) := by
  refine ctx_of (cc := cX4_set) (maxL := 5) (ret := (some .int)) (lv0 := [(0, .ref x), (1, .int j), (2, .int v)]) (by decide) rfl (by simp [lg_sl, cat_ref, cat_null, cat_int, cat_long, rf_cat]) (by simp [lv_args, cat_ref, cat_null, cat_int, cat_long, rf_cat]) ?_
  intro p e s m args below meth c C hin ht9
  have i2 : ∀ w ∈ u_ws RX1 TX1 17, w ∈ wsX4_set := by decide +kernel
  have i5 : ∀ w ∈ u_ws RX4 TX4 9, w ∈ wsX4_set := by decide +kernel
  have hG := h.2.1
  obtain ⟨capg, hgl, hgc⟩ := hG.2.2.1
  refine w_aload_n C 0 dX4_set_0 rfl rfl (by first | rfl | exact isRef_rf _) ?_
  refine w_iload_n C 1 dX4_set_1 rfl rfl ?_
  exact w_callVX (ci := 5) (As := [.int j]) (rest := []) C ht9 (cwV 1 C.1.2.2.2.2 gX4_set_X4_gateAt rfl rfl rfl (by decide +kernel) ⟨Nat.le_of_ble_eq_true rfl, Nat.le_of_ble_eq_true rfl⟩) hG.1.1 rfl (by decide) rfl rfl (by decide) dX4_set_2 ⟨Nat.le_of_ble_eq_true rfl, Nat.le_of_ble_eq_true rfl⟩ ⟨Nat.le_of_ble_eq_true rfl, Nat.le_of_ble_eq_true rfl⟩ (x_gateAt l G z hl9 hG.1.1 hG.1.2.1 hgl hj) (fun E z' q => q)
set_option maxHeartbeats 4000000 in
set_option maxRecDepth 100000 in
theorem x_set2 (l : Launch) (G : Gx) (z : Sto) {x gl pt ol : Nat} {ga : Nat → Nat} {N : NT} {i : Nat} {v : Int32} (hl9 : l.stackTraces = false) (h : netI G z x gl pt ol ga N) (hi : i < nN N) (hb : ¬ nSo N i = 0 ∨ v < 0 ∨ 2 < v) : CtX l yX4_set wsX4_set ({ frames := 7, cells := 1, slots := 6, locals := 150 } : Room) G z [.ref x, .int (nI i), .int v] (fun _ _ => False) (fun E z' => E = "java/lang/IllegalArgumentException" ∧ z' = z) := by
  refine ctx_of (cc := cX4_set) (maxL := 5) (ret := (some .int)) (lv0 := [(0, .ref x), (1, .int (nI i)), (2, .int v)]) (by decide) rfl (by simp [lg_sl, cat_ref, cat_null, cat_int, cat_long, rf_cat]) (by simp [lv_args, cat_ref, cat_null, cat_int, cat_long, rf_cat]) ?_
  intro p e s m args below meth c C hin ht9
  have i2 : ∀ w ∈ u_ws RX1 TX1 17, w ∈ wsX4_set := by decide +kernel
  have i5 : ∀ w ∈ u_ws RX4 TX4 9, w ∈ wsX4_set := by decide +kernel
  have hG := h.2.1
  obtain ⟨capg, hgl, hgc⟩ := hG.2.2.1
  have hgi := lst_is hgl hi
  refine w_aload_n C 0 dX4_set_0 rfl rfl (by first | rfl | exact isRef_rf _) ?_
  refine w_iload_n C 1 dX4_set_1 rfl rfl ?_
  refine w_callV (ci := 5) (As := [.int (nI i)]) (rest := []) C (cwV 1 C.1.2.2.2.2 gX4_set_X4_gateAt rfl rfl rfl (by decide +kernel) ⟨Nat.le_of_ble_eq_true rfl, Nat.le_of_ble_eq_true rfl⟩) hG.1.1 rfl (by decide) rfl rfl (by first | decide | simp [cat_ref, cat_null, cat_int, cat_long, rf_cat]) dX4_set_2 ⟨Nat.le_of_ble_eq_true rfl, Nat.le_of_ble_eq_true rfl⟩ (c_gateAt l G z hG.1.1 hG.1.2.1 hgl hi) (fun rv z1 h9 => ?_)
  obtain ⟨rfl, e9⟩ := h9
  replace e9 := e9.symm
  subst e9
  refine w_astore_nB (lvq := [(3, _), (0, _), (1, _), (2, _)]) C 2 rfl rfl (by first | rfl | exact rf_cat _) dX4_set_5 rfl (by first | rfl | exact isRef_rf _) (by decide) rfl ?_
  refine w_aload_n C 0 dX4_set_6 rfl rfl (by first | rfl | exact isRef_rf _) ?_
  refine w_getI (ci := 2) (k := 1) (f := 65) C rfl i2 (by decide +kernel) (by decide) (by decide) rfl rfl dX4_set_7 hgi (hG.2.2.2.2.1.1 i hi).2.2.1 ?_
  refine w_if_eq (tgt := 23) C dX4_set_10 (by decide) (fun c1 => ?_) (fun c1 => ?_)
  · refine w_iload_n C 3 dX4_set_23 rfl rfl ?_
    refine w_if_lt (tgt := 32) C dX4_set_24 (by decide) (fun c2 => ?_) (fun c2 => ?_)
    · exact w_throwS (names := ["java/lang/RuntimeException", "java/lang/Exception"]) C hl9 ht9 (by decide +kernel) (by decide +kernel) (by decide +kernel) (by decide +kernel) C.2.2.2.1.2.2.2.2.2.2.2.2.1 (fun w hw => List.mem_cons_of_mem _ (List.mem_append_left _ (List.mem_append_right _ hw))) (by decide +kernel) C.2.2.2.1.2.2.2.2.2.2.2.2.2.2.1.1 dX4_set_32 dX4_set_35 dX4_set_36 dX4_set_38 dX4_set_41 (by decide) (by decide) (by decide) (by decide) (by decide +kernel) ⟨rfl, rfl⟩
    · refine w_iload_n C 3 dX4_set_27 rfl rfl ?_
      refine w_iconst (v := 2) C dX4_set_28 (by decide) ?_
      refine w_icmp_le (tgt := 42) C dX4_set_29 (by decide) (fun c3 => ?_) (fun c3 => ?_)
      · rcases hb with q | q | q
        · exact absurd c1 q
        · exact absurd q c2
        · exact absurd c3 (Int32.not_le.mpr q)
      · exact w_throwS (names := ["java/lang/RuntimeException", "java/lang/Exception"]) C hl9 ht9 (by decide +kernel) (by decide +kernel) (by decide +kernel) (by decide +kernel) C.2.2.2.1.2.2.2.2.2.2.2.2.1 (fun w hw => List.mem_cons_of_mem _ (List.mem_append_left _ (List.mem_append_right _ hw))) (by decide +kernel) C.2.2.2.1.2.2.2.2.2.2.2.2.2.2.1.1 dX4_set_32 dX4_set_35 dX4_set_36 dX4_set_38 dX4_set_41 (by decide) (by decide) (by decide) (by decide) (by decide +kernel) ⟨rfl, rfl⟩
  · exact w_throwS (names := ["java/lang/RuntimeException", "java/lang/Exception"]) C hl9 ht9 (by decide +kernel) (by decide +kernel) (by decide +kernel) (by decide +kernel) C.2.2.2.1.2.2.2.2.2.2.2.1 (fun w hw => List.mem_cons_of_mem _ (List.mem_append_left _ (List.mem_append_right _ hw))) (by decide +kernel) C.2.2.2.1.2.2.2.2.2.2.2.2.2.2.1.1 dX4_set_13 dX4_set_16 dX4_set_17 dX4_set_19 dX4_set_22 (by decide) (by decide) (by decide) (by decide) (by decide +kernel) ⟨rfl, rfl⟩
set_option maxHeartbeats 4000000 in
set_option maxRecDepth 100000 in
theorem c_reset (l : Launch) (G : Gx) (z : Sto) {x gl pt ol : Nat} {ga : Nat → Nat} {N : NT} (h : netI G z x gl pt ol ga N) : Ct l yX4_reset wsX4_reset ({ frames := 3, cells := 0, slots := 0, locals := 70 } : Room) G z [.ref x] (fun rv z' => rv = some (.int (nI (cnt (fun j => decide (nSo N j = 1 ∧ nHd N j = 1)) (nN N)))) ∧ kfr z z' ∧ netI G z' x gl pt ol ga (nRes N)) := by
  refine ct_of (cc := cX4_reset) (maxL := 4) (ret := (some .int)) (lv0 := [(0, .ref x)]) (by decide) rfl (by simp [lg_sl, cat_ref, cat_null, cat_int, cat_long, rf_cat]) (by simp [lv_args, cat_ref, cat_null, cat_int, cat_long, rf_cat]) ?_
  intro p e s m args below meth c C hin
  have i2 : ∀ w ∈ u_ws RX1 TX1 17, w ∈ wsX4_reset := by decide +kernel
  have i5 : ∀ w ∈ u_ws RX4 TX4 9, w ∈ wsX4_reset := by decide +kernel
  have hG := h.2.1
  have hn := h.1.1
  obtain ⟨capg, hgl, hgc⟩ := hG.2.2.1
  have rv1 : ∀ j, nV (nRes N) 0 j = (if isLog (nSo N j) then 2 else if nSo N j = 1 then 0 else nHd N j) := fun _ => rfl
  have loop : ∀ (r i : Nat) (z1 : Sto), i + r = nN N → iF pHd z z1 → (∀ v, v < i → sI z1 68 (ga v) = nV (nRes N) 0 v) → (∀ v, i ≤ v → v < nN N → sI z1 68 (ga v) = nV N 0 v) → Wp p l e ({ frames := 3, cells := 0, slots := 0, locals := 70 } : Room) s m args below meth c G 4 0 0 (MQ below (cPost G (fun rv z' => rv = some (.int (nI (cnt (fun j => decide (nSo N j = 1 ∧ nHd N j = 1)) (nN N)))) ∧ kfr z z' ∧ netI G z' x gl pt ol ga (nRes N))) args s (0) (0) (gA G)) z1 4 [(2, .int (nI i)), (1, .int (nI (cnt (fun j => decide (nSo N j = 1 ∧ nHd N j = 1)) i))), (0, .ref x)] [] := by
    intro r
    induction r with
    | zero =>
      intro i z1 hi hF h1 h2
      have hin : i = nN N := by omega
      subst hin
      have hx1 := hF.is hG.1.1
      have hl1 := hF.lst rfl hgl
      refine w_iload_n C 0 dX4_reset_4 rfl rfl ?_
      refine w_aload_n C 2 dX4_reset_5 rfl rfl (by first | rfl | exact isRef_rf _) ?_
      refine w_getRs (ci := 5) (k := 0) (f := 160) C rfl i5 (by decide +kernel) (by decide) (by decide) rfl rfl dX4_reset_6 hx1 ((hF.R _ _).trans hG.1.2.1) ?_
      refine w_callV (ci := 0) (As := []) (rest := [.int (nI (nN N))]) C (cwV 0 C.1.2.2.2.2 gX4_reset_Jx4a65c_size_8abf5 rfl rfl rfl (by decide +kernel) ⟨Nat.le_of_ble_eq_true rfl, Nat.le_of_ble_eq_true rfl⟩) hl1.1 rfl (by decide) rfl rfl (by first | decide | simp [cat_ref, cat_null, cat_int, cat_long, rf_cat]) dX4_reset_9 ⟨Nat.le_of_ble_eq_true rfl, Nat.le_of_ble_eq_true rfl⟩ (c_size l G z1 hl1) (fun rv z2 h9 => ?_)
      obtain ⟨rfl, e9⟩ := h9
      replace e9 := e9.symm
      subst e9
      refine w_icmp_ge (tgt := 57) C dX4_reset_12 (by decide) (fun c1 => ?_) (fun c1 => ?_)
      · refine w_aload_n C 2 dX4_reset_57 rfl rfl (by first | rfl | exact isRef_rf _) ?_
        refine w_iconst (v := 1) C dX4_reset_58 (by decide) ?_
        refine w_putI (ci := 5) (k := 7) (f := 167) C rfl i5 (by decide +kernel) (by decide) (by decide) rfl rfl tyX4 tyX4_ok nmX4 rfl rfl rfl dX4_reset_59 hx1 ?_
        refine w_iload_n C 1 dX4_reset_62 rfl rfl ?_
        exact w_iret C dX4_reset_63 ⟨rfl, kfr_iF (hF.tr (iF_I _ pHd 167 x _ rfl)) (fun _ q => pHd_192 q), netI_hd (hd := fun i => if nSo N i = 1 then 0 else nHd N i) h (hF.tr (iF_I _ pHd 167 x _ rfl)) (nOK_res h.1) (fun j hj => rI_If (by decide) (h1 j hj)) rI_Is⟩
      · exact absurd (nI_le (Nat.le_refl _) (by omega)) c1
    | succ r ih =>
      intro i z1 hi hF h1 h2
      have hin : i < nN N := by omega
      have hx1 := hF.is hG.1.1
      have hl1 := hF.lst rfl hgl
      have hgi := lst_is hl1 hin
      have e65 : sI z1 65 (ga i) = nSo N i := (hF.2 65 _ rfl).trans (hG.2.2.2.2.1.1 i hin).2.2.1
      have e68 := h2 i (Nat.le_refl _) hin
      have hgne : ∀ v, v < nN N → v ≠ i → ga v ≠ ga i := fun v hv hne e9 => hne (hG.2.2.2.2.1.2 v i hv hin e9)
      have hcs : ∀ b : Bool, decide (nSo N i = 1 ∧ nHd N i = 1) = b → cnt (fun j => decide (nSo N j = 1 ∧ nHd N j = 1)) (i + 1) = cnt (fun j => decide (nSo N j = 1 ∧ nHd N j = 1)) i + (if b then 1 else 0) := fun b hb => by
        show cnt (fun j => decide (nSo N j = 1 ∧ nHd N j = 1)) i + (if decide (nSo N i = 1 ∧ nHd N i = 1) then 1 else 0) = _
        rw [hb]
      have nxt : (¬ (nSo N i = 1 ∧ nHd N i = 1)) → Wp p l e ({ frames := 3, cells := 0, slots := 0, locals := 70 } : Room) s m args below meth c G 4 0 0 (MQ below (cPost G (fun rv z' => rv = some (.int (nI (cnt (fun j => decide (nSo N j = 1 ∧ nHd N j = 1)) (nN N)))) ∧ kfr z z' ∧ netI G z' x gl pt ol ga (nRes N))) args s (0) (0) (gA G)) z1 51 [(3, .ref (ga i)), (2, .int (nI i)), (1, .int (nI (cnt (fun j => decide (nSo N j = 1 ∧ nHd N j = 1)) i))), (0, .ref x)] [] := by
        intro hno
        have hc0 := hcs false (decide_eq_false hno)
        simp only [Bool.false_eq_true, if_false, Nat.add_zero] at hc0
        have hsame : nV (nRes N) 0 i = nV N 0 i := by
          rw [rv1]
          show _ = (if isLog (nSo N i) then (2 : Int32) else nHd N i)
          by_cases hs : nSo N i = 1
          · have := (h.1.2.2.2.2.1 i hin).2 hs
            rw [if_pos hs, this.resolve_right (fun q => hno ⟨hs, q⟩)]
          · rw [if_neg hs]
        refine w_iincB (v := nI (i + 1)) (lvq := [(2, _), (3, _), (1, _), (0, _)]) C 1 2 rfl rfl (by first | rfl | exact rf_cat _) dX4_reset_51 rfl (nI_1 i) (by decide) rfl ?_
        refine w_goto (tgt := 4) C dX4_reset_54 (by decide) ?_
        exact w_sub [0, 2, 3] rfl (hc0 ▸ ih (i + 1) z1 (by omega) hF (fun v hv => by rcases Nat.lt_succ_iff_lt_or_eq.mp hv with q | q; exact h1 v q; rw [q, hsame]; exact e68) (fun v hv hv2 => h2 v (by omega) hv2))
      refine w_iload_n C 0 dX4_reset_4 rfl rfl ?_
      refine w_aload_n C 2 dX4_reset_5 rfl rfl (by first | rfl | exact isRef_rf _) ?_
      refine w_getRs (ci := 5) (k := 0) (f := 160) C rfl i5 (by decide +kernel) (by decide) (by decide) rfl rfl dX4_reset_6 hx1 ((hF.R _ _).trans hG.1.2.1) ?_
      refine w_callV (ci := 0) (As := []) (rest := [.int (nI i)]) C (cwV 0 C.1.2.2.2.2 gX4_reset_Jx4a65c_size_8abf5 rfl rfl rfl (by decide +kernel) ⟨Nat.le_of_ble_eq_true rfl, Nat.le_of_ble_eq_true rfl⟩) hl1.1 rfl (by decide) rfl rfl (by first | decide | simp [cat_ref, cat_null, cat_int, cat_long, rf_cat]) dX4_reset_9 ⟨Nat.le_of_ble_eq_true rfl, Nat.le_of_ble_eq_true rfl⟩ (c_size l G z1 hl1) (fun rv z2 h9 => ?_)
      obtain ⟨rfl, e9⟩ := h9
      replace e9 := e9.symm
      subst e9
      refine w_icmp_ge (tgt := 57) C dX4_reset_12 (by decide) (fun c1 => ?_) (fun c1 => ?_)
      · exact absurd c1 (nI_ge hin (by omega))
      · refine w_aload_n C 2 dX4_reset_15 rfl rfl (by first | rfl | exact isRef_rf _) ?_
        refine w_getRs (ci := 5) (k := 0) (f := 160) C rfl i5 (by decide +kernel) (by decide) (by decide) rfl rfl dX4_reset_16 hx1 ((hF.R _ _).trans hG.1.2.1) ?_
        refine w_iload_n C 0 dX4_reset_19 rfl rfl ?_
        refine w_callV (ci := 0) (As := [.int (nI i)]) (rest := []) C (cwV 1 C.1.2.2.2.2 gX4_reset_Jx4a65c_get_915e3 rfl rfl rfl (by decide +kernel) ⟨Nat.le_of_ble_eq_true rfl, Nat.le_of_ble_eq_true rfl⟩) hl1.1 rfl (by decide) rfl rfl (by first | decide | simp [cat_ref, cat_null, cat_int, cat_long, rf_cat]) dX4_reset_20 ⟨Nat.le_of_ble_eq_true rfl, Nat.le_of_ble_eq_true rfl⟩ (c_get l G z1 hl1 hin) (fun rv z2 h9 => ?_)
        obtain ⟨rfl, e9⟩ := h9
        replace e9 := e9.symm
        subst e9
        refine w_cast (ci := 2) C (by decide +kernel) hgi rfl (by decide) dX4_reset_23 ?_
        refine w_astore_nB (lvq := [(3, _), (2, _), (1, _), (0, _)]) C 0 rfl rfl (by first | rfl | exact rf_cat _) dX4_reset_26 rfl (by first | rfl | exact isRef_rf _) (by decide) rfl ?_
        refine w_aload_n C 0 dX4_reset_27 rfl rfl (by first | rfl | exact isRef_rf _) ?_
        refine w_getI (ci := 2) (k := 1) (f := 65) C rfl i2 (by decide +kernel) (by decide) (by decide) rfl rfl dX4_reset_28 hgi e65 ?_
        refine w_iconst (v := 1) C dX4_reset_31 (by decide) ?_
        refine w_icmp_ne (tgt := 51) C dX4_reset_32 (by decide) (fun c2 => ?_) (fun c2 => ?_)
        · exact w_sub [0, 1, 2, 3] rfl (nxt (fun q => c2 q.1))
        · rw [nV_0 (log_1 c2)] at e68
          refine w_aload_n C 0 dX4_reset_35 rfl rfl (by first | rfl | exact isRef_rf _) ?_
          refine w_getI (ci := 2) (k := 4) (f := 68) C rfl i2 (by decide +kernel) (by decide) (by decide) rfl rfl dX4_reset_36 hgi e68 ?_
          refine w_iconst (v := 1) C dX4_reset_39 (by decide) ?_
          refine w_icmp_ne (tgt := 51) C dX4_reset_40 (by decide) (fun c3 => ?_) (fun c3 => ?_)
          · exact w_sub [0, 1, 2, 3] rfl (nxt (fun q => c3 q.2))
          · have hc1 := hcs true (decide_eq_true ⟨c2, c3⟩)
            simp only [if_true] at hc1
            refine w_aload_n C 0 dX4_reset_43 rfl rfl (by first | rfl | exact isRef_rf _) ?_
            refine w_iconst (v := 0) C dX4_reset_44 (by decide) ?_
            refine w_putI (ci := 2) (k := 4) (f := 68) C rfl i2 (by decide +kernel) (by decide) (by decide) rfl rfl tyX1 tyX1_ok nmX1 rfl rfl rfl dX4_reset_45 hgi ?_
            refine w_iincB (v := nI (cnt (fun j => decide (nSo N j = 1 ∧ nHd N j = 1)) i + 1)) (lvq := [(1, _), (3, _), (2, _), (0, _)]) C 2 3 rfl rfl (by first | rfl | exact rf_cat _) dX4_reset_48 rfl (nI_1 _) (by decide) rfl ?_
            refine w_iincB (v := nI (i + 1)) (lvq := [(2, _), (1, _), (3, _), (0, _)]) C 2 0 rfl rfl (by first | rfl | exact rf_cat _) dX4_reset_51 rfl (nI_1 i) (by decide) rfl ?_
            refine w_goto (tgt := 4) C dX4_reset_54 (by decide) ?_
            refine w_sub [0, 1, 3] rfl (hc1 ▸ ih (i + 1) _ (by omega) (hF.tr (iF_I _ pHd 68 _ _ rfl)) (fun v hv => ?_) (fun v hv hv2 => rI_Ia (hgne v hv2 (by omega)) (h2 v (by omega) hv2)))
            by_cases hvi : v = i
            · rw [hvi]
              refine rI_Is.trans ?_
              rw [rv1, log_1 c2, if_neg (by decide), if_pos c2]
            · exact rI_Ia (hgne v (by omega) hvi) (h1 v (by omega))
  refine w_iconst (v := 0) C dX4_reset_0 (by decide) ?_
  refine w_istore_nB (lvq := [(1, _), (0, _)]) C 0 rfl rfl (by first | rfl | exact rf_cat _) dX4_reset_1 rfl (by decide) rfl ?_
  refine w_iconst (v := 0) C dX4_reset_2 (by decide) ?_
  refine w_istore_nB (lvq := [(2, _), (1, _), (0, _)]) C 0 rfl rfl (by first | rfl | exact rf_cat _) dX4_reset_3 rfl (by decide) rfl ?_
  exact w_sub [0, 1, 2] rfl (loop (nN N) 0 z (by omega) (iF.rf _ z) (fun v hv => by cases hv) (fun v _ hv => (hG.2.2.2.2.2.1 v hv).2))
set_option maxHeartbeats 4000000 in
set_option maxRecDepth 100000 in
theorem c_step (l : Launch) (G : Gx) (z : Sto) {x gl pt ol : Nat} {ga : Nat → Nat} {N : NT} (h : netI G z x gl pt ol ga N) : Ct l yX4_step wsX4_step ({ frames := 7, cells := 0, slots := 0, locals := 180 } : Room) G z [.ref x] (fun rv z' => (¬ nUn N (nRC N) = 0 ∧ rv = some (.int (-1)) ∧ kfr z z' ∧ netI G z' x gl pt ol ga N) ∨ (nUn N (nRC N) = 0 ∧ rv = some (.int (nI (cnt (fun j => decide (nSo N j = 1 ∧ ¬ nNx N j = nHd N j)) (nN N)))) ∧ kfr z z' ∧ netI G z' x gl pt ol ga (nStp N))) := by
  refine ct_of (cc := cX4_step) (maxL := 3) (ret := (some .int)) (lv0 := [(0, .ref x)]) (by decide) rfl (by simp [lg_sl, cat_ref, cat_null, cat_int, cat_long, rf_cat]) (by simp [lv_args, cat_ref, cat_null, cat_int, cat_long, rf_cat]) ?_
  intro p e s m args below meth c C hin
  have i5 : ∀ w ∈ u_ws RX4 TX4 9, w ∈ wsX4_step := by decide +kernel
  have hn := h.1.1
  have sv1 : ∀ j, nV (nStp N) 0 j = (if isLog (nSo N j) then 2 else if nSo N j = 1 then nNx N j else nHd N j) := fun _ => rfl
  have loop : ∀ (z0 : Sto), iF pSK z z0 → netV z0 x ga N → netI G z0 x gl pt ol ga N → nUn N (nRC N) = 0 → ∀ (r i : Nat) (z1 : Sto), i + r = nN N → iF pHd z0 z1 → (∀ v, v < i → sI z1 68 (ga v) = nV (nStp N) 0 v) → (∀ v, i ≤ v → v < nN N → sI z1 68 (ga v) = nV N 0 v) → Wp p l e ({ frames := 7, cells := 0, slots := 0, locals := 180 } : Room) s m args below meth c G 3 0 0 (MQ below (cPost G (fun rv z' => (¬ nUn N (nRC N) = 0 ∧ rv = some (.int (-1)) ∧ kfr z z' ∧ netI G z' x gl pt ol ga N) ∨ (nUn N (nRC N) = 0 ∧ rv = some (.int (nI (cnt (fun j => decide (nSo N j = 1 ∧ ¬ nNx N j = nHd N j)) (nN N)))) ∧ kfr z z' ∧ netI G z' x gl pt ol ga (nStp N)))) args s (0) (0) (gA G)) z1 13 [(2, .int (nI i)), (1, .int (nI (cnt (fun j => decide (nSo N j = 1 ∧ ¬ nNx N j = nHd N j)) i))), (0, .ref x)] [] := by
    intro z0 hF0 hV h0 hz r
    have hG := h0.2.1
    obtain ⟨capg, hgl, hgc⟩ := hG.2.2.1
    induction r with
    | zero =>
      intro i z1 hi hF h1 h2
      have hin : i = nN N := by omega
      subst hin
      have hx1 := hF.is hG.1.1
      have hl1 := hF.lst rfl hgl
      refine w_iload_n C 0 dX4_step_13 rfl rfl ?_
      refine w_aload_n C 2 dX4_step_14 rfl rfl (by first | rfl | exact isRef_rf _) ?_
      refine w_getRs (ci := 5) (k := 0) (f := 160) C rfl i5 (by decide +kernel) (by decide) (by decide) rfl rfl dX4_step_15 hx1 ((hF.R _ _).trans hG.1.2.1) ?_
      refine w_callV (ci := 0) (As := []) (rest := [.int (nI (nN N))]) C (cwV 0 C.1.2.2.2.2 gX4_step_Jx4a65c_size_8abf5 rfl rfl rfl (by decide +kernel) ⟨Nat.le_of_ble_eq_true rfl, Nat.le_of_ble_eq_true rfl⟩) hl1.1 rfl (by decide) rfl rfl (by first | decide | simp [cat_ref, cat_null, cat_int, cat_long, rf_cat]) dX4_step_18 ⟨Nat.le_of_ble_eq_true rfl, Nat.le_of_ble_eq_true rfl⟩ (c_size l G z1 hl1) (fun rv z2 h9 => ?_)
      obtain ⟨rfl, e9⟩ := h9
      replace e9 := e9.symm
      subst e9
      refine w_icmp_ge (tgt := 50) C dX4_step_21 (by decide) (fun c1 => ?_) (fun c1 => ?_)
      · refine w_aload_n C 2 dX4_step_50 rfl rfl (by first | rfl | exact isRef_rf _) ?_
        refine w_iconst (v := 1) C dX4_step_51 (by decide) ?_
        refine w_putI (ci := 5) (k := 7) (f := 167) C rfl i5 (by decide +kernel) (by decide) (by decide) rfl rfl tyX4 tyX4_ok nmX4 rfl rfl rfl dX4_step_52 hx1 ?_
        refine w_iload_n C 1 dX4_step_55 rfl rfl ?_
        exact w_iret C dX4_step_56 (Or.inr ⟨hz, rfl, (kfr_iF hF0 (fun _ q => pSK_192 q)).tr (kfr_iF (hF.tr (iF_I _ pHd 167 x _ rfl)) (fun _ q => pHd_192 q)), netI_hd (hd := fun i => if nSo N i = 1 then nNx N i else nHd N i) h0 (hF.tr (iF_I _ pHd 167 x _ rfl)) (nOK_stp h.1 hz) (fun j hj => rI_If (by decide) (h1 j hj)) rI_Is⟩)
      · exact absurd (nI_le (Nat.le_refl _) (by omega)) c1
    | succ r ih =>
      intro i z1 hi hF h1 h2
      have hin : i < nN N := by omega
      have hx1 := hF.is hG.1.1
      have hl1 := hF.lst rfl hgl
      have hgi := lst_is hl1 hin
      have hg1 := hF.gts rfl rfl rfl hG.2.2.2.2.1
      obtain ⟨gi1, gi2, gi3, gi4, gi5⟩ := hg1.1 i hin
      have e68 := h2 i (Nat.le_refl _) hin
      have hgne : ∀ v, v < nN N → v ≠ i → ga v ≠ ga i := fun v hv hne e9 => hne (hg1.2 v i hv hin e9)
      have v69 : ∀ u, u < nN N → sI z1 69 (ga u) = nV N (nRC N) u := fun u hu => (hF.2 69 _ rfl).trans (hV.1 u hu).1
      have hcs : ∀ b : Bool, decide (nSo N i = 1 ∧ ¬ nNx N i = nHd N i) = b → cnt (fun j => decide (nSo N j = 1 ∧ ¬ nNx N j = nHd N j)) (i + 1) = cnt (fun j => decide (nSo N j = 1 ∧ ¬ nNx N j = nHd N j)) i + (if b then 1 else 0) := fun b hb => by
        show cnt (fun j => decide (nSo N j = 1 ∧ ¬ nNx N j = nHd N j)) i + (if decide (nSo N i = 1 ∧ ¬ nNx N i = nHd N i) then 1 else 0) = _
        rw [hb]
      have nxt : ∀ (z2 : Sto) (b : Bool), decide (nSo N i = 1 ∧ ¬ nNx N i = nHd N i) = b → iF pHd z0 z2 → sI z2 68 (ga i) = nV (nStp N) 0 i → (∀ v, v < nN N → v ≠ i → sI z2 68 (ga v) = sI z1 68 (ga v)) → Wp p l e ({ frames := 7, cells := 0, slots := 0, locals := 180 } : Room) s m args below meth c G 3 0 0 (MQ below (cPost G (fun rv z' => (¬ nUn N (nRC N) = 0 ∧ rv = some (.int (-1)) ∧ kfr z z' ∧ netI G z' x gl pt ol ga N) ∨ (nUn N (nRC N) = 0 ∧ rv = some (.int (nI (cnt (fun j => decide (nSo N j = 1 ∧ ¬ nNx N j = nHd N j)) (nN N)))) ∧ kfr z z' ∧ netI G z' x gl pt ol ga (nStp N)))) args s (0) (0) (gA G)) z2 38 [(2, .int (nI i)), (1, .int (nI (cnt (fun j => decide (nSo N j = 1 ∧ ¬ nNx N j = nHd N j)) i))), (0, .ref x)] [.int (bI b)] := by
        intro z2 b hb hF2 hs2 hs3
        have hcb := hcs b hb
        have go : ∀ z3, z3 = z2 → Wp p l e ({ frames := 7, cells := 0, slots := 0, locals := 180 } : Room) s m args below meth c G 3 0 0 (MQ below (cPost G (fun rv z' => (¬ nUn N (nRC N) = 0 ∧ rv = some (.int (-1)) ∧ kfr z z' ∧ netI G z' x gl pt ol ga N) ∨ (nUn N (nRC N) = 0 ∧ rv = some (.int (nI (cnt (fun j => decide (nSo N j = 1 ∧ ¬ nNx N j = nHd N j)) (nN N)))) ∧ kfr z z' ∧ netI G z' x gl pt ol ga (nStp N)))) args s (0) (0) (gA G)) z3 44 [(2, .int (nI i)), (1, .int (nI (cnt (fun j => decide (nSo N j = 1 ∧ ¬ nNx N j = nHd N j)) (i + 1)))), (0, .ref x)] [] := by
          intro z3 e3
          subst e3
          refine w_iincB (v := nI (i + 1)) (lvq := [(2, _), (1, _), (0, _)]) C 0 1 rfl rfl (by first | rfl | exact rf_cat _) dX4_step_44 rfl (nI_1 i) (by decide) rfl ?_
          refine w_goto (tgt := 13) C dX4_step_47 (by decide) ?_
          refine w_sub [0, 1, 2] rfl (ih (i + 1) z3 (by omega) hF2 (fun v hv => ?_) (fun v hv hv2 => (hs3 v hv2 (by omega)).trans (h2 v (by omega) hv2)))
          by_cases hvi : v = i
          · rw [hvi]; exact hs2
          · exact (hs3 v (by omega) hvi).trans (h1 v (by omega))
        cases b with
        | false =>
          simp only [Bool.false_eq_true, if_false, Nat.add_zero] at hcb
          refine w_if_eq (tgt := 44) C dX4_step_38 (by decide) (fun c4 => ?_) (fun c4 => ?_)
          · exact hcb ▸ go z2 rfl
          · exact absurd rfl c4
        | true =>
          simp only [if_true] at hcb
          refine w_if_eq (tgt := 44) C dX4_step_38 (by decide) (fun c4 => ?_) (fun c4 => ?_)
          · exact absurd c4 (by decide)
          · refine w_iincB (v := nI (cnt (fun j => decide (nSo N j = 1 ∧ ¬ nNx N j = nHd N j)) i + 1)) (lvq := [(1, _), (2, _), (0, _)]) C 1 2 rfl rfl (by first | rfl | exact rf_cat _) dX4_step_41 rfl (nI_1 _) (by decide) rfl ?_
            exact w_sub [1, 0, 2] rfl (hcb ▸ go z2 rfl)
      refine w_iload_n C 0 dX4_step_13 rfl rfl ?_
      refine w_aload_n C 2 dX4_step_14 rfl rfl (by first | rfl | exact isRef_rf _) ?_
      refine w_getRs (ci := 5) (k := 0) (f := 160) C rfl i5 (by decide +kernel) (by decide) (by decide) rfl rfl dX4_step_15 hx1 ((hF.R _ _).trans hG.1.2.1) ?_
      refine w_callV (ci := 0) (As := []) (rest := [.int (nI i)]) C (cwV 0 C.1.2.2.2.2 gX4_step_Jx4a65c_size_8abf5 rfl rfl rfl (by decide +kernel) ⟨Nat.le_of_ble_eq_true rfl, Nat.le_of_ble_eq_true rfl⟩) hl1.1 rfl (by decide) rfl rfl (by first | decide | simp [cat_ref, cat_null, cat_int, cat_long, rf_cat]) dX4_step_18 ⟨Nat.le_of_ble_eq_true rfl, Nat.le_of_ble_eq_true rfl⟩ (c_size l G z1 hl1) (fun rv z2 h9 => ?_)
      obtain ⟨rfl, e9⟩ := h9
      replace e9 := e9.symm
      subst e9
      refine w_icmp_ge (tgt := 50) C dX4_step_21 (by decide) (fun c1 => ?_) (fun c1 => ?_)
      · exact absurd c1 (nI_ge hin (by omega))
      · refine w_aload_n C 2 dX4_step_24 rfl rfl (by first | rfl | exact isRef_rf _) ?_
        refine w_getRs (ci := 5) (k := 0) (f := 160) C rfl i5 (by decide +kernel) (by decide) (by decide) rfl rfl dX4_step_25 hx1 ((hF.R _ _).trans hG.1.2.1) ?_
        refine w_iload_n C 0 dX4_step_28 rfl rfl ?_
        refine w_callV (ci := 0) (As := [.int (nI i)]) (rest := []) C (cwV 1 C.1.2.2.2.2 gX4_step_Jx4a65c_get_915e3 rfl rfl rfl (by decide +kernel) ⟨Nat.le_of_ble_eq_true rfl, Nat.le_of_ble_eq_true rfl⟩) hl1.1 rfl (by decide) rfl rfl (by first | decide | simp [cat_ref, cat_null, cat_int, cat_long, rf_cat]) dX4_step_29 ⟨Nat.le_of_ble_eq_true rfl, Nat.le_of_ble_eq_true rfl⟩ (c_get l G z1 hl1 hin) (fun rv z2 h9 => ?_)
        obtain ⟨rfl, e9⟩ := h9
        replace e9 := e9.symm
        subst e9
        refine w_cast (ci := 2) C (by decide +kernel) hgi rfl (by decide) dX4_step_32 ?_
        refine w_callV (ci := 2) (As := []) (rest := []) C (cwV 0 C.1.2.2.2.2 gX4_step_X1_takeNextState rfl rfl rfl (by decide +kernel) ⟨Nat.le_of_ble_eq_true rfl, Nat.le_of_ble_eq_true rfl⟩) hgi rfl (by decide) rfl rfl (by first | decide | simp [cat_ref, cat_null, cat_int, cat_long, rf_cat]) dX4_step_35 ⟨Nat.le_of_ble_eq_true rfl, Nat.le_of_ble_eq_true rfl⟩ (c_takeNextState l G z1 hgi (fun f9 hf9 => by cases hfd : nFd N i with | nil => (rw [hfd] at gi4; rw [show sR z1 66 (ga i) = none from gi4] at hf9; cases hf9) | cons y tl => (rw [hfd] at gi4; obtain ⟨a9, q1, q2, q3, q4, q5, q6⟩ := gi4; cases hf9.symm.trans q1; exact ⟨_, q2, q3, q4⟩))) (fun rv z2 h9 => ?_)
        rcases h9 with ⟨hno, rfl, rfl⟩ | ⟨f9, g9, hs9, hf9, hg9, rfl, rfl⟩
        · have hq : nSo N i = 1 → nNx N i = nHd N i := fun hs => by
            have h66 : sR z2 66 (ga i) = none := hno.resolve_left (fun q => q (gi3.trans hs))
            unfold nNx
            cases hfd : nFd N i with
            | nil => rfl
            | cons y tl => rw [hfd] at gi4; obtain ⟨a9, q1, -⟩ := gi4; rw [h66] at q1; cases q1
          exact nxt _ false (decide_eq_false (fun q => q.2 (hq q.1))) hF (by
            rw [e68, sv1]
            show (if isLog (nSo N i) then (2 : Int32) else nHd N i) = _
            by_cases hs : nSo N i = 1
            · rw [if_pos hs, hq hs]
            · rw [if_neg hs]) (fun v _ _ => rfl)
        · rw [gi3] at hs9
          have hval : tkv (sI z1 69 g9) (sI z1 33 f9) = nNx N i := by
            unfold nNx
            cases hfd : nFd N i with
            | nil => rw [hfd] at gi4; rw [show sR z1 66 (ga i) = none from gi4] at hf9; cases hf9
            | cons y tl =>
              rw [hfd] at gi4
              obtain ⟨a9, q1, q2, q3, q4, q5, q6⟩ := gi4
              cases hf9.symm.trans q1
              cases hg9.symm.trans q3
              have hyn := gi5 y (by rw [hfd]; exact List.mem_cons_self)
              rw [q5, v69 y.1 hyn]
          have hvi : sI z1 69 (ga i) = nHd N i := (v69 i hin).trans (nV_noLog (log_1 hs9) _)
          rw [hval, hvi]
          refine nxt _ _ (by by_cases q : nNx N i = nHd N i <;> simp [q, hs9]) (hF.tr (iF_I _ pHd 68 _ _ rfl)) (rI_Is.trans ?_) (fun v hv hne => rI_Ia (hgne v hv hne) rfl)
          rw [sv1, log_1 hs9, if_neg (by decide), if_pos hs9]
        
  refine w_aload_n C 0 dX4_step_0 rfl rfl (by first | rfl | exact isRef_rf _) ?_
  refine w_callV (ci := 5) (As := []) (rest := []) C (cwV 0 C.1.2.2.2.2 gX4_step_X4_settles rfl rfl rfl (by decide +kernel) ⟨Nat.le_of_ble_eq_true rfl, Nat.le_of_ble_eq_true rfl⟩) h.2.1.1.1 rfl (by decide) rfl rfl (by first | decide | simp [cat_ref, cat_null, cat_int, cat_long, rf_cat]) dX4_step_1 ⟨Nat.le_of_ble_eq_true rfl, Nat.le_of_ble_eq_true rfl⟩ (c_settles l G z h) (fun rv z1 h9 => ?_)
  obtain ⟨rfl, hF, hV, hN⟩ := h9
  refine w_if_ne (tgt := 9) C dX4_step_4 (by decide) (fun c1 => ?_) (fun c1 => ?_)
  · have hz : nUn N (nRC N) = 0 := by by_cases q : nUn N (nRC N) = 0; exact q; exact absurd (by rw [decide_eq_false q]; rfl) c1
    refine w_iconst (v := 0) C dX4_step_9 (by decide) ?_
    refine w_istore_nB (lvq := [(1, _), (0, _)]) C 0 rfl rfl (by first | rfl | exact rf_cat _) dX4_step_10 rfl (by decide) rfl ?_
    refine w_iconst (v := 0) C dX4_step_11 (by decide) ?_
    refine w_istore_nB (lvq := [(2, _), (1, _), (0, _)]) C 0 rfl rfl (by first | rfl | exact rf_cat _) dX4_step_12 rfl (by decide) rfl ?_
    exact w_sub [0, 1, 2] rfl (loop z1 hF hV hN hz (nN N) 0 z1 (by omega) (iF.rf _ z1) (fun v hv => by cases hv) (fun v _ hv => (hN.2.1.2.2.2.2.2.1 v hv).2))
  · have hz : ¬ nUn N (nRC N) = 0 := fun q => by rw [decide_eq_true q] at c1; exact absurd c1 (by decide)
    refine w_iconst (v := (-1)) C dX4_step_7 (by decide) ?_
    exact w_iret C dX4_step_8 (Or.inl ⟨hz, rfl, kfr_iF hF (fun _ q => pSK_192 q), hN⟩)
