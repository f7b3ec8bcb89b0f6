/-! ===== ArrayList: a list of gates ===== -/
/-- the list at a: n gates f 0 .. in a row of cap places -/
def lst (G : Gx) (z : Sto) (a n : Nat) (f : Nat → Nat) (cap : Nat) : Prop :=
  is z a 0 ∧ sI z 2 a = nI n ∧ n ≤ cap ∧ cap ≤ 1200 ∧ ((cap = 0 ∧ sR z 1 a = some (G.2.2.2 0)) ∨ (10 ≤ cap ∧ ∃ d, sR z 1 a = some d ∧ is z d 9 ∧ sN z d = cap ∧ ∀ i, i < n → sQ z d i = some (f i) ∧ is z (f i) 2))
set_option maxHeartbeats 4000000 in
set_option maxRecDepth 100000 in
theorem c_AC_init (l : Launch) (G : Gx) (z : Sto) {a : Nat} : Ct l yJxa1e45_init_da8c8 wsJxa1e45_init_da8c8 ({ frames := 1, cells := 0, slots := 0, locals := 12 } : Room) G z [.ref a] (fun rv z' => rv = none ∧ z' = z) := by
  refine ct_of (cc := cJxa1e45_init_da8c8) (maxL := 1) (ret := none) (lv0 := [(0, .ref a)]) (by decide) rfl (by simp [lg_sl, cat_ref, cat_null, cat_int, cat_long, rf_cat]) (by simp [lv_args, cat_ref, cat_null, cat_int, cat_long, rf_cat]) ?_
  intro p e s m args below meth c C hin
  refine w_aload_n C 0 dJxa1e45_init_da8c8_0 rfl rfl (by first | rfl | exact isRef_rf _) ?_
  refine w_objInit C (by decide +kernel) (by decide +kernel) (by decide +kernel) dJxa1e45_init_da8c8_1 (by decide) (by decide) ?_
  exact w_vret C dJxa1e45_init_da8c8_4 ⟨rfl, rfl⟩
set_option maxHeartbeats 4000000 in
set_option maxRecDepth 100000 in
theorem c_AL_init (l : Launch) (G : Gx) (z : Sto) {a : Nat} (ha : is z a 0) : Ct l yJxc12de_init_da8c8 wsJxc12de_init_da8c8 ({ frames := 2, cells := 0, slots := 0, locals := 32 } : Room) G z [.ref a] (fun rv z' => rv = none ∧ z' = putI z 0 a 0) := by
  refine ct_of (cc := cJxc12de_init_da8c8) (maxL := 1) (ret := none) (lv0 := [(0, .ref a)]) (by decide) rfl (by simp [lg_sl, cat_ref, cat_null, cat_int, cat_long, rf_cat]) (by simp [lv_args, cat_ref, cat_null, cat_int, cat_long, rf_cat]) ?_
  intro p e s m args below meth c C hin
  have i0 : ∀ w ∈ u_ws RJx4a65c TJx4a65c 3, w ∈ wsJxc12de_init_da8c8 := by decide +kernel
  refine w_aload_n C 0 dJxc12de_init_da8c8_0 rfl rfl (by first | rfl | exact isRef_rf _) ?_
  refine w_callI (As := []) (b := a) (rest := _) C (cwI 0 C.1.2.2.2.2 gJxc12de_init_da8c8_Jxa1e45_init_da8c8 rfl rfl rfl (C.1.2.2.2.2 _ (by decide +kernel)) (C.1.2.2.2.2 _ (by decide +kernel)) (C.1.2.2.2.2 _ (by decide +kernel)) rfl (by decide +kernel) ⟨Nat.le_of_ble_eq_true rfl, Nat.le_of_ble_eq_true rfl⟩) rfl rfl (by first | decide | simp [cat_ref, cat_null, cat_int, cat_long, rf_cat]) dJxc12de_init_da8c8_1 ⟨Nat.le_of_ble_eq_true rfl, Nat.le_of_ble_eq_true rfl⟩ (c_AC_init l G _) (fun rv z1 h1 => ?_)
  obtain ⟨rfl, e1⟩ := h1
  replace e1 := e1.symm
  subst e1
  refine w_aload_n C 0 dJxc12de_init_da8c8_4 rfl rfl (by first | rfl | exact isRef_rf _) ?_
  refine w_iconst (v := 0) C dJxc12de_init_da8c8_5 (by decide) ?_
  refine w_putI (ci := 0) (k := 0) (f := 0) C rfl i0 (by decide +kernel) (by decide) (by decide) rfl rfl tyJx4a65c tyJx4a65c_ok nmJx4a65c rfl rfl rfl dJxc12de_init_da8c8_6 ha ?_
  exact w_vret C dJxc12de_init_da8c8_9 ⟨rfl, rfl⟩
set_option maxHeartbeats 4000000 in
set_option maxRecDepth 100000 in
theorem c_AList_init (l : Launch) (G : Gx) (z : Sto) {a : Nat} (ha : is z a 0) : Ct l yJx4a65c_init_da8c8 wsJx4a65c_init_da8c8 ({ frames := 3, cells := 0, slots := 0, locals := 52 } : Room) G z [.ref a] (fun rv z' => rv = none ∧ z' = putR (putI z 0 a 0) 1 a (some (G.2.2.2 0))) := by
  refine ct_of (cc := cJx4a65c_init_da8c8) (maxL := 1) (ret := none) (lv0 := [(0, .ref a)]) (by decide) rfl (by simp [lg_sl, cat_ref, cat_null, cat_int, cat_long, rf_cat]) (by simp [lv_args, cat_ref, cat_null, cat_int, cat_long, rf_cat]) ?_
  intro p e s m args below meth c C hin
  have i0 : ∀ w ∈ u_ws RJx4a65c TJx4a65c 3, w ∈ wsJx4a65c_init_da8c8 := by decide +kernel
  refine w_aload_n C 0 dJx4a65c_init_da8c8_0 rfl rfl (by first | rfl | exact isRef_rf _) ?_
  refine w_callI (As := []) (b := a) (rest := _) C (cwI 0 C.1.2.2.2.2 gJx4a65c_init_da8c8_Jxc12de_init_da8c8 rfl rfl rfl (C.1.2.2.2.2 _ (by decide +kernel)) (C.1.2.2.2.2 _ (by decide +kernel)) (C.1.2.2.2.2 _ (by decide +kernel)) rfl (by decide +kernel) ⟨Nat.le_of_ble_eq_true rfl, Nat.le_of_ble_eq_true rfl⟩) rfl rfl (by first | decide | simp [cat_ref, cat_null, cat_int, cat_long, rf_cat]) dJx4a65c_init_da8c8_1 ⟨Nat.le_of_ble_eq_true rfl, Nat.le_of_ble_eq_true rfl⟩ (c_AL_init l G _ ha) (fun rv z1 h1 => ?_)
  obtain ⟨rfl, e1⟩ := h1
  replace e1 := e1.symm
  subst e1
  refine w_aload_n C 0 dJx4a65c_init_da8c8_4 rfl rfl (by first | rfl | exact isRef_rf _) ?_
  refine w_getsE C (by decide +kernel) dJx4a65c_init_da8c8_5 ?_
  refine w_putR (ci := 0) (k := 1) (f := 1) (v := (some (G.2.2.2 0))) C rfl i0 (by decide +kernel) (by decide) (by decide) rfl rfl tyJx4a65c tyJx4a65c_ok nmJx4a65c rfl (by first | rfl | exact nar_rf _ _ | exact nar_ra _ _) (by first | rfl | exact fit_rf _ _ | exact fit_ra _ _) dJx4a65c_init_da8c8_8 (is_I ha) ?_
  exact w_vret C dJx4a65c_init_da8c8_11 ⟨rfl, rfl⟩
set_option maxHeartbeats 4000000 in
set_option maxRecDepth 100000 in
theorem c_size (l : Launch) (G : Gx) (z : Sto) {a n cap : Nat} {f : Nat → Nat} (h : lst G z a n f cap) : Ct l yJx4a65c_size_8abf5 wsJx4a65c_size_8abf5 ({ frames := 0, cells := 0, slots := 0, locals := 0 } : Room) G z [.ref a] (fun rv z' => rv = some (.int (nI n)) ∧ z' = z) := by
  refine ct_of (cc := cJx4a65c_size_8abf5) (maxL := 1) (ret := (some .int)) (lv0 := [(0, .ref a)]) (by decide) rfl (by simp [lg_sl, cat_ref, cat_null, cat_int, cat_long, rf_cat]) (by simp [lv_args, cat_ref, cat_null, cat_int, cat_long, rf_cat]) ?_
  intro p e s m args below meth c C hin
  have i0 : ∀ w ∈ u_ws RJx4a65c TJx4a65c 3, w ∈ wsJx4a65c_size_8abf5 := by decide +kernel
  refine w_aload_n C 0 dJx4a65c_size_8abf5_0 rfl rfl (by first | rfl | exact isRef_rf _) ?_
  refine w_getI (ci := 0) (k := 2) (f := 2) C rfl i0 (by decide +kernel) (by decide) (by decide) rfl rfl dJx4a65c_size_8abf5_1 h.1 h.2.1 ?_
  exact w_iret C dJx4a65c_size_8abf5_4 ⟨rfl, rfl⟩
set_option maxHeartbeats 4000000 in
set_option maxRecDepth 100000 in
theorem c_chk3 (l : Launch) (G : Gx) (z : Sto) {i n : Nat} (hi : i < n) (hn : n < 2 ^ 31) : Ct l yJ3_checkIndex_8e157 wsJ3_checkIndex_8e157 ({ frames := 0, cells := 0, slots := 0, locals := 0 } : Room) G z [.int (nI i), .int (nI n), .null] (fun rv z' => rv = some (.int (nI i)) ∧ z' = z) := by
  refine ct_of (cc := cJ3_checkIndex_8e157) (maxL := 3) (ret := (some .int)) (lv0 := [(0, .int (nI i)), (1, .int (nI n)), (2, .null)]) (by decide) rfl (by simp [lg_sl, cat_ref, cat_null, cat_int, cat_long, rf_cat]) (by simp [lv_args, cat_ref, cat_null, cat_int, cat_long, rf_cat]) ?_
  intro p e s m args below meth c C hin
  refine w_iload_n C 0 dJ3_checkIndex_8e157_0 rfl rfl ?_
  refine w_if_lt (tgt := 9) C dJ3_checkIndex_8e157_1 (by decide) (fun c1 => ?_) (fun c1 => ?_)
  · exact absurd c1 (nI_pos (by omega))
  · refine w_iload_n C 0 dJ3_checkIndex_8e157_4 rfl rfl ?_
    refine w_iload_n C 1 dJ3_checkIndex_8e157_5 rfl rfl ?_
    refine w_icmp_lt (tgt := 16) C dJ3_checkIndex_8e157_6 (by decide) (fun c2 => ?_) (fun c2 => ?_)
    · refine w_iload_n C 0 dJ3_checkIndex_8e157_16 rfl rfl ?_
      exact w_iret C dJ3_checkIndex_8e157_17 ⟨rfl, rfl⟩
    · exact absurd (nI_lt hi (by omega)) c2
set_option maxHeartbeats 4000000 in
set_option maxRecDepth 100000 in
theorem c_chk (l : Launch) (G : Gx) (z : Sto) {i n : Nat} (hi : i < n) (hn : n < 2 ^ 31) : Ct l yJ15_checkIndex_7cf53 wsJ15_checkIndex_7cf53 ({ frames := 1, cells := 0, slots := 0, locals := 22 } : Room) G z [.int (nI i), .int (nI n)] (fun rv z' => rv = some (.int (nI i)) ∧ z' = z) := by
  refine ct_of (cc := cJ15_checkIndex_7cf53) (maxL := 2) (ret := (some .int)) (lv0 := [(0, .int (nI i)), (1, .int (nI n))]) (by decide) rfl (by simp [lg_sl, cat_ref, cat_null, cat_int, cat_long, rf_cat]) (by simp [lv_args, cat_ref, cat_null, cat_int, cat_long, rf_cat]) ?_
  intro p e s m args below meth c C hin
  refine w_iload_n C 0 dJ15_checkIndex_7cf53_0 rfl rfl ?_
  refine w_iload_n C 1 dJ15_checkIndex_7cf53_1 rfl rfl ?_
  refine w_null C dJ15_checkIndex_7cf53_2 ?_
  refine w_callS (As := [.int (nI i), .int (nI n), .null]) (rest := []) C (va_cwS 3 C.1.2.2.2.2 gJ15_checkIndex_7cf53_J3_checkIndex_8e157 rfl rfl rfl (by decide +kernel) ⟨Nat.le_of_ble_eq_true rfl, Nat.le_of_ble_eq_true rfl⟩) rfl rfl (by first | decide | simp [cat_ref, cat_null, cat_int, cat_long, rf_cat]) dJ15_checkIndex_7cf53_3 ⟨Nat.le_of_ble_eq_true rfl, Nat.le_of_ble_eq_true rfl⟩ (c_chk3 l G z hi hn) (fun rv z1 h1 => ?_)
  obtain ⟨rfl, e1⟩ := h1
  replace e1 := e1.symm
  subst e1
  exact w_iret C dJ15_checkIndex_7cf53_6 ⟨rfl, rfl⟩
set_option maxHeartbeats 4000000 in
set_option maxRecDepth 100000 in
theorem c_elemData (l : Launch) (G : Gx) (z : Sto) {a d i x : Nat} (ha : is z a 0) (hd : sR z 1 a = some d) (isd : is z d 9) (hi : i < sN z d) (hb : sN z d < 2 ^ 31) (hq : sQ z d i = some x) : Ct l yJx4a65c_elementData_915e3 wsJx4a65c_elementData_915e3 ({ frames := 0, cells := 0, slots := 0, locals := 0 } : Room) G z [.ref a, .int (nI i)] (fun rv z' => rv = some (.ref x) ∧ z' = z) := by
  refine ct_of (cc := cJx4a65c_elementData_915e3) (maxL := 2) (ret := (some (.object "java/lang/Object"))) (lv0 := [(0, .ref a), (1, .int (nI i))]) (by decide) rfl (by simp [lg_sl, cat_ref, cat_null, cat_int, cat_long, rf_cat]) (by simp [lv_args, cat_ref, cat_null, cat_int, cat_long, rf_cat]) ?_
  intro p e s m args below meth c C hin
  have i0 : ∀ w ∈ u_ws RJx4a65c TJx4a65c 3, w ∈ wsJx4a65c_elementData_915e3 := by decide +kernel
  refine w_aload_n C 0 dJx4a65c_elementData_915e3_0 rfl rfl (by first | rfl | exact isRef_rf _) ?_
  refine w_getRs (ci := 0) (k := 1) (f := 1) C rfl i0 (by decide +kernel) (by decide) (by decide) rfl rfl dJx4a65c_elementData_915e3_1 ha hd ?_
  refine w_iload_n C 1 dJx4a65c_elementData_915e3_4 rfl rfl ?_
  refine w_aald C dJx4a65c_elementData_915e3_5 isd rfl hi hb hq ?_
  exact w_aret C (Or.inl ⟨_, rfl⟩) (by first | rfl | exact isRef_rf _) dJx4a65c_elementData_915e3_6 ⟨rfl, rfl⟩
set_option maxHeartbeats 4000000 in
set_option maxRecDepth 100000 in
theorem c_get (l : Launch) (G : Gx) (z : Sto) {a n cap i : Nat} {f : Nat → Nat} (h : lst G z a n f cap) (hi : i < n) : Ct l yJx4a65c_get_915e3 wsJx4a65c_get_915e3 ({ frames := 2, cells := 0, slots := 0, locals := 43 } : Room) G z [.ref a, .int (nI i)] (fun rv z' => rv = some (.ref (f i)) ∧ z' = z) := by
  refine ct_of (cc := cJx4a65c_get_915e3) (maxL := 2) (ret := (some (.object "java/lang/Object"))) (lv0 := [(0, .ref a), (1, .int (nI i))]) (by decide) rfl (by simp [lg_sl, cat_ref, cat_null, cat_int, cat_long, rf_cat]) (by simp [lv_args, cat_ref, cat_null, cat_int, cat_long, rf_cat]) ?_
  intro p e s m args below meth c C hin
  have i0 : ∀ w ∈ u_ws RJx4a65c TJx4a65c 3, w ∈ wsJx4a65c_get_915e3 := by decide +kernel
  obtain ⟨ha, hs, hnc, hcap, h9⟩ := h
  obtain ⟨h10, d, hd, isd, hN, hq⟩ := h9.resolve_left (fun q => absurd q.1 (by omega))
  refine w_iload_n C 1 dJx4a65c_get_915e3_0 rfl rfl ?_
  refine w_aload_n C 0 dJx4a65c_get_915e3_1 rfl rfl (by first | rfl | exact isRef_rf _) ?_
  refine w_getI (ci := 0) (k := 2) (f := 2) C rfl i0 (by decide +kernel) (by decide) (by decide) rfl rfl dJx4a65c_get_915e3_2 ha hs ?_
  refine w_callS (As := [.int (nI i), .int (nI n)]) (rest := []) C (va_cwS 2 C.1.2.2.2.2 gJx4a65c_get_915e3_J15_checkIndex_7cf53 rfl rfl rfl (by decide +kernel) ⟨Nat.le_of_ble_eq_true rfl, Nat.le_of_ble_eq_true rfl⟩) rfl rfl (by first | decide | simp [cat_ref, cat_null, cat_int, cat_long, rf_cat]) dJx4a65c_get_915e3_5 ⟨Nat.le_of_ble_eq_true rfl, Nat.le_of_ble_eq_true rfl⟩ (c_chk l G z hi (by omega)) (fun rv z1 h1 => ?_)
  obtain ⟨rfl, e1⟩ := h1
  replace e1 := e1.symm
  subst e1
  refine w_pop C dJx4a65c_get_915e3_8 (by first | rfl | exact rf_cat _) ?_
  refine w_aload_n C 0 dJx4a65c_get_915e3_9 rfl rfl (by first | rfl | exact isRef_rf _) ?_
  refine w_iload_n C 1 dJx4a65c_get_915e3_10 rfl rfl ?_
  refine w_callV (ci := 0) (As := [.int (nI i)]) (rest := []) C (cwV 1 C.1.2.2.2.2 gJx4a65c_get_915e3_Jx4a65c_elementData_915e3 rfl rfl rfl (by decide +kernel) ⟨Nat.le_of_ble_eq_true rfl, Nat.le_of_ble_eq_true rfl⟩) ha rfl (by decide) rfl rfl (by first | decide | simp [cat_ref, cat_null, cat_int, cat_long, rf_cat]) dJx4a65c_get_915e3_11 ⟨Nat.le_of_ble_eq_true rfl, Nat.le_of_ble_eq_true rfl⟩ (c_elemData l G z ha hd isd (by omega) (by omega) (hq i hi).1) (fun rv z1 h1 => ?_)
  obtain ⟨rfl, e1⟩ := h1
  replace e1 := e1.symm
  subst e1
  exact w_aret C (Or.inl ⟨_, rfl⟩) (by first | rfl | exact isRef_rf _) dJx4a65c_get_915e3_14 ⟨rfl, rfl⟩
set_option maxHeartbeats 4000000 in
set_option maxRecDepth 100000 in
theorem c_newLength (l : Launch) (G : Gx) (z : Sto) {n : Nat} (h2 : 10 ≤ n) (hn : n ≤ 700) : Ct l yJ8_newLength_cabcc wsJ8_newLength_cabcc ({ frames := 1, cells := 0, slots := 0, locals := 14 } : Room) G z [.int (nI n), .int (nI 1), .int (nI (n / 2))] (fun rv z' => rv = some (.int (nI (n + n / 2))) ∧ z' = z) := by
  refine ct_of (cc := cJ8_newLength_cabcc) (maxL := 4) (ret := (some .int)) (lv0 := [(0, .int (nI n)), (1, .int (nI 1)), (2, .int (nI (n / 2)))]) (by decide) rfl (by simp [lg_sl, cat_ref, cat_null, cat_int, cat_long, rf_cat]) (by simp [lv_args, cat_ref, cat_null, cat_int, cat_long, rf_cat]) ?_
  intro p e s m args below meth c C hin
  have hmx : nI n + (if nI 1 < nI (n / 2) then nI (n / 2) else nI 1) = nI (n + n / 2) := by
    rw [if_pos (nI_lt (by omega) (by omega))]
    exact nI_add n (n / 2)
  refine w_iload_n C 0 dJ8_newLength_cabcc_0 rfl rfl ?_
  refine w_iload_n C 1 dJ8_newLength_cabcc_1 rfl rfl ?_
  refine w_iload_n C 2 dJ8_newLength_cabcc_2 rfl rfl ?_
  refine w_max C (by decide +kernel) (by decide +kernel) (by decide +kernel) (by decide +kernel) (Nat.le_of_ble_eq_true rfl) (Nat.le_of_ble_eq_true rfl) (Nat.le_of_ble_eq_true rfl) (Nat.le_of_ble_eq_true rfl) dJ8_newLength_cabcc_3 ?_
  refine w_iadd C dJ8_newLength_cabcc_6 ?_
  refine w_inti (y := nI (n + n / 2)) hmx ?_
  refine w_istore_nB (lvq := [(3, _), (0, _), (1, _), (2, _)]) C 2 rfl rfl (by first | rfl | exact rf_cat _) dJ8_newLength_cabcc_7 rfl (by decide) rfl ?_
  refine w_iconst (v := 0) C dJ8_newLength_cabcc_8 (by decide) ?_
  refine w_iload_n C 0 dJ8_newLength_cabcc_9 rfl rfl ?_
  refine w_icmp_ge (tgt := 21) C dJ8_newLength_cabcc_10 (by decide) (fun c1 => ?_) (fun c1 => ?_)
  · exact absurd c1 (show ¬ nI (n + n / 2) ≤ nI 0 from nI_nle (by omega) (by omega))
  · refine w_iload_n C 0 dJ8_newLength_cabcc_13 rfl rfl ?_
    refine w_ldc (v := 2147483639) C dJ8_newLength_cabcc_14 (by decide +kernel) ?_
    refine w_icmp_gt (tgt := 21) C dJ8_newLength_cabcc_16 (by decide) (fun c2 => ?_) (fun c2 => ?_)
    · exact absurd c2 (show ¬ nI 2147483639 < nI (n + n / 2) from nI_nlt (by omega) (by decide))
    · refine w_iload_n C 0 dJ8_newLength_cabcc_19 rfl rfl ?_
      exact w_iret C dJ8_newLength_cabcc_20 ⟨rfl, rfl⟩
set_option maxHeartbeats 4000000 in
set_option maxRecDepth 100000 in
theorem c_copyOf3 (l : Launch) (G : Gx) (z : Sto) {d N : Nat} (hd : is z d 9) (hel : ∀ i, i < sN z d → ∀ w, sQ z d i = some w → is z w 2) (hNl : sN z d ≤ N) (hN : N ≤ 1200) : Ct l yJ7_copyOf_6403c wsJ7_copyOf_6403c ({ frames := 1, cells := 1, slots := N, locals := 60 } : Room) G z [.ref d, .int (nI N), .ref (G.2.2.2 2)] (fun rv z' => ∃ q, q ∉ sL z ∧ G.2.2.1 ≤ q ∧ rv = some (.ref q) ∧ z' = newA z q 9 N (fun i => if i < sN z d then sQ z d i else none)) := by
  refine ct_of (cc := cJ7_copyOf_6403c) (maxL := 4) (ret := (some (.array (.object "java/lang/Object")))) (lv0 := [(0, .ref d), (1, .int (nI N)), (2, .ref (G.2.2.2 2))]) (by decide) rfl (by simp [lg_sl, cat_ref, cat_null, cat_int, cat_long, rf_cat]) (by simp [lv_args, cat_ref, cat_null, cat_int, cat_long, rf_cat]) ?_
  intro p e s m args below meth c C hin
  refine w_aload_n C 2 dJ7_copyOf_6403c_0 rfl rfl (by first | rfl | exact isRef_rf _) ?_
  refine w_ldcM C (by decide +kernel) dJ7_copyOf_6403c_1 ?_
  refine w_acmp_ne (tgt := 13) (rx := (some (G.2.2.2 2))) (ry := (some (G.2.2.2 2))) C dJ7_copyOf_6403c_3 (by decide) (fun c1 => ?_) (fun c1 => ?_)
  · exact absurd rfl c1
  · refine w_iload_n C 1 dJ7_copyOf_6403c_6 rfl rfl ?_
    refine w_newq C (by decide +kernel) rfl (by omega) (by simp) (by simp) dJ7_copyOf_6403c_7 (fun q hq hlow => ?_)
    have hNd : sN (newA z q 9 N (fun _ => none)) d = sN z d := va_up_ne _ _ (fun e => hq (e ▸ hd.1))
    refine w_goto (tgt := 24) C dJ7_copyOf_6403c_10 (by decide) ?_
    refine w_astore_nB (lvq := [(3, _), (0, _), (1, _), (2, _)]) C 2 rfl rfl (by first | rfl | exact rf_cat _) dJ7_copyOf_6403c_24 rfl (by first | rfl | exact isRef_rf _) (by decide) rfl ?_
    refine w_aload_n C 1 dJ7_copyOf_6403c_25 rfl rfl (by first | rfl | exact isRef_rf _) ?_
    refine w_iconst (v := 0) C dJ7_copyOf_6403c_26 (by decide) ?_
    refine w_aload_n C 0 dJ7_copyOf_6403c_27 rfl rfl (by first | rfl | exact isRef_rf _) ?_
    refine w_iconst (v := 0) C dJ7_copyOf_6403c_28 (by decide) ?_
    refine w_aload_n C 1 dJ7_copyOf_6403c_29 rfl rfl (by first | rfl | exact isRef_rf _) ?_
    refine w_alen9 C dJ7_copyOf_6403c_30 (is_newA hd hq) (by rw [hNd]; omega) ?_
    rw [hNd]
    refine w_iload_n C 2 dJ7_copyOf_6403c_31 rfl rfl ?_
    refine w_min C (by decide +kernel) (by decide +kernel) (by decide +kernel) (by decide +kernel) (Nat.le_of_ble_eq_true rfl) (Nat.le_of_ble_eq_true rfl) (by simp) (by simp) dJ7_copyOf_6403c_32 ?_
    refine w_inti (y := nI (sN z d)) (if_neg (nI_nlt hNl (by omega))) ?_
    refine w_copyN (n := sN z d) C hq hd hel (Nat.le_refl _) hNl (by omega) (by omega) (by decide +kernel) (by decide +kernel) (by decide +kernel) (by decide +kernel) (Nat.le_of_ble_eq_true rfl) (by show 0 + (nativeFrameWords "java/lang/System" "arraycopy" 5 + 11) ≤ 60; decide) rfl dJ7_copyOf_6403c_35 ?_
    refine w_aload_n C 0 dJ7_copyOf_6403c_38 rfl rfl (by first | rfl | exact isRef_rf _) ?_
    refine w_widen (k := 1) (n := N) (by simp) (by simp) ?_
    exact w_aret C (Or.inr ⟨_, rfl⟩) (by first | rfl | exact isRef_rf _) dJ7_copyOf_6403c_39 ⟨q, hq, hlow, rfl, rfl⟩
set_option maxHeartbeats 4000000 in
set_option maxRecDepth 100000 in
theorem c_copyOf (l : Launch) (G : Gx) (z : Sto) {d N : Nat} (hd : is z d 9) (hel : ∀ i, i < sN z d → ∀ w, sQ z d i = some w → is z w 2) (hNl : sN z d ≤ N) (hN : N ≤ 1200) : Ct l yJ7_copyOf_1904c wsJ7_copyOf_1904c ({ frames := 2, cells := 1, slots := N, locals := 90 } : Room) G z [.ref d, .int (nI N)] (fun rv z' => ∃ q, q ∉ sL z ∧ G.2.2.1 ≤ q ∧ rv = some (.ref q) ∧ z' = newA z q 9 N (fun i => if i < sN z d then sQ z d i else none)) := by
  refine ct_of (cc := cJ7_copyOf_1904c) (maxL := 2) (ret := (some (.array (.object "java/lang/Object")))) (lv0 := [(0, .ref d), (1, .int (nI N))]) (by decide) rfl (by simp [lg_sl, cat_ref, cat_null, cat_int, cat_long, rf_cat]) (by simp [lv_args, cat_ref, cat_null, cat_int, cat_long, rf_cat]) ?_
  intro p e s m args below meth c C hin
  refine w_aload_n C 0 dJ7_copyOf_1904c_0 rfl rfl (by first | rfl | exact isRef_rf _) ?_
  refine w_iload_n C 1 dJ7_copyOf_1904c_1 rfl rfl ?_
  refine w_aload_n C 0 dJ7_copyOf_1904c_2 rfl rfl (by first | rfl | exact isRef_rf _) ?_
  refine w_getC C hd (by decide +kernel) (by decide +kernel) (by decide +kernel) (by decide +kernel) (Nat.le_of_ble_eq_true rfl) (by simp [cat_ref, cat_int]) dJ7_copyOf_1904c_3 ?_
  refine w_callS (As := [.ref d, .int (nI N), .ref (G.2.2.2 2)]) (rest := []) C (va_cwS 3 C.1.2.2.2.2 gJ7_copyOf_1904c_J7_copyOf_6403c rfl rfl rfl (by decide +kernel) ⟨Nat.le_of_ble_eq_true rfl, Nat.le_of_ble_eq_true rfl⟩) rfl rfl (by first | decide | simp [cat_ref, cat_null, cat_int, cat_long, rf_cat]) dJ7_copyOf_1904c_6 (by simp) (c_copyOf3 l G z hd hel hNl hN) (fun rv z1 h1 => ?_)
  obtain ⟨q, hq, hlow, rfl, e1⟩ := h1
  replace e1 := e1.symm
  subst e1
  refine w_widen (k := 1) (n := N) (by simp) (by simp) ?_
  exact w_aret C (Or.inr ⟨_, rfl⟩) (by first | rfl | exact isRef_rf _) dJ7_copyOf_1904c_9 ⟨q, hq, hlow, rfl, rfl⟩
