/-! ===== ArrayList: growing, adding, clearing ===== -/
set_option maxHeartbeats 4000000 in
set_option maxRecDepth 100000 in
theorem c_growE (l : Launch) (G : Gx) (z : Sto) {a : Nat} (ha : is z a 0) (hd : sR z 1 a = some (G.2.2.2 0)) : Ct l yJx4a65c_grow_92f84 wsJx4a65c_grow_92f84 ({ frames := 1, cells := 1, slots := 10, locals := 20 } : Room) G z [.ref a, .int (nI 1)] (fun rv z' => ∃ q, q ∉ sL z ∧ G.2.2.1 ≤ q ∧ rv = some (.ref q) ∧ z' = putR (newA z q 9 10 (fun _ => none)) 1 a (some q)) := by
  refine ct_of (cc := cJx4a65c_grow_92f84) (maxL := 4) (ret := (some (.array (.object "java/lang/Object")))) (lv0 := [(0, .ref a), (1, .int (nI 1))]) (by decide) rfl (by simp [lg_sl, cat_ref, cat_null, cat_int, cat_long, rf_cat]) (by simp [lv_args, cat_ref, cat_null, cat_int, cat_long, rf_cat]) ?_
  intro p e s m args below meth c C hin
  have i0 : ∀ w ∈ u_ws RJx4a65c TJx4a65c 3, w ∈ wsJx4a65c_grow_92f84 := by decide +kernel
  refine w_aload_n C 0 dJx4a65c_grow_92f84_0 rfl rfl (by first | rfl | exact isRef_rf _) ?_
  refine w_getRs (ci := 0) (k := 1) (f := 1) C rfl i0 (by decide +kernel) (by decide) (by decide) rfl rfl dJx4a65c_grow_92f84_1 ha hd ?_
  refine w_tlenE C dJx4a65c_grow_92f84_4 ?_
  refine w_istore_nB (lvq := [(2, _), (0, _), (1, _)]) C 1 rfl rfl (by first | rfl | exact rf_cat _) dJx4a65c_grow_92f84_5 rfl (by decide) rfl ?_
  refine w_iload_n C 0 dJx4a65c_grow_92f84_6 rfl rfl ?_
  refine w_if_gt (tgt := 20) C dJx4a65c_grow_92f84_7 (by decide) (fun c1 => ?_) (fun c1 => ?_)
  · exact absurd c1 (by decide)
  · refine w_aload_n C 1 dJx4a65c_grow_92f84_10 rfl rfl (by first | rfl | exact isRef_rf _) ?_
    refine w_getRs (ci := 0) (k := 1) (f := 1) C rfl i0 (by decide +kernel) (by decide) (by decide) rfl rfl dJx4a65c_grow_92f84_11 ha hd ?_
    refine w_getsE C (by decide +kernel) dJx4a65c_grow_92f84_14 ?_
    refine w_acmp_eq (tgt := 45) (rx := (some (G.2.2.2 0))) (ry := (some (G.2.2.2 0))) C dJx4a65c_grow_92f84_17 (by decide) (fun c2 => ?_) (fun c2 => ?_)
    · refine w_aload_n C 1 dJx4a65c_grow_92f84_45 rfl rfl (by first | rfl | exact isRef_rf _) ?_
      refine w_bipush (v := 10) C dJx4a65c_grow_92f84_46 (by decide) ?_
      refine w_iload_n C 2 dJx4a65c_grow_92f84_48 rfl rfl ?_
      refine w_max C (by decide +kernel) (by decide +kernel) (by decide +kernel) (by decide +kernel) (Nat.le_of_ble_eq_true rfl) (by simp [cat_ref]) (Nat.le_of_ble_eq_true rfl) (Nat.le_of_ble_eq_true rfl) dJx4a65c_grow_92f84_49 ?_
      refine w_inti (y := nI 10) (by decide) ?_
      refine w_newq C (by decide +kernel) rfl (by decide) (Nat.le_of_ble_eq_true rfl) (Nat.le_of_ble_eq_true rfl) dJx4a65c_grow_92f84_52 (fun q hq hlow => ?_)
      refine w_dup_x1 C dJx4a65c_grow_92f84_55 (by first | rfl | exact rf_cat _) (by first | rfl | exact rf_cat _) ?_
      refine w_putR (ci := 0) (k := 1) (f := 1) (v := (some q)) C rfl i0 (by decide +kernel) (by decide) (by decide) rfl rfl tyJx4a65c tyJx4a65c_ok nmJx4a65c rfl (by first | rfl | exact nar_rf _ _ | exact nar_ra _ _) (by first | rfl | exact fit_rf _ _ | exact fit_ra _ _) dJx4a65c_grow_92f84_56 (is_newA ha hq) ?_
      exact w_aret C (Or.inr ⟨_, rfl⟩) (by first | rfl | exact isRef_rf _) dJx4a65c_grow_92f84_59 ⟨q, hq, hlow, rfl, rfl⟩
    · exact absurd rfl c2
set_option maxHeartbeats 4000000 in
set_option maxRecDepth 100000 in
theorem c_growF (l : Launch) (G : Gx) (z : Sto) {a d n : Nat} (ha : is z a 0) (hd : sR z 1 a = some d) (isd : is z d 9) (hN : sN z d = n) (h10 : 10 ≤ n) (hn : n ≤ 700) (hel : ∀ i, i < sN z d → ∀ w, sQ z d i = some w → is z w 2) : Ct l yJx4a65c_grow_92f84 wsJx4a65c_grow_92f84 ({ frames := 3, cells := 1, slots := (n + n / 2), locals := 113 } : Room) G z [.ref a, .int (nI (n + 1))] (fun rv z' => ∃ q, q ∉ sL z ∧ G.2.2.1 ≤ q ∧ rv = some (.ref q) ∧ z' = putR (newA z q 9 (n + n / 2) (fun i => if i < sN z d then sQ z d i else none)) 1 a (some q)) := by
  refine ct_of (cc := cJx4a65c_grow_92f84) (maxL := 4) (ret := (some (.array (.object "java/lang/Object")))) (lv0 := [(0, .ref a), (1, .int (nI (n + 1)))]) (by decide) rfl (by simp [lg_sl, cat_ref, cat_null, cat_int, cat_long, rf_cat]) (by simp [lv_args, cat_ref, cat_null, cat_int, cat_long, rf_cat]) ?_
  intro p e s m args below meth c C hin
  have i0 : ∀ w ∈ u_ws RJx4a65c TJx4a65c 3, w ∈ wsJx4a65c_grow_92f84 := by decide +kernel
  refine w_aload_n C 0 dJx4a65c_grow_92f84_0 rfl rfl (by first | rfl | exact isRef_rf _) ?_
  refine w_getRs (ci := 0) (k := 1) (f := 1) C rfl i0 (by decide +kernel) (by decide) (by decide) rfl rfl dJx4a65c_grow_92f84_1 ha hd ?_
  refine w_alen9 C dJx4a65c_grow_92f84_4 isd (by omega) ?_
  refine w_inti (y := nI n) (by rw [hN]) ?_
  refine w_istore_nB (lvq := [(2, _), (0, _), (1, _)]) C 1 rfl rfl (by first | rfl | exact rf_cat _) dJx4a65c_grow_92f84_5 rfl (by decide) rfl ?_
  refine w_iload_n C 0 dJx4a65c_grow_92f84_6 rfl rfl ?_
  refine w_if_gt (tgt := 20) C dJx4a65c_grow_92f84_7 (by decide) (fun c1 => ?_) (fun c1 => ?_)
  · refine w_iload_n C 0 dJx4a65c_grow_92f84_20 rfl rfl ?_
    refine w_iload_n C 2 dJx4a65c_grow_92f84_21 rfl rfl ?_
    refine w_iload_n C 0 dJx4a65c_grow_92f84_22 rfl rfl ?_
    refine w_isub C dJx4a65c_grow_92f84_23 ?_
    refine w_inti (y := nI 1) (by rw [pk_sub (by omega), show n + 1 - n = 1 by omega]) ?_
    refine w_iload_n C 0 dJx4a65c_grow_92f84_24 rfl rfl ?_
    refine w_iconst (v := 1) C dJx4a65c_grow_92f84_25 (by decide) ?_
    refine w_ishr C dJx4a65c_grow_92f84_26 ?_
    refine w_inti (y := nI (n / 2)) (by have k := pk_shrN (n := n) (by omega) ((1 : Int32) &&& 31) 1 (by decide); rw [Nat.pow_one] at k; exact k) ?_
    refine w_callS (As := [.int (nI n), .int (nI 1), .int (nI (n / 2))]) (rest := []) C (va_cwS 3 C.1.2.2.2.2 gJx4a65c_grow_92f84_J8_newLength_cabcc rfl rfl rfl (by decide +kernel) ⟨Nat.le_of_ble_eq_true rfl, Nat.le_of_ble_eq_true rfl⟩) rfl rfl (by first | decide | simp [cat_ref, cat_null, cat_int, cat_long, rf_cat]) dJx4a65c_grow_92f84_27 (by simp) (c_newLength l G z h10 hn) (fun rv z1 h1 => ?_)
    obtain ⟨rfl, e1⟩ := h1
    replace e1 := e1.symm
    subst e1
    refine w_istore_nB (lvq := [(3, _), (2, _), (0, _), (1, _)]) C 0 rfl rfl (by first | rfl | exact rf_cat _) dJx4a65c_grow_92f84_30 rfl (by decide) rfl ?_
    refine w_aload_n C 2 dJx4a65c_grow_92f84_31 rfl rfl (by first | rfl | exact isRef_rf _) ?_
    refine w_aload_n C 2 dJx4a65c_grow_92f84_32 rfl rfl (by first | rfl | exact isRef_rf _) ?_
    refine w_getRs (ci := 0) (k := 1) (f := 1) C rfl i0 (by decide +kernel) (by decide) (by decide) rfl rfl dJx4a65c_grow_92f84_33 ha hd ?_
    refine w_iload_n C 0 dJx4a65c_grow_92f84_36 rfl rfl ?_
    refine w_callS (As := [.ref d, .int (nI (n + n / 2))]) (rest := [.ref a]) C (va_cwS 2 C.1.2.2.2.2 gJx4a65c_grow_92f84_J7_copyOf_1904c rfl rfl rfl (by decide +kernel) ⟨Nat.le_of_ble_eq_true rfl, Nat.le_of_ble_eq_true rfl⟩) rfl rfl (by first | decide | simp [cat_ref, cat_null, cat_int, cat_long, rf_cat]) dJx4a65c_grow_92f84_37 (by simp) (c_copyOf l G z isd hel (by omega) (by omega)) (fun rv z1 h1 => ?_)
    obtain ⟨q, hq, hlow, rfl, e1⟩ := h1
    replace e1 := e1.symm
    subst e1
    refine w_dup_x1 C dJx4a65c_grow_92f84_40 (by first | rfl | exact rf_cat _) (by first | rfl | exact rf_cat _) ?_
    refine w_putR (ci := 0) (k := 1) (f := 1) (v := (some q)) C rfl i0 (by decide +kernel) (by decide) (by decide) rfl rfl tyJx4a65c tyJx4a65c_ok nmJx4a65c rfl (by first | rfl | exact nar_rf _ _ | exact nar_ra _ _) (by first | rfl | exact fit_rf _ _ | exact fit_ra _ _) dJx4a65c_grow_92f84_41 (is_newA ha hq) ?_
    refine w_widen (k := 1) (n := (n + n / 2)) (by simp) (by simp) ?_
    exact w_aret C (Or.inr ⟨_, rfl⟩) (by first | rfl | exact isRef_rf _) dJx4a65c_grow_92f84_44 ⟨q, hq, hlow, rfl, rfl⟩
  · exact absurd (show (0 : Int32) < nI n from nI_lt (a := 0) (by omega) (by omega)) c1
set_option maxHeartbeats 4000000 in
set_option maxRecDepth 100000 in
theorem c_grow0E (l : Launch) (G : Gx) (z : Sto) {a : Nat} (ha : is z a 0) (hd : sR z 1 a = some (G.2.2.2 0)) (hs : sI z 2 a = nI 0) : Ct l yJx4a65c_grow_d5877 wsJx4a65c_grow_d5877 ({ frames := 2, cells := 1, slots := 10, locals := 43 } : Room) G z [.ref a] (fun rv z' => ∃ q, q ∉ sL z ∧ G.2.2.1 ≤ q ∧ rv = some (.ref q) ∧ z' = putR (newA z q 9 10 (fun _ => none)) 1 a (some q)) := by
  refine ct_of (cc := cJx4a65c_grow_d5877) (maxL := 1) (ret := (some (.array (.object "java/lang/Object")))) (lv0 := [(0, .ref a)]) (by decide) rfl (by simp [lg_sl, cat_ref, cat_null, cat_int, cat_long, rf_cat]) (by simp [lv_args, cat_ref, cat_null, cat_int, cat_long, rf_cat]) ?_
  intro p e s m args below meth c C hin
  have i0 : ∀ w ∈ u_ws RJx4a65c TJx4a65c 3, w ∈ wsJx4a65c_grow_d5877 := by decide +kernel
  refine w_aload_n C 0 dJx4a65c_grow_d5877_0 rfl rfl (by first | rfl | exact isRef_rf _) ?_
  refine w_aload_n C 0 dJx4a65c_grow_d5877_1 rfl rfl (by first | rfl | exact isRef_rf _) ?_
  refine w_getI (ci := 0) (k := 2) (f := 2) C rfl i0 (by decide +kernel) (by decide) (by decide) rfl rfl dJx4a65c_grow_d5877_2 ha hs ?_
  refine w_iconst (v := 1) C dJx4a65c_grow_d5877_5 (by decide) ?_
  refine w_iadd C dJx4a65c_grow_d5877_6 ?_
  refine w_inti (y := nI 1) (by decide) ?_
  refine w_callV (ci := 0) (As := [.int (nI 1)]) (rest := []) C (cwV 1 C.1.2.2.2.2 gJx4a65c_grow_d5877_Jx4a65c_grow_92f84 rfl rfl rfl (by decide +kernel) ⟨Nat.le_of_ble_eq_true rfl, Nat.le_of_ble_eq_true rfl⟩) ha rfl (by decide) rfl rfl (by first | decide | simp [cat_ref, cat_null, cat_int, cat_long, rf_cat]) dJx4a65c_grow_d5877_7 ⟨Nat.le_of_ble_eq_true rfl, Nat.le_of_ble_eq_true rfl⟩ (c_growE l G z ha hd) (fun rv z1 h1 => ?_)
  obtain ⟨q, hq, hlow, rfl, e1⟩ := h1
  replace e1 := e1.symm
  subst e1
  exact w_aret C (Or.inr ⟨_, rfl⟩) (by first | rfl | exact isRef_rf _) dJx4a65c_grow_d5877_10 ⟨q, hq, hlow, rfl, rfl⟩
set_option maxHeartbeats 4000000 in
set_option maxRecDepth 100000 in
theorem c_grow0F (l : Launch) (G : Gx) (z : Sto) {a d n : Nat} (ha : is z a 0) (hd : sR z 1 a = some d) (isd : is z d 9) (hN : sN z d = n) (h10 : 10 ≤ n) (hn : n ≤ 700) (hel : ∀ i, i < sN z d → ∀ w, sQ z d i = some w → is z w 2) (hs : sI z 2 a = nI n) : Ct l yJx4a65c_grow_d5877 wsJx4a65c_grow_d5877 ({ frames := 4, cells := 1, slots := (n + n / 2), locals := 136 } : Room) G z [.ref a] (fun rv z' => ∃ q, q ∉ sL z ∧ G.2.2.1 ≤ q ∧ rv = some (.ref q) ∧ z' = putR (newA z q 9 (n + n / 2) (fun i => if i < sN z d then sQ z d i else none)) 1 a (some q)) := by
  refine ct_of (cc := cJx4a65c_grow_d5877) (maxL := 1) (ret := (some (.array (.object "java/lang/Object")))) (lv0 := [(0, .ref a)]) (by decide) rfl (by simp [lg_sl, cat_ref, cat_null, cat_int, cat_long, rf_cat]) (by simp [lv_args, cat_ref, cat_null, cat_int, cat_long, rf_cat]) ?_
  intro p e s m args below meth c C hin
  have i0 : ∀ w ∈ u_ws RJx4a65c TJx4a65c 3, w ∈ wsJx4a65c_grow_d5877 := by decide +kernel
  refine w_aload_n C 0 dJx4a65c_grow_d5877_0 rfl rfl (by first | rfl | exact isRef_rf _) ?_
  refine w_aload_n C 0 dJx4a65c_grow_d5877_1 rfl rfl (by first | rfl | exact isRef_rf _) ?_
  refine w_getI (ci := 0) (k := 2) (f := 2) C rfl i0 (by decide +kernel) (by decide) (by decide) rfl rfl dJx4a65c_grow_d5877_2 ha hs ?_
  refine w_iconst (v := 1) C dJx4a65c_grow_d5877_5 (by decide) ?_
  refine w_iadd C dJx4a65c_grow_d5877_6 ?_
  refine w_inti (y := nI (n + 1)) (nI_1 n) ?_
  refine w_callV (ci := 0) (As := [.int (nI (n + 1))]) (rest := []) C (cwV 1 C.1.2.2.2.2 gJx4a65c_grow_d5877_Jx4a65c_grow_92f84 rfl rfl rfl (by decide +kernel) ⟨Nat.le_of_ble_eq_true rfl, Nat.le_of_ble_eq_true rfl⟩) ha rfl (by decide) rfl rfl (by first | decide | simp [cat_ref, cat_null, cat_int, cat_long, rf_cat]) dJx4a65c_grow_d5877_7 (by simp) (c_growF l G z ha hd isd hN h10 hn hel) (fun rv z1 h1 => ?_)
  obtain ⟨q, hq, hlow, rfl, e1⟩ := h1
  replace e1 := e1.symm
  subst e1
  refine w_widen (k := 1) (n := (n + n / 2)) (by simp) (by simp) ?_
  exact w_aret C (Or.inr ⟨_, rfl⟩) (by first | rfl | exact isRef_rf _) dJx4a65c_grow_d5877_10 ⟨q, hq, hlow, rfl, rfl⟩
set_option maxHeartbeats 4000000 in
set_option maxRecDepth 100000 in
theorem c_add3R (l : Launch) (G : Gx) (z : Sto) {a d e0 n : Nat} (ha : is z a 0) (isd : is z d 9) (he : is z e0 2) (hnl : n < sN z d) (hb : sN z d ≤ 1200) : Ct l yJx4a65c_add_72be8 wsJx4a65c_add_72be8 ({ frames := 0, cells := 0, slots := 0, locals := 0 } : Room) G z [.ref a, .ref e0, .ref d, .int (nI n)] (fun rv z' => rv = none ∧ z' = putI (setQ z d n (some e0)) 2 a (nI (n + 1))) := by
  refine ct_of (cc := cJx4a65c_add_72be8) (maxL := 4) (ret := none) (lv0 := [(0, .ref a), (1, .ref e0), (2, .ref d), (3, .int (nI n))]) (by decide) rfl (by simp [lg_sl, cat_ref, cat_null, cat_int, cat_long, rf_cat]) (by simp [lv_args, cat_ref, cat_null, cat_int, cat_long, rf_cat]) ?_
  intro p e s m args below meth c C hin
  have i0 : ∀ w ∈ u_ws RJx4a65c TJx4a65c 3, w ∈ wsJx4a65c_add_72be8 := by decide +kernel
  refine w_iload_n C 3 dJx4a65c_add_72be8_0 rfl rfl ?_
  refine w_aload_n C 2 dJx4a65c_add_72be8_1 rfl rfl (by first | rfl | exact isRef_rf _) ?_
  refine w_alen9 C dJx4a65c_add_72be8_2 isd (by omega) ?_
  refine w_icmp_ne (tgt := 11) C dJx4a65c_add_72be8_3 (by decide) (fun c1 => ?_) (fun c1 => ?_)
  · refine w_aload_n C 2 dJx4a65c_add_72be8_11 rfl rfl (by first | rfl | exact isRef_rf _) ?_
    refine w_iload_n C 3 dJx4a65c_add_72be8_12 rfl rfl ?_
    refine w_aload_n C 1 dJx4a65c_add_72be8_13 rfl rfl (by first | rfl | exact isRef_rf _) ?_
    refine w_aastG C dJx4a65c_add_72be8_14 isd he rfl hnl (by omega) ?_
    refine w_aload_n C 0 dJx4a65c_add_72be8_15 rfl rfl (by first | rfl | exact isRef_rf _) ?_
    refine w_iload_n C 3 dJx4a65c_add_72be8_16 rfl rfl ?_
    refine w_iconst (v := 1) C dJx4a65c_add_72be8_17 (by decide) ?_
    refine w_iadd C dJx4a65c_add_72be8_18 ?_
    refine w_inti (y := nI (n + 1)) (nI_1 n) ?_
    refine w_putI (ci := 0) (k := 2) (f := 2) C rfl i0 (by decide +kernel) (by decide) (by decide) rfl rfl tyJx4a65c tyJx4a65c_ok nmJx4a65c rfl rfl rfl dJx4a65c_add_72be8_19 (is_Q ha) ?_
    exact w_vret C dJx4a65c_add_72be8_22 ⟨rfl, rfl⟩
  · exact absurd ((nI_eq (by omega) (by omega)).mp c1) (by omega)
set_option maxHeartbeats 4000000 in
set_option maxRecDepth 100000 in
theorem c_add3E (l : Launch) (G : Gx) (z : Sto) {a e0 : Nat} (ha : is z a 0) (hd : sR z 1 a = some (G.2.2.2 0)) (hs : sI z 2 a = nI 0) (he : is z e0 2) : Ct l yJx4a65c_add_72be8 wsJx4a65c_add_72be8 ({ frames := 3, cells := 1, slots := 10, locals := 63 } : Room) G z [.ref a, .ref e0, .ref (G.2.2.2 0), .int (nI 0)] (fun rv z' => rv = none ∧ ∃ q, q ∉ sL z ∧ G.2.2.1 ≤ q ∧ z' = putI (setQ (putR (newA z q 9 10 (fun _ => none)) 1 a (some q)) q 0 (some e0)) 2 a (nI 1)) := by
  refine ct_of (cc := cJx4a65c_add_72be8) (maxL := 4) (ret := none) (lv0 := [(0, .ref a), (1, .ref e0), (2, .ref (G.2.2.2 0)), (3, .int (nI 0))]) (by decide) rfl (by simp [lg_sl, cat_ref, cat_null, cat_int, cat_long, rf_cat]) (by simp [lv_args, cat_ref, cat_null, cat_int, cat_long, rf_cat]) ?_
  intro p e s m args below meth c C hin
  have i0 : ∀ w ∈ u_ws RJx4a65c TJx4a65c 3, w ∈ wsJx4a65c_add_72be8 := by decide +kernel
  refine w_iload_n C 3 dJx4a65c_add_72be8_0 rfl rfl ?_
  refine w_aload_n C 2 dJx4a65c_add_72be8_1 rfl rfl (by first | rfl | exact isRef_rf _) ?_
  refine w_tlenE C dJx4a65c_add_72be8_2 ?_
  refine w_icmp_ne (tgt := 11) C dJx4a65c_add_72be8_3 (by decide) (fun c1 => ?_) (fun c1 => ?_)
  · exact absurd (show nI 0 = 0 from by decide) c1
  · refine w_aload_n C 0 dJx4a65c_add_72be8_6 rfl rfl (by first | rfl | exact isRef_rf _) ?_
    refine w_callV (ci := 0) (As := []) (rest := []) C (cwV 0 C.1.2.2.2.2 gJx4a65c_add_72be8_Jx4a65c_grow_d5877 rfl rfl rfl (by decide +kernel) ⟨Nat.le_of_ble_eq_true rfl, Nat.le_of_ble_eq_true rfl⟩) ha rfl (by decide) rfl rfl (by first | decide | simp [cat_ref, cat_null, cat_int, cat_long, rf_cat]) dJx4a65c_add_72be8_7 ⟨Nat.le_of_ble_eq_true rfl, Nat.le_of_ble_eq_true rfl⟩ (c_grow0E l G z ha hd hs) (fun rv z1 h1 => ?_)
    obtain ⟨q, hq, hlow, rfl, e1⟩ := h1
    replace e1 := e1.symm
    subst e1
    refine w_astore_nB (lvq := [(2, _), (0, _), (1, _), (3, _)]) C 1 rfl rfl (by first | rfl | exact rf_cat _) dJx4a65c_add_72be8_10 rfl (by first | rfl | exact isRef_rf _) (by decide) rfl ?_
    refine w_aload_n C 0 dJx4a65c_add_72be8_11 rfl rfl (by first | rfl | exact isRef_rf _) ?_
    refine w_iload_n C 3 dJx4a65c_add_72be8_12 rfl rfl ?_
    refine w_aload_n C 2 dJx4a65c_add_72be8_13 rfl rfl (by first | rfl | exact isRef_rf _) ?_
    refine w_aastG C dJx4a65c_add_72be8_14 (is_R (is_newA_self _ _ _ _ _)) (is_R (is_newA he hq)) rfl (by show 0 < va_up (sN z) q 10 q; rw [va_up_self]; decide) (by show va_up (sN z) q 10 q < _; rw [va_up_self]; decide) ?_
    refine w_aload_n C 1 dJx4a65c_add_72be8_15 rfl rfl (by first | rfl | exact isRef_rf _) ?_
    refine w_iload_n C 3 dJx4a65c_add_72be8_16 rfl rfl ?_
    refine w_iconst (v := 1) C dJx4a65c_add_72be8_17 (by decide) ?_
    refine w_iadd C dJx4a65c_add_72be8_18 ?_
    refine w_inti (y := nI 1) (by decide) ?_
    refine w_putI (ci := 0) (k := 2) (f := 2) C rfl i0 (by decide +kernel) (by decide) (by decide) rfl rfl tyJx4a65c tyJx4a65c_ok nmJx4a65c rfl rfl rfl dJx4a65c_add_72be8_19 (is_Q (is_R (is_newA ha hq))) ?_
    exact w_vret C dJx4a65c_add_72be8_22 ⟨rfl, q, hq, hlow, rfl⟩
set_option maxHeartbeats 4000000 in
set_option maxRecDepth 100000 in
theorem c_add3F (l : Launch) (G : Gx) (z : Sto) {a d e0 n : Nat} (ha : is z a 0) (hd : sR z 1 a = some d) (isd : is z d 9) (hN : sN z d = n) (h10 : 10 ≤ n) (hn : n ≤ 700) (hel : ∀ i, i < sN z d → ∀ w, sQ z d i = some w → is z w 2) (hs : sI z 2 a = nI n) (he : is z e0 2) : Ct l yJx4a65c_add_72be8 wsJx4a65c_add_72be8 ({ frames := 5, cells := 1, slots := (n + n / 2), locals := 156 } : Room) G z [.ref a, .ref e0, .ref d, .int (nI n)] (fun rv z' => rv = none ∧ ∃ q, q ∉ sL z ∧ G.2.2.1 ≤ q ∧ z' = putI (setQ (putR (newA z q 9 (n + n / 2) (fun i => if i < sN z d then sQ z d i else none)) 1 a (some q)) q n (some e0)) 2 a (nI (n + 1))) := by
  refine ct_of (cc := cJx4a65c_add_72be8) (maxL := 4) (ret := none) (lv0 := [(0, .ref a), (1, .ref e0), (2, .ref d), (3, .int (nI n))]) (by decide) rfl (by simp [lg_sl, cat_ref, cat_null, cat_int, cat_long, rf_cat]) (by simp [lv_args, cat_ref, cat_null, cat_int, cat_long, rf_cat]) ?_
  intro p e s m args below meth c C hin
  have i0 : ∀ w ∈ u_ws RJx4a65c TJx4a65c 3, w ∈ wsJx4a65c_add_72be8 := by decide +kernel
  refine w_iload_n C 3 dJx4a65c_add_72be8_0 rfl rfl ?_
  refine w_aload_n C 2 dJx4a65c_add_72be8_1 rfl rfl (by first | rfl | exact isRef_rf _) ?_
  refine w_alen9 C dJx4a65c_add_72be8_2 isd (by omega) ?_
  refine w_icmp_ne (tgt := 11) C dJx4a65c_add_72be8_3 (by decide) (fun c1 => ?_) (fun c1 => ?_)
  · exact absurd (by rw [hN]) c1
  · refine w_aload_n C 0 dJx4a65c_add_72be8_6 rfl rfl (by first | rfl | exact isRef_rf _) ?_
    refine w_callV (ci := 0) (As := []) (rest := []) C (cwV 0 C.1.2.2.2.2 gJx4a65c_add_72be8_Jx4a65c_grow_d5877 rfl rfl rfl (by decide +kernel) ⟨Nat.le_of_ble_eq_true rfl, Nat.le_of_ble_eq_true rfl⟩) ha rfl (by decide) rfl rfl (by first | decide | simp [cat_ref, cat_null, cat_int, cat_long, rf_cat]) dJx4a65c_add_72be8_7 (by simp) (c_grow0F l G z ha hd isd hN h10 hn hel hs) (fun rv z1 h1 => ?_)
    obtain ⟨q, hq, hlow, rfl, e1⟩ := h1
    replace e1 := e1.symm
    subst e1
    refine w_astore_nB (lvq := [(2, _), (0, _), (1, _), (3, _)]) C 1 rfl rfl (by first | rfl | exact rf_cat _) dJx4a65c_add_72be8_10 rfl (by first | rfl | exact isRef_rf _) (by decide) rfl ?_
    refine w_aload_n C 0 dJx4a65c_add_72be8_11 rfl rfl (by first | rfl | exact isRef_rf _) ?_
    refine w_iload_n C 3 dJx4a65c_add_72be8_12 rfl rfl ?_
    refine w_aload_n C 2 dJx4a65c_add_72be8_13 rfl rfl (by first | rfl | exact isRef_rf _) ?_
    refine w_aastG C dJx4a65c_add_72be8_14 (is_R (is_newA_self _ _ _ _ _)) (is_R (is_newA he hq)) rfl (by show n < va_up (sN z) q _ q; rw [va_up_self]; omega) (by show va_up (sN z) q _ q < _; rw [va_up_self]; omega) ?_
    refine w_aload_n C 1 dJx4a65c_add_72be8_15 rfl rfl (by first | rfl | exact isRef_rf _) ?_
    refine w_iload_n C 3 dJx4a65c_add_72be8_16 rfl rfl ?_
    refine w_iconst (v := 1) C dJx4a65c_add_72be8_17 (by decide) ?_
    refine w_iadd C dJx4a65c_add_72be8_18 ?_
    refine w_inti (y := nI (n + 1)) (nI_1 n) ?_
    refine w_putI (ci := 0) (k := 2) (f := 2) C rfl i0 (by decide +kernel) (by decide) (by decide) rfl rfl tyJx4a65c tyJx4a65c_ok nmJx4a65c rfl rfl rfl dJx4a65c_add_72be8_19 (is_Q (is_R (is_newA ha hq))) ?_
    refine w_widen (k := 1) (n := (n + n / 2)) (by simp) (by simp) ?_
    exact w_vret C dJx4a65c_add_72be8_22 ⟨rfl, q, hq, hlow, rfl⟩
