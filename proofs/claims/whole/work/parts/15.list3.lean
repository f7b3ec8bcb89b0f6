/-! ===== ArrayList.add and clear, as a list ===== -/
def gcap (cap : Nat) : Nat := if cap = 0 then 10 else cap + cap / 2
/-- what an add to the list at a leaves as it was -/
def adF (z z' : Sto) (a : Nat) : Prop :=
  (∀ b k, is z b k → is z' b k) ∧ (∀ g b, (g ≠ 0 ∧ g ≠ 2) ∨ b ≠ a → sI z' g b = sI z g b) ∧ sJ z' = sJ z ∧ (∀ g b, g ≠ 1 ∨ b ≠ a → sR z' g b = sR z g b) ∧
  (∀ b, b ∈ sL z → sN z' b = sN z b ∧ sE z' b = sE z b ∧ sF z' b = sF z b) ∧ (∀ b, b ∈ sL z → sR z 1 a ≠ some b → sQ z' b = sQ z b) ∧ (sR z' 1 a = sR z 1 a ∨ ∃ q, q ∉ sL z ∧ sR z' 1 a = some q)
theorem adF_room {z : Sto} {a d n e0 : Nat} {m k : Int32} (hd : sR z 1 a = some d) : adF z (putI (setQ (putI z 0 a m) d n (some e0)) 2 a k) a := by
  refine ⟨fun b k h => h, fun g b h => ?_, rfl, fun g b _ => rfl, fun b _ => ⟨rfl, rfl, rfl⟩, fun b _ h => ?_, Or.inl rfl⟩
  · rw [I_pI, I_sQ, I_pI]
    rcases h with ⟨h0, h2⟩ | h
    · rw [if_neg (fun q => h2 q.1), if_neg (fun q => h0 q.1)]
    · rw [if_neg (fun q => h q.2), if_neg (fun q => h q.2)]
  · funext i
    rw [Q_pI, Q_sQ, Q_pI, if_neg (fun q => h (by rw [hd, q.1]))]
theorem adF_new {z : Sto} {a n e0 q N : Nat} {m k : Int32} {f : Nat → Option Nat} (hq : q ∉ sL z) (ha : a ∈ sL z) : adF z (putI (setQ (putR (newA (putI z 0 a m) q 9 N f) 1 a (some q)) q n (some e0)) 2 a k) a := by
  have hne : ∀ b, b ∈ sL z → b ≠ q := fun b hb e => hq (e ▸ hb)
  refine ⟨fun b k h => is_I (is_Q (is_R (is_newA (is_I h) hq))), fun g b h => ?_, rfl, fun g b h => ?_, fun b hb => ⟨?_, ?_, ?_⟩, fun b hb _ => ?_, Or.inr ⟨q, hq, ?_⟩⟩
  · rw [I_pI, I_sQ, I_pR, I_nA, I_pI]
    rcases h with ⟨h0, h2⟩ | h
    · rw [if_neg (fun q => h2 q.1), if_neg (fun q => h0 q.1)]
    · rw [if_neg (fun q => h q.2), if_neg (fun q => h q.2)]
  · rw [R_pI, R_sQ, R_pR, R_nA, R_pI]
    rcases h with h | h
    · rw [if_neg (fun q => h q.1)]
    · rw [if_neg (fun q => h q.2)]
  · rw [N_pI, N_sQ, N_pR, N_nA, if_neg (hne b hb), N_pI]
  · funext i
    rw [E_pI, E_sQ, E_pR, E_nA, if_neg (hne b hb), E_pI]
  · funext i
    rw [F_pI, F_sQ, F_pR, F_nA, if_neg (hne b hb), F_pI]
  · funext i
    rw [Q_pI, Q_sQ, if_neg (fun h => hne b hb h.1), Q_pR, Q_nA, if_neg (hne b hb), Q_pI]
  · rw [R_pI, R_sQ, R_pR, if_pos ⟨rfl, rfl⟩]
theorem lst_room {G : Gx} {z : Sto} {a d n e0 cap : Nat} {f : Nat → Nat} {m : Int32} (h : lst G z a n f cap) (hn : n < cap) (hd : sR z 1 a = some d) (hD : d ≠ G.2.2.2 0 ∨ True) (he : is z e0 2) : lst G (putI (setQ (putI z 0 a m) d n (some e0)) 2 a (nI (n + 1))) a (n + 1) (va_up f n e0) cap := by
  obtain ⟨ha, hs, h1, h2, h9⟩ := h
  obtain ⟨h10, d', hd', isd, hN, hq⟩ := h9.resolve_left (fun q => absurd q.1 (by omega))
  cases hd.symm.trans hd'
  refine ⟨ha, by rw [I_pI, if_pos ⟨rfl, rfl⟩], hn, h2, Or.inr ⟨h10, d, hd, isd, hN, fun i hi => ?_⟩⟩
  rw [Q_pI, Q_sQ]
  by_cases hin : i = n
  · subst hin
    rw [if_pos ⟨rfl, rfl⟩, va_up_self]
    exact ⟨rfl, he⟩
  · rw [if_neg (fun q => hin q.2), va_up_ne _ _ hin]
    exact hq i (by omega)
theorem lst_first {G : Gx} {z : Sto} {a e0 q : Nat} {f : Nat → Nat} {m : Int32} (h : lst G z a 0 f 0) (hq : q ∉ sL z) (he : is z e0 2) : lst G (putI (setQ (putR (newA (putI z 0 a m) q 9 10 (fun _ => none)) 1 a (some q)) q 0 (some e0)) 2 a (nI 1)) a 1 (va_up f 0 e0) 10 := by
  obtain ⟨ha, hs, h1, h2, h9⟩ := h
  refine ⟨is_I (is_Q (is_R (is_newA (is_I ha) hq))), by rw [I_pI, if_pos ⟨rfl, rfl⟩], by omega, by omega, Or.inr ⟨by omega, q, by rw [R_pI, R_sQ, R_pR, if_pos ⟨rfl, rfl⟩], is_I (is_Q (is_R (is_newA_self _ _ _ _ _))), by rw [N_pI, N_sQ, N_pR, N_nA, if_pos rfl], fun i hi => ?_⟩⟩
  have : i = 0 := by omega
  subst this
  rw [Q_pI, Q_sQ, if_pos ⟨rfl, rfl⟩, va_up_self]
  exact ⟨rfl, is_I (is_Q (is_R (is_newA (is_I he) hq)))⟩
theorem lst_grow {G : Gx} {z : Sto} {a d e0 q n : Nat} {f : Nat → Nat} {m : Int32} (h : lst G z a n f n) (h10 : 10 ≤ n) (hn : n ≤ 700) (hd : sR z 1 a = some d) (hq : q ∉ sL z) (he : is z e0 2) : lst G (putI (setQ (putR (newA (putI z 0 a m) q 9 (n + n / 2) (fun i => if i < sN (putI z 0 a m) d then sQ (putI z 0 a m) d i else none)) 1 a (some q)) q n (some e0)) 2 a (nI (n + 1))) a (n + 1) (va_up f n e0) (n + n / 2) := by
  obtain ⟨ha, hs, h1, h2, h9⟩ := h
  obtain ⟨-, d', hd', isd, hN, hel⟩ := h9.resolve_left (fun q => absurd q.1 (by omega))
  cases hd.symm.trans hd'
  refine ⟨is_I (is_Q (is_R (is_newA (is_I ha) hq))), by rw [I_pI, if_pos ⟨rfl, rfl⟩], by omega, by omega, Or.inr ⟨by omega, q, by rw [R_pI, R_sQ, R_pR, if_pos ⟨rfl, rfl⟩], is_I (is_Q (is_R (is_newA_self _ _ _ _ _))), by rw [N_pI, N_sQ, N_pR, N_nA, if_pos rfl], fun i hi => ?_⟩⟩
  rw [Q_pI, Q_sQ]
  by_cases hin : i = n
  · subst hin
    rw [if_pos ⟨rfl, rfl⟩, va_up_self]
    exact ⟨rfl, is_I (is_Q (is_R (is_newA (is_I he) hq)))⟩
  · rw [if_neg (fun q => hin q.2), va_up_ne _ _ hin, Q_pR, Q_nA, if_pos rfl, N_pI, Q_pI, if_pos (by omega)]
    obtain ⟨e1, e2⟩ := hel i (by omega)
    exact ⟨e1, is_I (is_Q (is_R (is_newA (is_I e2) hq)))⟩
set_option maxHeartbeats 4000000 in
set_option maxRecDepth 100000 in
theorem c_addRoom (l : Launch) (G : Gx) (z : Sto) {a e0 n cap : Nat} {f : Nat → Nat} (h : lst G z a n f cap) (hn : n < cap) (he : is z e0 2) : Ct l yJx4a65c_add_9ea2d wsJx4a65c_add_9ea2d ({ frames := 1, cells := 0, slots := 0, locals := 23 } : Room) G z [.ref a, .ref e0] (fun rv z' => rv = some (.int 1) ∧ adF z z' a ∧ lst G z' a (n + 1) (va_up f n e0) cap) := by
  refine ct_of (cc := cJx4a65c_add_9ea2d) (maxL := 2) (ret := (some .boolean)) (lv0 := [(0, .ref a), (1, .ref e0)]) (by decide) rfl (by simp [lg_sl, cat_ref, cat_null, cat_int, cat_long, rf_cat]) (by simp [lv_args, cat_ref, cat_null, cat_int, cat_long, rf_cat]) ?_
  intro p e s m args below meth c C hin
  have i0 : ∀ w ∈ u_ws RJx4a65c TJx4a65c 3, w ∈ wsJx4a65c_add_9ea2d := by decide +kernel
  obtain ⟨ha, hs, hnc, hcap, h9⟩ := id h
  obtain ⟨h10, d, hd, isd, hN, hel⟩ := h9.resolve_left (fun q => absurd q.1 (by omega))
  refine w_aload_n C 0 dJx4a65c_add_9ea2d_0 rfl rfl (by first | rfl | exact isRef_rf _) ?_
  refine w_dup C dJx4a65c_add_9ea2d_1 (by first | rfl | exact rf_cat _) ?_
  refine w_getIr (ref := "java/util/ArrayList") (ci := 0) (k := 0) (f := 0) C rfl i0 (by decide +kernel) (by decide +kernel) (by decide) (by decide) rfl rfl dJx4a65c_add_9ea2d_2 ha rfl ?_
  refine w_iconst (v := 1) C dJx4a65c_add_9ea2d_5 (by decide) ?_
  refine w_iadd C dJx4a65c_add_9ea2d_6 ?_
  refine w_putIr (ref := "java/util/ArrayList") (ci := 0) (k := 0) (f := 0) C rfl i0 (by decide +kernel) (by decide +kernel) (by decide) (by decide) rfl rfl tyJx4a65c tyJx4a65c_ok nmJx4a65c rfl rfl rfl dJx4a65c_add_9ea2d_7 ha ?_
  refine w_aload_n C 0 dJx4a65c_add_9ea2d_10 rfl rfl (by first | rfl | exact isRef_rf _) ?_
  refine w_aload_n C 1 dJx4a65c_add_9ea2d_11 rfl rfl (by first | rfl | exact isRef_rf _) ?_
  refine w_aload_n C 0 dJx4a65c_add_9ea2d_12 rfl rfl (by first | rfl | exact isRef_rf _) ?_
  refine w_getRs (ci := 0) (k := 1) (f := 1) C rfl i0 (by decide +kernel) (by decide) (by decide) rfl rfl dJx4a65c_add_9ea2d_13 (is_I ha) (rR_I hd) ?_
  refine w_aload_n C 0 dJx4a65c_add_9ea2d_16 rfl rfl (by first | rfl | exact isRef_rf _) ?_
  refine w_getI (ci := 0) (k := 2) (f := 2) C rfl i0 (by decide +kernel) (by decide) (by decide) rfl rfl dJx4a65c_add_9ea2d_17 (is_I ha) (rI_If (by decide) hs) ?_
  refine w_callV (ci := 0) (As := [.ref e0, .ref d, .int (nI n)]) (rest := []) C (cwV 3 C.1.2.2.2.2 gJx4a65c_add_9ea2d_Jx4a65c_add_72be8 rfl rfl rfl (by decide +kernel) ⟨Nat.le_of_ble_eq_true rfl, Nat.le_of_ble_eq_true rfl⟩) (is_I ha) rfl (by decide) rfl rfl (by first | decide | simp [cat_ref, cat_null, cat_int, cat_long, rf_cat]) dJx4a65c_add_9ea2d_20 ⟨Nat.le_of_ble_eq_true rfl, Nat.le_of_ble_eq_true rfl⟩ (c_add3R l G _ (is_I ha) (is_I isd) (is_I he) (show n < sN z d by omega) (show sN z d ≤ 1200 by omega)) (fun rv z1 h1 => ?_)
  obtain ⟨rfl, e1⟩ := h1
  replace e1 := e1.symm
  subst e1
  refine w_iconst (v := 1) C dJx4a65c_add_9ea2d_23 (by decide) ?_
  exact w_zret C dJx4a65c_add_9ea2d_24 rfl ⟨rfl, adF_room hd, lst_room h hn hd (Or.inr trivial) he⟩
set_option maxHeartbeats 4000000 in
set_option maxRecDepth 100000 in
theorem c_addGrow (l : Launch) (G : Gx) (z : Sto) {a e0 n : Nat} {f : Nat → Nat} (h : lst G z a n f n) (hn : n ≤ 700) (he : is z e0 2) : Ct l yJx4a65c_add_9ea2d wsJx4a65c_add_9ea2d ({ frames := 6, cells := 1, slots := (gcap n), locals := 179 } : Room) G z [.ref a, .ref e0] (fun rv z' => rv = some (.int 1) ∧ adF z z' a ∧ lst G z' a (n + 1) (va_up f n e0) (gcap n)) := by
  refine ct_of (cc := cJx4a65c_add_9ea2d) (maxL := 2) (ret := (some .boolean)) (lv0 := [(0, .ref a), (1, .ref e0)]) (by decide) rfl (by simp [lg_sl, cat_ref, cat_null, cat_int, cat_long, rf_cat]) (by simp [lv_args, cat_ref, cat_null, cat_int, cat_long, rf_cat]) ?_
  intro p e s m args below meth c C hin
  have i0 : ∀ w ∈ u_ws RJx4a65c TJx4a65c 3, w ∈ wsJx4a65c_add_9ea2d := by decide +kernel
  obtain ⟨ha, hs, hnc, hcap, h9⟩ := id h
  by_cases h0 : n = 0
  · subst h0
    have hd := (h9.resolve_right (fun q => absurd q.1 (by omega))).2
    refine w_aload_n C 0 dJx4a65c_add_9ea2d_0 rfl rfl (by first | rfl | exact isRef_rf _) ?_
    refine w_dup C dJx4a65c_add_9ea2d_1 (by first | rfl | exact rf_cat _) ?_
    refine w_getIr (ref := "java/util/ArrayList") (ci := 0) (k := 0) (f := 0) C rfl i0 (by decide +kernel) (by decide +kernel) (by decide) (by decide) rfl rfl dJx4a65c_add_9ea2d_2 ha rfl ?_
    refine w_iconst (v := 1) C dJx4a65c_add_9ea2d_5 (by decide) ?_
    refine w_iadd C dJx4a65c_add_9ea2d_6 ?_
    refine w_putIr (ref := "java/util/ArrayList") (ci := 0) (k := 0) (f := 0) C rfl i0 (by decide +kernel) (by decide +kernel) (by decide) (by decide) rfl rfl tyJx4a65c tyJx4a65c_ok nmJx4a65c rfl rfl rfl dJx4a65c_add_9ea2d_7 ha ?_
    refine w_aload_n C 0 dJx4a65c_add_9ea2d_10 rfl rfl (by first | rfl | exact isRef_rf _) ?_
    refine w_aload_n C 1 dJx4a65c_add_9ea2d_11 rfl rfl (by first | rfl | exact isRef_rf _) ?_
    refine w_aload_n C 0 dJx4a65c_add_9ea2d_12 rfl rfl (by first | rfl | exact isRef_rf _) ?_
    refine w_getRs (ci := 0) (k := 1) (f := 1) C rfl i0 (by decide +kernel) (by decide) (by decide) rfl rfl dJx4a65c_add_9ea2d_13 (is_I ha) (rR_I hd) ?_
    refine w_aload_n C 0 dJx4a65c_add_9ea2d_16 rfl rfl (by first | rfl | exact isRef_rf _) ?_
    refine w_getI (ci := 0) (k := 2) (f := 2) C rfl i0 (by decide +kernel) (by decide) (by decide) rfl rfl dJx4a65c_add_9ea2d_17 (is_I ha) (rI_If (by decide) hs) ?_
    refine w_callV (ci := 0) (As := [.ref e0, .ref (G.2.2.2 0), .int (nI 0)]) (rest := []) C (cwV 3 C.1.2.2.2.2 gJx4a65c_add_9ea2d_Jx4a65c_add_72be8 rfl rfl rfl (by decide +kernel) ⟨Nat.le_of_ble_eq_true rfl, Nat.le_of_ble_eq_true rfl⟩) (is_I ha) rfl (by decide) rfl rfl (by first | decide | simp [cat_ref, cat_null, cat_int, cat_long, rf_cat]) dJx4a65c_add_9ea2d_20 ⟨by simp, by simp [gcap]⟩ (c_add3E l G _ (is_I ha) (rR_I hd) (rI_If (by decide) hs) (is_I he)) (fun rv z1 h1 => ?_)
    obtain ⟨rfl, q, hq, hlow, e1⟩ := h1
    replace e1 := e1.symm
    subst e1
    refine w_iconst (v := 1) C dJx4a65c_add_9ea2d_23 (by decide) ?_
    refine w_widen (k := 1) (n := (gcap 0)) (by simp) (by simp [gcap]) ?_
    exact w_zret C dJx4a65c_add_9ea2d_24 rfl ⟨rfl, adF_new hq ha.1, lst_first h hq he⟩
  · obtain ⟨h10, d, hd, isd, hN, hel⟩ := h9.resolve_left (fun q => h0 q.1)
    have hg : gcap n = n + n / 2 := by simp [gcap, h0]
    refine w_aload_n C 0 dJx4a65c_add_9ea2d_0 rfl rfl (by first | rfl | exact isRef_rf _) ?_
    refine w_dup C dJx4a65c_add_9ea2d_1 (by first | rfl | exact rf_cat _) ?_
    refine w_getIr (ref := "java/util/ArrayList") (ci := 0) (k := 0) (f := 0) C rfl i0 (by decide +kernel) (by decide +kernel) (by decide) (by decide) rfl rfl dJx4a65c_add_9ea2d_2 ha rfl ?_
    refine w_iconst (v := 1) C dJx4a65c_add_9ea2d_5 (by decide) ?_
    refine w_iadd C dJx4a65c_add_9ea2d_6 ?_
    refine w_putIr (ref := "java/util/ArrayList") (ci := 0) (k := 0) (f := 0) C rfl i0 (by decide +kernel) (by decide +kernel) (by decide) (by decide) rfl rfl tyJx4a65c tyJx4a65c_ok nmJx4a65c rfl rfl rfl dJx4a65c_add_9ea2d_7 ha ?_
    refine w_aload_n C 0 dJx4a65c_add_9ea2d_10 rfl rfl (by first | rfl | exact isRef_rf _) ?_
    refine w_aload_n C 1 dJx4a65c_add_9ea2d_11 rfl rfl (by first | rfl | exact isRef_rf _) ?_
    refine w_aload_n C 0 dJx4a65c_add_9ea2d_12 rfl rfl (by first | rfl | exact isRef_rf _) ?_
    refine w_getRs (ci := 0) (k := 1) (f := 1) C rfl i0 (by decide +kernel) (by decide) (by decide) rfl rfl dJx4a65c_add_9ea2d_13 (is_I ha) (rR_I hd) ?_
    refine w_aload_n C 0 dJx4a65c_add_9ea2d_16 rfl rfl (by first | rfl | exact isRef_rf _) ?_
    refine w_getI (ci := 0) (k := 2) (f := 2) C rfl i0 (by decide +kernel) (by decide) (by decide) rfl rfl dJx4a65c_add_9ea2d_17 (is_I ha) (rI_If (by decide) hs) ?_
    refine w_callV (ci := 0) (As := [.ref e0, .ref d, .int (nI n)]) (rest := []) C (cwV 3 C.1.2.2.2.2 gJx4a65c_add_9ea2d_Jx4a65c_add_72be8 rfl rfl rfl (by decide +kernel) ⟨Nat.le_of_ble_eq_true rfl, Nat.le_of_ble_eq_true rfl⟩) (is_I ha) rfl (by decide) rfl rfl (by first | decide | simp [cat_ref, cat_null, cat_int, cat_long, rf_cat]) dJx4a65c_add_9ea2d_20 ⟨by simp, by simp [hg]⟩ (c_add3F l G _ (is_I ha) (rR_I hd) (is_I isd) (show sN z d = n from hN) h10 hn (fun i hi w hw => by have hi2 : i < sN z d := hi; rw [hN] at hi2; have hw2 : sQ z d i = some w := hw; rw [(hel i hi2).1] at hw2; cases hw2; exact is_I (hel i hi2).2) (rI_If (by decide) hs) (is_I he)) (fun rv z1 h1 => ?_)
    obtain ⟨rfl, q, hq, hlow, e1⟩ := h1
    replace e1 := e1.symm
    subst e1
    refine w_iconst (v := 1) C dJx4a65c_add_9ea2d_23 (by decide) ?_
    refine w_widen (k := 1) (n := (gcap n)) (by simp) (by simp [hg]) ?_
    exact w_zret C dJx4a65c_add_9ea2d_24 rfl ⟨rfl, adF_new hq ha.1, by rw [hg]; exact lst_grow h h10 hn hd hq he⟩
/-- what clear leaves as it was -/
def clF (z z' : Sto) (a : Nat) : Prop := sL z' = sL z ∧ sK z' = sK z ∧ (∀ g b, (g ≠ 0 ∧ g ≠ 2) ∨ b ≠ a → sI z' g b = sI z g b) ∧ sJ z' = sJ z ∧ sR z' = sR z ∧ sN z' = sN z ∧ sE z' = sE z ∧ sF z' = sF z ∧ ∀ b, sR z 1 a ≠ some b → sQ z' b = sQ z b
set_option maxHeartbeats 4000000 in
set_option maxRecDepth 100000 in
theorem c_clear (l : Launch) (G : Gx) (z : Sto) {a n cap : Nat} {f : Nat → Nat} (h : lst G z a n f cap) : Ct l yJx4a65c_clear_da8c8 wsJx4a65c_clear_da8c8 ({ frames := 0, cells := 0, slots := 0, locals := 0 } : Room) G z [.ref a] (fun rv z' => rv = none ∧ clF z z' a ∧ sI z' 2 a = 0) := by
  refine ct_of (cc := cJx4a65c_clear_da8c8) (maxL := 4) (ret := none) (lv0 := [(0, .ref a)]) (by decide) rfl (by simp [lg_sl, cat_ref, cat_null, cat_int, cat_long, rf_cat]) (by simp [lv_args, cat_ref, cat_null, cat_int, cat_long, rf_cat]) ?_
  intro p e s m args below meth c C hin
  have i0 : ∀ w ∈ u_ws RJx4a65c TJx4a65c 3, w ∈ wsJx4a65c_clear_da8c8 := by decide +kernel
  obtain ⟨ha, hs, hnc, hcap, h9⟩ := id h
  have loop : ∀ (k i : Nat) (z1 : Sto) (dd : Nat), i + k = n → sR z 1 a = some dd → (0 < k → is z dd 9 ∧ n ≤ sN z dd ∧ sN z dd < 2 ^ 31) → clF z z1 a → sI z1 2 a = 0 → Wp p l e ({ frames := 0, cells := 0, slots := 0, locals := 0 } : Room) s m args below meth c G 4 0 0 (MQ below (cPost G (fun rv z' => rv = none ∧ clF z z' a ∧ sI z' 2 a = 0)) args s (0) (0) (gA G)) z1 27 [(3, .int (nI i)), (2, .int (nI n)), (1, .ref dd), (0, .ref a)] [] := by
    intro k
    induction k with
    | zero =>
      intro i z1 dd hik hdd hk hF hz
      have hi : i = n := by omega
      subst hi
      refine w_iload_n C 0 dJx4a65c_clear_da8c8_27 rfl rfl ?_
      refine w_iload_n C 1 dJx4a65c_clear_da8c8_28 rfl rfl ?_
      refine w_icmp_ge (tgt := 42) C dJx4a65c_clear_da8c8_29 (by decide) (fun c1 => ?_) (fun c1 => ?_)
      · exact w_vret C dJx4a65c_clear_da8c8_42 ⟨rfl, hF, hz⟩
      · exact absurd (nI_le (Nat.le_refl i) (by omega)) c1
    | succ k ih =>
      intro i z1 dd hik hdd hk hF hz
      obtain ⟨isd, hl, hb⟩ := hk (by omega)
      have isd1 : is z1 dd 9 := ⟨by rw [hF.1]; exact isd.1, by rw [hF.2.1]; exact isd.2⟩
      have hN1 : sN z1 dd = sN z dd := by rw [hF.2.2.2.2.2.1]
      refine w_iload_n C 0 dJx4a65c_clear_da8c8_27 rfl rfl ?_
      refine w_iload_n C 1 dJx4a65c_clear_da8c8_28 rfl rfl ?_
      refine w_icmp_ge (tgt := 42) C dJx4a65c_clear_da8c8_29 (by decide) (fun c1 => ?_) (fun c1 => ?_)
      · exact absurd c1 (nI_ge (by omega) (by omega))
      · refine w_aload_n C 2 dJx4a65c_clear_da8c8_32 rfl rfl (by first | rfl | exact isRef_rf _) ?_
        refine w_iload_n C 0 dJx4a65c_clear_da8c8_33 rfl rfl ?_
        refine w_null C dJx4a65c_clear_da8c8_34 ?_
        refine w_aastN C dJx4a65c_clear_da8c8_35 isd1 rfl (by omega) (by omega) ?_
        refine w_iincB (v := (nI (i + 1))) (lvq := [(3, _), (2, _), (1, _), (0, _)]) C 0 1 rfl rfl (by first | rfl | exact rf_cat _) dJx4a65c_clear_da8c8_36 rfl (nI_1 i) (by decide) rfl ?_
        refine w_goto (tgt := 27) C dJx4a65c_clear_da8c8_39 (by decide) ?_
        exact w_sub [0, 1, 2, 3] rfl (ih (i + 1) _ dd (by omega) hdd (fun _ => ⟨isd, hl, hb⟩) (by
          obtain ⟨f1, f2, f3, f4, f5, f6, f7, f8, f9⟩ := hF
          refine ⟨f1, f2, f3, f4, f5, f6, f7, f8, fun b hb => ?_⟩
          rw [← f9 b hb]
          funext j
          exact (Q_sQ _ _ _ _ _ _).trans (if_neg (fun q => hb (by rw [hdd, q.1])))) hz)
  obtain ⟨dd, hdd, hk⟩ : ∃ dd, sR z 1 a = some dd ∧ (0 < n → is z dd 9 ∧ n ≤ sN z dd ∧ sN z dd < 2 ^ 31) := by
    rcases h9 with ⟨h0, hd⟩ | ⟨h10, d, hd, isd, hN, hel⟩
    · exact ⟨_, hd, fun q => absurd q (by omega)⟩
    · exact ⟨d, hd, fun _ => ⟨isd, by omega, by omega⟩⟩
  refine w_aload_n C 0 dJx4a65c_clear_da8c8_0 rfl rfl (by first | rfl | exact isRef_rf _) ?_
  refine w_dup C dJx4a65c_clear_da8c8_1 (by first | rfl | exact rf_cat _) ?_
  refine w_getIr (ref := "java/util/ArrayList") (ci := 0) (k := 0) (f := 0) C rfl i0 (by decide +kernel) (by decide +kernel) (by decide) (by decide) rfl rfl dJx4a65c_clear_da8c8_2 ha rfl ?_
  refine w_iconst (v := 1) C dJx4a65c_clear_da8c8_5 (by decide) ?_
  refine w_iadd C dJx4a65c_clear_da8c8_6 ?_
  refine w_putIr (ref := "java/util/ArrayList") (ci := 0) (k := 0) (f := 0) C rfl i0 (by decide +kernel) (by decide +kernel) (by decide) (by decide) rfl rfl tyJx4a65c tyJx4a65c_ok nmJx4a65c rfl rfl rfl dJx4a65c_clear_da8c8_7 ha ?_
  refine w_aload_n C 0 dJx4a65c_clear_da8c8_10 rfl rfl (by first | rfl | exact isRef_rf _) ?_
  refine w_getRs (ci := 0) (k := 1) (f := 1) C rfl i0 (by decide +kernel) (by decide) (by decide) rfl rfl dJx4a65c_clear_da8c8_11 (is_I ha) (rR_I hdd) ?_
  refine w_astore_nB (lvq := [(1, _), (0, _)]) C 0 rfl rfl (by first | rfl | exact rf_cat _) dJx4a65c_clear_da8c8_14 rfl (by first | rfl | exact isRef_rf _) (by decide) rfl ?_
  refine w_aload_n C 1 dJx4a65c_clear_da8c8_15 rfl rfl (by first | rfl | exact isRef_rf _) ?_
  refine w_getI (ci := 0) (k := 2) (f := 2) C rfl i0 (by decide +kernel) (by decide) (by decide) rfl rfl dJx4a65c_clear_da8c8_16 (is_I ha) (rI_If (by decide) hs) ?_
  refine w_istore_nB (lvq := [(2, _), (1, _), (0, _)]) C 0 rfl rfl (by first | rfl | exact rf_cat _) dJx4a65c_clear_da8c8_19 rfl (by decide) rfl ?_
  refine w_aload_n C 2 dJx4a65c_clear_da8c8_20 rfl rfl (by first | rfl | exact isRef_rf _) ?_
  refine w_iconst (v := 0) C dJx4a65c_clear_da8c8_21 (by decide) ?_
  refine w_dup_x1 C dJx4a65c_clear_da8c8_22 (by first | rfl | exact rf_cat _) (by first | rfl | exact rf_cat _) ?_
  refine w_putI (ci := 0) (k := 2) (f := 2) C rfl i0 (by decide +kernel) (by decide) (by decide) rfl rfl tyJx4a65c tyJx4a65c_ok nmJx4a65c rfl rfl rfl dJx4a65c_clear_da8c8_23 (is_I ha) ?_
  refine w_istore_nB (lvq := [(3, _), (2, _), (1, _), (0, _)]) C 0 rfl rfl (by first | rfl | exact rf_cat _) dJx4a65c_clear_da8c8_26 rfl (by decide) rfl ?_
  exact w_sub [0, 1, 2, 3] rfl (loop n 0 _ dd (by omega) hdd hk ⟨rfl, rfl, fun g b hg => by
    rw [I_pI, I_pI]
    rcases hg with ⟨h0, h2⟩ | hg
    · rw [if_neg (fun q => h2 q.1), if_neg (fun q => h0 q.1)]
    · rw [if_neg (fun q => hg q.2), if_neg (fun q => hg q.2)], rfl, rfl, rfl, rfl, rfl, fun _ _ => rfl⟩ (by rw [I_pI, if_pos ⟨rfl, rfl⟩]))
