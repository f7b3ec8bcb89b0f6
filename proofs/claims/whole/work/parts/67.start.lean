/-! ===== THE LAW'S LOOP, AND ITS ENTRY ===== -/
theorem w_lawret {p : Program} {l : Launch} {e : Env} {s : State} {m : MethodId} {below : List Frame} {meth : Method} {c : Code} {G : Gx} {b cells slots : Nat} {z : Sto} {lv : List (Nat × Value)} (C : Cx p s m #[Value.ref b] meth c cL_law 7 wsL_law RL ret G) (hGs : G.2.2.1 = s.heap.size) (hc : cells ≤ 601024) (hs : slots ≤ 7293034) : Wp p l e room_1 s m #[Value.ref b] below meth c G 7 cells slots (lw_Z below #[Value.ref b] s) z 671 lv [.int 1] := fun H locs ls hp hl => va_forget (fun q hq => by
  have h9 : G.2.2.1 ≤ q.base := hp.2.2.2 q hq
  rw [hGs] at h9
  exact h9) (W.widen (k := 601024) (n := 7293034) hc hs (lw_ret C.1.1 C.1.2.1 C.2.2.2.2.2 C.2.2.2.2.1 dL_law_671))
set_option maxHeartbeats 4000000 in
set_option maxRecDepth 100000 in
theorem law_loop {p : Program} {l : Launch} {e : Env} {s : State} {m : MethodId} {below : List Frame} {meth : Method} {c : Code} {G : Gx} {b L x mo o : Nat} {xs : Nat → Int32} (C : Cx p s m #[Value.ref b] meth c cL_law 7 wsL_law RL ret G) (hX : va_X b L xs s s.heap) (hbl : b < s.heap.size) (hGs : G.2.2.1 = s.heap.size) (hL : L ≤ 2048) (hl9 : l.stackTraces = false) : ∀ (r k : Nat) (z : Sto), k ≤ 512 → L < 4 * k + 4 * r + 4 → lwI G z x mo o → Wp p l e room_1 s m #[Value.ref b] below meth c G 7 (20 + 901 * k) (11500 + 3602 * k) (lw_Z below #[Value.ref b] s) z 23 [(4, .int (nI (4 * k))), (3, .ref o), (2, .ref mo), (1, .ref x), (0, .ref b)] [] := by
  have exit9 : ∀ (k : Nat) (z : Sto), k ≤ 512 → L < 4 * k + 4 → Wp p l e room_1 s m #[Value.ref b] below meth c G 7 (20 + 901 * k) (11500 + 3602 * k) (lw_Z below #[Value.ref b] s) z 23 [(4, .int (nI (4 * k))), (3, .ref o), (2, .ref mo), (1, .ref x), (0, .ref b)] [] := by
    intro k z hk hlt
    refine w_iload C 0 dL_law_23 rfl ?_
    refine w_aload_n C 4 dL_law_25 rfl rfl (by first | rfl | exact isRef_rf _) ?_
    refine w_slen C hX hbl hGs dL_law_26 ?_
    refine w_iconst (v := 4) C dL_law_27 (by decide) ?_
    refine w_isub C dL_law_28 ?_
    refine w_icmp_gt (tgt := 670) C dL_law_29 (by decide) (fun c1 => ?_) (fun c1 => ?_)
    · refine w_iconst (v := 1) C dL_law_670 (by decide) ?_
      exact w_lawret C hGs (by omega) (by omega)
    · exact absurd ((sub4 hL (by omega)).mpr hlt) c1
  intro r
  induction r with
  | zero => intro k z hk hlt _; exact exit9 k z hk (by omega)
  | succ r ih =>
    intro k z hk5 hlt hI
    by_cases hx9 : L < 4 * k + 4
    · exact exit9 k z hk5 hx9
    · have hk : 4 * k + 4 ≤ L := by omega
      have k664 : ∀ z', lwI G z' x mo o → Wp p l e room_1 s m #[Value.ref b] below meth c G 7 (20 + 901 * (k + 1)) (11500 + 3602 * (k + 1)) (lw_Z below #[Value.ref b] s) z' 664 [(4, .int (nI (4 * k))), (3, .ref o), (2, .ref mo), (1, .ref x), (0, .ref b)] [] := by
        intro z' hI9
        refine w_iincB (v := nI (4 * (k + 1))) (lvq := [(4, _), (3, _), (2, _), (1, _), (0, _)]) C 0 1 rfl rfl (by first | rfl | exact rf_cat _) dL_law_664 rfl (show nI (4 * k) + 4 = nI (4 * (k + 1)) from nI_p (4 * k) 4) (by decide) rfl ?_
        refine w_goto (tgt := 23) C dL_law_667 (by decide) ?_
        exact w_sub [0, 1, 2, 3, 4] rfl (ih (k + 1) z' (by omega) (by omega) hI9)
      refine w_iload C 0 dL_law_23 rfl ?_
      refine w_aload_n C 4 dL_law_25 rfl rfl (by first | rfl | exact isRef_rf _) ?_
      refine w_slen C hX hbl hGs dL_law_26 ?_
      refine w_iconst (v := 4) C dL_law_27 (by decide) ?_
      refine w_isub C dL_law_28 ?_
      refine w_icmp_gt (tgt := 670) C dL_law_29 (by decide) (fun c1 => ?_) (fun c1 => ?_)
      · exact absurd ((sub4 hL (by omega)).mp c1) hx9
      · refine w_aload_n C 4 dL_law_32 rfl rfl (by first | rfl | exact isRef_rf _) ?_
        refine w_iload C 0 dL_law_33 rfl ?_
        refine w_sld (n := 4 * k) C hX hbl hGs hL rfl (by omega) dL_law_35 ?_
        refine w_bipush (v := 15) C dL_law_36 (by decide) ?_
        refine w_iand C dL_law_38 ?_
        obtain ⟨j, hj, ej⟩ := and15 (xs (4 * k))
        refine w_inti ej ?_
        match j, hj with
        | 0, _ => exact w_tableIn (off := 61) (tgt := 100) C dL_law_39 (by decide) (by decide) (by decide) (by decide) (lw_gate C hX hbl hGs hL hl9 hk hI k664)
        | 1, _ => exact w_tableIn (off := 117) (tgt := 156) C dL_law_39 (by decide) (by decide) (by decide) (by decide) (lw_feed C hX hbl hGs hL hl9 hk hI k664)
        | 2, _ => exact w_tableIn (off := 213) (tgt := 252) C dL_law_39 (by decide) (by decide) (by decide) (by decide) (lw_cut C hX hbl hGs hL hl9 hk hI k664)
        | 3, _ => exact w_tableIn (off := 269) (tgt := 308) C dL_law_39 (by decide) (by decide) (by decide) (by decide) (lw_set C hX hbl hGs hL hl9 hk hI k664)
        | 4, _ => exact w_tableIn (off := 337) (tgt := 376) C dL_law_39 (by decide) (by decide) (by decide) (by decide) (lw_value C hX hbl hGs hL hl9 hk hI k664)
        | 5, _ => exact w_tableIn (off := 393) (tgt := 432) C dL_law_39 (by decide) (by decide) (by decide) (by decide) (lw_round C hX hbl hGs hL hl9 hk hI k664)
        | 6, _ => exact w_tableIn (off := 449) (tgt := 488) C dL_law_39 (by decide) (by decide) (by decide) (by decide) (lw_step C hX hbl hGs hL hl9 hk hI k664)
        | 7, _ => exact w_tableIn (off := 462) (tgt := 501) C dL_law_39 (by decide) (by decide) (by decide) (by decide) (lw_reset C hX hbl hGs hL hl9 hk hI k664)
        | 8, _ => exact w_tableIn (off := 475) (tgt := 514) C dL_law_39 (by decide) (by decide) (by decide) (by decide) (lw_blame C hX hbl hGs hL hl9 hk hI k664)
        | 9, _ => exact w_tableIn (off := 531) (tgt := 570) C dL_law_39 (by decide) (by decide) (by decide) (by decide) (lw_cycle C hX hbl hGs hL hl9 hk hI k664)
        | 10, _ => exact w_tableIn (off := 587) (tgt := 626) C dL_law_39 (by decide) (by decide) (by decide) (by decide) (lw_choices C hX hbl hGs hL hl9 hk hI k664)
        | 11, _ => exact w_tableIn (off := 600) (tgt := 639) C dL_law_39 (by decide) (by decide) (by decide) (by decide) (lw_count C hX hbl hGs hL hl9 hk hI k664)
        | 12, _ => exact w_tableOut (tgt := 664) C dL_law_39 (Or.inr (by decide)) (by decide) (w_widen (k := 20 + 901 * (k + 1)) (n := 11500 + 3602 * (k + 1)) (by omega) (by omega) (k664 z hI))
        | 13, _ => exact w_tableOut (tgt := 664) C dL_law_39 (Or.inr (by decide)) (by decide) (w_widen (k := 20 + 901 * (k + 1)) (n := 11500 + 3602 * (k + 1)) (by omega) (by omega) (k664 z hI))
        | 14, _ => exact w_tableOut (tgt := 664) C dL_law_39 (Or.inr (by decide)) (by decide) (w_widen (k := 20 + 901 * (k + 1)) (n := 11500 + 3602 * (k + 1)) (by omega) (by omega) (k664 z hI))
        | 15, _ => exact w_tableOut (tgt := 664) C dL_law_39 (Or.inr (by decide)) (by decide) (w_widen (k := 20 + 901 * (k + 1)) (n := 11500 + 3602 * (k + 1)) (by omega) (by omega) (k664 z hI))
        | n + 16, h => exact absurd h (by omega)
/-- nothing made yet -/
def z00 : Sto := ([], fun _ => 0, fun _ _ => 0, fun _ _ => 0, fun _ _ => none, fun _ => 0, fun _ _ => 0, fun _ _ => 0, fun _ _ => none)
theorem oF_nA {z : Sto} {q k n : Nat} {f : Nat → Option Nat} (h : q ∉ sL z) : oF z (newA z q k n f) := by
  have hne : ∀ b, b ∈ sL z → ¬ b = q := fun b hb e => h (e ▸ hb)
  exact ⟨fun b k' hb => is_newA hb h, fun f b hb => ⟨rfl, rfl, rfl⟩, fun b hb => ⟨if_neg (hne b hb), funext fun i => if_neg (hne b hb), funext fun i => if_neg (hne b hb), funext fun i => if_neg (hne b hb)⟩⟩
set_option maxHeartbeats 4000000 in
set_option maxRecDepth 100000 in
theorem law_start {p : Program} {l : Launch} {e : Env} {s : State} {m : MethodId} {below : List Frame} {meth : Method} {c : Code} {G : Gx} {b L : Nat} {xs : Nat → Int32} (C : Cx p s m #[Value.ref b] meth c cL_law 7 wsL_law RL ret G) (hX : va_X b L xs s s.heap) (hbl : b < s.heap.size) (hGs : G.2.2.1 = s.heap.size) (hL : L ≤ 2048) (hl9 : l.stackTraces = false) : Wp p l e room_1 s m #[Value.ref b] below meth c G 7 0 0 (lw_Z below #[Value.ref b] s) z00 0 [(0, .ref b)] [] := by
  have i5 := inlX4
  have i6 := inlX5
  refine w_new (ci := 5) C rfl i5 tyX4 tyX4_ok (by decide +kernel) (by decide +kernel) (by decide +kernel) (by decide) fd5 dL_law_0 (Nat.le_of_ble_eq_true rfl) (Nat.le_of_ble_eq_true rfl) (fun x hx0 hxlow => ?_)
  have hx1 : is (newO z00 x 5) x 5 := is_newO_self z00 x 5
  refine w_dup C dL_law_3 (by first | rfl | exact rf_cat _) ?_
  refine w_callI (As := []) (b := x) (rest := [.ref x]) C (cwI 0 C.1.2.2.2.2 gL_law_X4_init rfl rfl rfl (C.1.2.2.2.2 _ (by decide +kernel)) (C.1.2.2.2.2 _ (by decide +kernel)) (C.1.2.2.2.2 _ (by decide +kernel)) rfl (by decide +kernel) ⟨Nat.le_of_ble_eq_true rfl, Nat.le_of_ble_eq_true rfl⟩) rfl rfl (by first | decide | simp [cat_ref, cat_null, cat_int, cat_long, rf_cat]) dL_law_4 ⟨Nat.le_of_ble_eq_true rfl, Nat.le_of_ble_eq_true rfl⟩ (c_Net_init l G _ hx1) (fun rv z1 h9 => ?_)
  obtain ⟨rfl, hk1, gl, pt, ol, hN1⟩ := h9
  refine w_astore_nB (lvq := [(1, _), (0, _)]) C 0 rfl rfl (by first | rfl | exact rf_cat _) dL_law_7 rfl (by first | rfl | exact isRef_rf _) (by decide) rfl ?_
  refine w_new (ci := 6) C rfl i6 tyX5 tyX5_ok (by decide +kernel) (by decide +kernel) (by decide +kernel) (by decide) fd6 dL_law_8 (Nat.le_of_ble_eq_true rfl) (Nat.le_of_ble_eq_true rfl) (fun mo hm0 hmlow => ?_)
  have hm1 : is (newO z1 mo 6) mo 6 := is_newO_self z1 mo 6
  refine w_sep C (fun hE2 => ?_)
  have hN2 := netI_mk hN1 (oF_new (k := 6) hm0).mkF hE2
  refine w_dup C dL_law_11 (by first | rfl | exact rf_cat _) ?_
  refine w_callI (As := []) (b := mo) (rest := [.ref mo]) C (cwI 0 C.1.2.2.2.2 gL_law_X5_init rfl rfl rfl (C.1.2.2.2.2 _ (by decide +kernel)) (C.1.2.2.2.2 _ (by decide +kernel)) (C.1.2.2.2.2 _ (by decide +kernel)) rfl (by decide +kernel) ⟨Nat.le_of_ble_eq_true rfl, Nat.le_of_ble_eq_true rfl⟩) rfl rfl (by first | decide | simp [cat_ref, cat_null, cat_int, cat_long, rf_cat]) dL_law_12 ⟨Nat.le_of_ble_eq_true rfl, Nat.le_of_ble_eq_true rfl⟩ (c_minit l G _ hm1 (fun f => by rw [I_nO, if_pos rfl])) (fun rv z3 h9 => ?_)
  obtain ⟨rfl, A, hmk, hms⟩ := h9
  refine w_sep C (fun hE3 => ?_)
  have hN3 := netI_mk hN2 hmk hE3
  refine w_astore_nB (lvq := [(2, _), (1, _), (0, _)]) C 0 rfl rfl (by first | rfl | exact rf_cat _) dL_law_15 rfl (by first | rfl | exact isRef_rf _) (by decide) rfl ?_
  refine w_iconst (v := 1) C dL_law_16 (by decide) ?_
  refine w_newa (atype := .long) (ty := .long) (t0 := 3) (kind := 10) (N' := 1) (x := (1, .inr (.inl (fun _ => 0)))) C (by decide +kernel) rfl rfl (fun C9 h9 => by cases h9) (hx10 1) (fun q => ent_nA10 _ _ _ _ _) (show (1 : Int32) = nI 1 from rfl) (by decide) (by decide) (Nat.le_of_ble_eq_true rfl) (Nat.le_of_ble_eq_true rfl) dL_law_17 (fun o ho0 holow => ?_)
  have hoA := oF_nA (k := 10) (n := 1) (f := fun _ => none) ho0
  have ho1 : is (newA z3 o 10 1 (fun _ => none)) o 10 := is_newA_self _ _ _ _ _
  have hn1 : sN (newA z3 o 10 1 (fun _ => none)) o = 1 := if_pos rfl
  refine w_sep C (fun hE4 => ?_)
  have hN4 := netI_mk hN3 hoA.mkF hE4
  obtain ⟨h01, hII⟩ := mst_lF hms hoA.kfr.toL
  refine w_astore_nB (lvq := [(3, _), (2, _), (1, _), (0, _)]) C 0 rfl rfl (by first | rfl | exact rf_cat _) dL_law_19 rfl (by first | rfl | exact isRef_rf _) (by decide) rfl ?_
  refine w_iconst (v := 0) C dL_law_20 (by decide) ?_
  refine w_istoreB (lvq := [(4, _), (3, _), (2, _), (1, _), (0, _)]) C 0 rfl rfl (by first | rfl | exact rf_cat _) dL_law_21 (by decide) rfl ?_
  refine w_widen (k := 20 + 901 * 0) (n := 11500 + 3602 * 0) (Nat.le_of_ble_eq_true rfl) (Nat.le_of_ble_eq_true rfl) ?_
  exact w_sub [0, 1, 2, 3, 4] rfl (law_loop C hX hbl hGs hL hl9 512 0 _ (by omega) (by omega) ⟨_, _, _, _, _, _, _, _, hN4, h01, mv_cg mv_00 hII, ho1, hn1⟩)
set_option maxHeartbeats 4000000 in
set_option maxRecDepth 100000 in
theorem whole_start {p : Program} {e : Env} {s : State} {m : MethodId} {below : List Frame} {meth : Method} {c : Code} (l : Launch) (hl9 : l.stackTraces = false) {b L : Nat} {xs : Nat → Int32} (hL : L ≤ 2048) (C0 : lw_At p s m meth c b L xs) : W p l e room_1 s m #[Value.ref b] below meth c s.heap [] 0 0 (lw_Z below #[Value.ref b] s) (entryFrame m ([Value.ref b] : List Value).toArray 7) := by
  obtain ⟨hx, hb, hr, hml, hown, hts, hX, hbl, hlocks, hgv⟩ := id C0
  have hA : ∀ a : Nat, a < s.heap.size → ¬ (fun q : Nat => s.heap.size ≤ q) a := fun a h => Nat.not_le.mpr h
  have hs := flat_of_before _ hgv
  obtain ⟨c0, i0, k0⟩ := u_known (C := RJx4a65c) (T := TJx4a65c) (N := 3) (n := 3) hts inJx4a65c (hts (.instantiable RJx4a65c 3) (by decide +kernel))
  obtain ⟨c1, i1, k1⟩ := u_known (C := RX0) (T := TX0) (N := 3) (n := 3) hts inX0 (hts (.instantiable RX0 3) (by decide +kernel))
  obtain ⟨c2, i2, k2⟩ := u_known (C := RX1) (T := TX1) (N := 17) (n := 17) hts inX1 (hts (.instantiable RX1 17) (by decide +kernel))
  obtain ⟨c3, i3, k3⟩ := u_known (C := RX2) (T := TX2) (N := 2) (n := 2) hts inX2 (hts (.instantiable RX2 2) (by decide +kernel))
  obtain ⟨c4, i4, k4⟩ := u_known (C := RX3) (T := TX3) (N := 4) (n := 4) hts inX3 (hts (.instantiable RX3 4) (by decide +kernel))
  obtain ⟨c5, i5, k5⟩ := u_known (C := RX4) (T := TX4) (N := 9) (n := 9) hts inX4 (hts (.instantiable RX4 9) (by decide +kernel))
  obtain ⟨c6, i6, k6⟩ := u_known (C := RX5) (T := TX5) (N := 16) (n := 16) hts inX5 (hts (.instantiable RX5 16) (by decide +kernel))
  obtain ⟨dC, dI, hKc⟩ : ∃ (dC : Nat → ClassId) (dI : Nat → Nat → Nat), ∀ (k : Nat) (q : vw_C), vwCl[k]? = some q → u_Kn s q.1 q.2.1 q.2.2 (dC k) (dI k) := by
    refine ⟨fun k => match k with | 0 => c0 | 1 => c1 | 2 => c2 | 3 => c3 | 4 => c4 | 5 => c5 | _ => c6, fun k => match k with | 0 => i0 | 1 => i1 | 2 => i2 | 3 => i3 | 4 => i4 | 5 => i5 | _ => i6, ?_⟩
    intro k q hq
    match k, hq with
    | 0, hq => cases hq; exact k0
    | 1, hq => cases hq; exact k1
    | 2, hq => cases hq; exact k2
    | 3, hq => cases hq; exact k3
    | 4, hq => cases hq; exact k4
    | 5, hq => cases hq; exact k5
    | 6, hq => cases hq; exact k6
    | k + 7, hq => simp [vwCl] at hq
  obtain ⟨a0, ka0, cm0, fa0, ga0, ha0⟩ := Cond.arrayClass_spec (hts (.arrayClass .int) (by decide +kernel))
  obtain ⟨a1, ka1, cm1, fa1, ga1, ha1⟩ := Cond.arrayClass_spec (hts (.arrayClass .boolean) (by decide +kernel))
  obtain ⟨a3, ka3, cm3, fa3, ga3, ha3⟩ := Cond.arrayClass_spec (hts (.arrayClass .long) (by decide +kernel))
  have hAO := hts (.arrayOver (.object "java/lang/Object")) (by decide +kernel)
  obtain ⟨cm2, a2, ka2, fc2, -, ga2, ha2, fa2⟩ := Cond.arrayOver_spec hAO
  obtain ⟨t0, e0, T0⟩ := va_Tof (A := fun q : Nat => s.heap.size ≤ q) (tm := .static "java/util/ArrayList" "DEFAULTCAPACITY_EMPTY_ELEMENTDATA" "[Ljava/lang/Object;") (ty := .object "java/lang/Object") (N := 0) (f := fun _ => .null) (by decide) (hs _ (by decide +kernel)) (va_eqt (hs (.eq (.length (.static "java/util/ArrayList" "DEFAULTCAPACITY_EMPTY_ELEMENTDATA" "[Ljava/lang/Object;")) (.int 0)) (by decide +kernel))) (fun j hj => absurd hj (Nat.not_lt_zero j)) hA
  have hel : ∀ j : Nat, j < 6 → (Term.elem (.static "TernaryNet$Lanes" "LANE_BITS" "[J") (.int (Int32.ofNat j))).eval #[Value.ref b] s none [] s = some (.long (lBits j)) := by
    intro j hj
    match j, hj with
    | 0, _ => exact va_eqtl (hs (.eq (.elem (.static "TernaryNet$Lanes" "LANE_BITS" "[J") (.int 0)) (.long (-6148914691236517206))) (by decide +kernel))
    | 1, _ => exact va_eqtl (hs (.eq (.elem (.static "TernaryNet$Lanes" "LANE_BITS" "[J") (.int 1)) (.long (-3689348814741910324))) (by decide +kernel))
    | 2, _ => exact va_eqtl (hs (.eq (.elem (.static "TernaryNet$Lanes" "LANE_BITS" "[J") (.int 2)) (.long (-1085102592571150096))) (by decide +kernel))
    | 3, _ => exact va_eqtl (hs (.eq (.elem (.static "TernaryNet$Lanes" "LANE_BITS" "[J") (.int 3)) (.long (-71777214294589696))) (by decide +kernel))
    | 4, _ => exact va_eqtl (hs (.eq (.elem (.static "TernaryNet$Lanes" "LANE_BITS" "[J") (.int 4)) (.long (-281470681808896))) (by decide +kernel))
    | 5, _ => exact va_eqtl (hs (.eq (.elem (.static "TernaryNet$Lanes" "LANE_BITS" "[J") (.int 5)) (.long (-4294967296))) (by decide +kernel))
    | j + 6, hj => exact absurd hj (by omega)
  obtain ⟨t1, e1, T1⟩ := va_Tof (A := fun q : Nat => s.heap.size ≤ q) (tm := .static "TernaryNet$Lanes" "LANE_BITS" "[J") (ty := .long) (N := 6) (f := fun j => .long (lBits j)) (by decide) (hs _ (by decide +kernel)) (va_eqt (hs (.eq (.length (.static "TernaryNet$Lanes" "LANE_BITS" "[J")) (.int 6)) (by decide +kernel))) hel hA
  obtain ⟨mi, hmi⟩ := va_Mi.of (hs (.isRef (.mirror "[Ljava/lang/Object;")) (by decide +kernel))
  obtain ⟨s0, -, -, -, es0, -⟩ := Cond.exactly_spec (hs (.exactly (.string "TernaryNet" 48) "java/lang/String") (by decide +kernel))
  have vs0 : vk_R RX4 48 "no such sort" s0 s := vk_R.of (hts (.stringRef RX4 48 "no such sort") (by decide +kernel)) es0
  obtain ⟨s1, -, -, -, es1, -⟩ := Cond.exactly_spec (hs (.exactly (.string "TernaryNet" 147) "java/lang/String") (by decide +kernel))
  have vs1 : vk_R RX4 147 "no such gate" s1 s := vk_R.of (hts (.stringRef RX4 147 "no such gate") (by decide +kernel)) es1
  obtain ⟨s2, -, -, -, es2, -⟩ := Cond.exactly_spec (hs (.exactly (.string "TernaryNet" 82) "java/lang/String") (by decide +kernel))
  have vs2 : vk_R RX4 82 "the gate takes no feed" s2 s := vk_R.of (hts (.stringRef RX4 82 "the gate takes no feed") (by decide +kernel)) es2
  obtain ⟨s3, -, -, -, es3, -⟩ := Cond.exactly_spec (hs (.exactly (.string "TernaryNet" 96) "java/lang/String") (by decide +kernel))
  have vs3 : vk_R RX4 96 "the gate is no input" s3 s := vk_R.of (hts (.stringRef RX4 96 "the gate is no input") (by decide +kernel)) es3
  obtain ⟨s4, -, -, -, es4, -⟩ := Cond.exactly_spec (hs (.exactly (.string "TernaryNet" 98) "java/lang/String") (by decide +kernel))
  have vs4 : vk_R RX4 98 "no such value" s4 s := vk_R.of (hts (.stringRef RX4 98 "no such value") (by decide +kernel)) es4
  obtain ⟨cy, hcy⟩ : ∃ cy : Nat → ClassId, cy = fun k => match k with | 0 => a0 | 1 => a1 | 2 => a2 | _ => a3 := ⟨_, rfl⟩
  obtain ⟨fn, hfn⟩ : ∃ fn : Nat → Nat, fn = fun k => match k with | 0 => t0 | 1 => t1 | 2 => mi | 3 => s0 | 4 => s1 | 5 => s2 | 6 => s3 | _ => s4 := ⟨_, rfl⟩
  have y0 : cy 0 = a0 := congrFun hcy 0
  have y1 : cy 1 = a1 := congrFun hcy 1
  have y2 : cy 2 = a2 := congrFun hcy 2
  have y3 : cy 3 = a3 := congrFun hcy 3
  have n0 : fn 0 = t0 := congrFun hfn 0
  have n1 : fn 1 = t1 := congrFun hfn 1
  have n2 : fn 2 = mi := congrFun hfn 2
  have n3 : fn 3 = s0 := congrFun hfn 3
  have n4 : fn 4 = s1 := congrFun hfn 4
  have n5 : fn 5 = s2 := congrFun hfn 5
  have n6 : fn 6 = s3 := congrFun hfn 6
  have n7 : fn 7 = s4 := congrFun hfn 7
  have hK : va_K (dC, dI) vwCl (tysx cy) s := by
    refine ⟨hKc, fun k q h => ?_⟩
    match k, h with
    | 0, h => cases h; rw [y0]; exact ⟨fun n z => ⟨fun k h => (by cases h), ka0, ga0, cm0, ha0⟩, fa0⟩
    | 1, h => cases h; rw [y1]; exact ⟨fun n z => ⟨fun k h => (by cases h), ka1, ga1, cm1, ha1⟩, fa1⟩
    | 2, h => cases h; rw [y2]; exact ⟨fun n z => ⟨fun k h => (by cases h), ka2, ga2, cm2, ha2⟩, ka2, cm2, ga2, ha2, fc2, fa2⟩
    | 3, h => cases h; rw [y3]; exact ⟨fun n z => ⟨fun k h => (by cases h), ka3, ga3, cm3, ha3⟩, fa3⟩
    | k + 4, h => simp [tysx] at h
  have hSy : Sy s := ⟨⟨va_Nw.of rfl (hts (.declares (Bundle.initS "java/lang/RuntimeException")) (by decide +kernel)), va_Nw.of rfl (hts (.declares (Bundle.initS "java/lang/Exception")) (by decide +kernel)), va_Nw.of rfl (hts (.declares (Bundle.initS Bundle.tN)) (by decide +kernel))⟩,
    ⟨va_Nw.of rfl (hts (.castable "java/lang/IllegalArgumentException" "java/lang/IllegalArgumentException") (by decide +kernel)), va_Nw.of rfl (hts (.castable "java/lang/IllegalStateException" "java/lang/IllegalStateException") (by decide +kernel)), va_Nw.of rfl (hts (.castable "java/lang/IndexOutOfBoundsException" "java/lang/IndexOutOfBoundsException") (by decide +kernel))⟩,
    ⟨va_Nc.of (hs (.not (.castable "java/lang/IllegalStateException" "java/lang/IndexOutOfBoundsException")) (by decide +kernel)), va_Nc.of (hs (.not (.castable "java/lang/IllegalArgumentException" "java/lang/IndexOutOfBoundsException")) (by decide +kernel))⟩, va_Nw.of rfl (hts (.methodLinkNest RX4 18 yX3_init "TernaryNet") (by decide +kernel))⟩
  have hSx : Sx ((dC, dI), cy, s.heap.size, fn) s s.heap := by
    refine ⟨⟨?_, ?_⟩, ⟨?_, ?_⟩, ⟨vx_Zqof (hts (.laysStatic Bundle.tN "UNASSIGNED_STACK" Bundle.steD) (by decide +kernel)) (hts (.initialized Bundle.tN) (by decide +kernel)) (hs (.isRef (.static Bundle.tN "UNASSIGNED_STACK" Bundle.steD)) (by decide +kernel)) hA, vx_Zqof (hts (.laysStatic Bundle.tN "SUPPRESSED_SENTINEL" Bundle.listD) (by decide +kernel)) (hts (.initialized Bundle.tN) (by decide +kernel)) (hs (.isRef (.static Bundle.tN "SUPPRESSED_SENTINEL" Bundle.listD)) (by decide +kernel)) hA⟩, ⟨va_AO.of hAO, va_Nw.of rfl (hts (.castable RX1 "java/lang/Object") (by decide +kernel)), ?_, va_Dc.of (hts (.declares ⟨"java/lang/Object", "getClass", "()Ljava/lang/Class;"⟩) (by decide +kernel))⟩, ?_, ?_, ?_, ?_, ?_, hSy⟩
    · show va_Z _ _ _ (.ref (fn 0)) _ _ _; rw [n0]; exact va_Zref (hts (.laysStatic "java/util/ArrayList" "DEFAULTCAPACITY_EMPTY_ELEMENTDATA" "[Ljava/lang/Object;") (by decide +kernel)) (hts (.initialized "java/util/ArrayList") (by decide +kernel)) e0 hA
    · show va_T _ (fn 0) _ _ _ _ _; rw [n0]; exact T0
    · show va_Z _ _ _ (.ref (fn 1)) _ _ _; rw [n1]; exact va_Zref (hts (.laysStatic "TernaryNet$Lanes" "LANE_BITS" "[J") (by decide +kernel)) (hts (.initialized "TernaryNet$Lanes") (by decide +kernel)) e1 hA
    · show va_T _ (fn 1) _ _ _ _ _; rw [n1]; exact T1
    · show va_Mi _ (fn 2) _; rw [n2]; exact hmi
    · show vk_R _ _ _ (fn 3) _; rw [n3]; exact vs0
    · show vk_R _ _ _ (fn 4) _; rw [n4]; exact vs1
    · show vk_R _ _ _ (fn 5) _; rw [n5]; exact vs2
    · show vk_R _ _ _ (fn 6) _; rw [n6]; exact vs3
    · show vk_R _ _ _ (fn 7) _; rw [n7]; exact vs4
  have C : Cx p s m #[Value.ref b] meth c cL_law 7 wsL_law RL ret ((dC, dI), cy, s.heap.size, fn) := ⟨⟨hx, hb, hml, hown, fun w hw => hts w (wsL_law_in w hw)⟩, hK, Nat.le_refl _, hSx, hlocks, hr⟩
  have hPD : PD ((dC, dI), cy, s.heap.size, fn) z00 s.heap := ⟨fun k q h => by simp [z00, sL, va_pl] at h, fun i j p q h => by simp [z00, sL, va_pl] at h, fun k q h => by simp [z00, sL, va_pl] at h⟩
  have hl := lv_entry ([.ref b]) (n := 7) (Nat.le_of_ble_eq_true rfl)
  rw [lg_entry_eq]
  exact law_start C hX hbl rfl hL hl9 s.heap [] _ ⟨hPD, va_S.rf⟩ hl
