/-! ===== the reference: cut ===== -/
def kpL (N : NT) (i q : Nat) : List (Nat × Nat × Int32) := ((nFL N).take q).filter (fun t => !decide (t.1 = i))
theorem kpL_s (N : NT) (i : Nat) {q : Nat} (h : q < (nFL N).length) : kpL N i (q + 1) = if tk N q = i then kpL N i q else kpL N i q ++ [(tk N q, fk N q, gk N q)] := by
  have e : (nFL N).getD q (0, 0, 0) = (nFL N)[q] := by rw [List.getD_eq_getElem?_getD, List.getElem?_eq_getElem h]; rfl
  have e2 : (nFL N)[q] = (tk N q, fk N q, gk N q) := by unfold tk fk gk; rw [e]
  unfold kpL
  rw [List.take_succ_eq_append_getElem h, List.filter_append, e2]
  by_cases hq : tk N q = i
  · rw [if_pos hq]
    have : [(tk N q, fk N q, gk N q)].filter (fun t => !decide (t.1 = i)) = [] := by simp [hq]
    rw [this, List.append_nil]
  · rw [if_neg hq]
    have : [(tk N q, fk N q, gk N q)].filter (fun t => !decide (t.1 = i)) = [(tk N q, fk N q, gk N q)] := by simp [hq]
    rw [this]
theorem kpL_le (N : NT) (i q : Nat) : (kpL N i q).length ≤ q := Nat.le_trans (List.length_filter_le _ _) (by rw [List.length_take]; exact Nat.min_le_left _ _)
theorem kpL_end (N : NT) (i : Nat) : kpL N i (nFL N).length = nFL (nCut N i) := by unfold kpL; rw [List.take_length]; rfl
/-- the feeds' arrays behind q steps of the cut -/
def cutI (N : NT) (i q : Nat) (M M1 : Nat → Nat → Int32) : Prop :=
  kx [198, 199, 200] M M1 ∧ (∀ j, j < (kpL N i q).length → M1 198 j = nI ((kpL N i q).getD j (0, 0, 0)).1 ∧ M1 199 j = nI ((kpL N i q).getD j (0, 0, 0)).2.1 ∧ M1 200 j = ((kpL N i q).getD j (0, 0, 0)).2.2) ∧ ∀ j, q ≤ j → j < (nFL N).length → M1 198 j = nI (tk N j) ∧ M1 199 j = nI (fk N j) ∧ M1 200 j = gk N j
theorem cutI_0 {N : NT} {I : Nat → Int32} {M : Nat → Nat → Int32} (h : mv I M N) (i : Nat) : cutI N i 0 M M := ⟨kx.rf _ _, fun j hj => absurd (Nat.lt_of_lt_of_le hj (kpL_le N i 0)) (Nat.not_lt_zero _), fun j _ hj => h.2.2 j hj⟩
theorem cutI_gone {N : NT} {i q : Nat} {M M1 : Nat → Nat → Int32} (h : cutI N i q M M1) (hq : q < (nFL N).length) (he : tk N q = i) : cutI N i (q + 1) M M1 ∧ (kpL N i (q + 1)).length = (kpL N i q).length := by
  obtain ⟨h1, h2, h3⟩ := h
  have e : kpL N i (q + 1) = kpL N i q := by rw [kpL_s N i hq, if_pos he]
  refine ⟨⟨h1, ?_, fun j hj => h3 j (by omega)⟩, by rw [e]⟩
  rw [e]
  exact h2
theorem cutI_kept {N : NT} {i q : Nat} {M M1 : Nat → Nat → Int32} (h : cutI N i q M M1) (hq : q < (nFL N).length) (he : ¬ tk N q = i) : cutI N i (q + 1) M (u2 (u2 (u2 M1 198 (kpL N i q).length (nI (tk N q))) 199 (kpL N i q).length (nI (fk N q))) 200 (kpL N i q).length (gk N q)) ∧ (kpL N i (q + 1)).length = (kpL N i q).length + 1 := by
  obtain ⟨h1, h2, h3⟩ := h
  have e : kpL N i (q + 1) = kpL N i q ++ [(tk N q, fk N q, gk N q)] := by rw [kpL_s N i hq, if_neg he]
  have hle := kpL_le N i q
  have el : (kpL N i (q + 1)).length = (kpL N i q).length + 1 := by rw [e, List.length_append]; rfl
  have r1 : ∀ j, u2 (u2 (u2 M1 198 (kpL N i q).length (nI (tk N q))) 199 (kpL N i q).length (nI (fk N q))) 200 (kpL N i q).length (gk N q) 198 j = u2 M1 198 (kpL N i q).length (nI (tk N q)) 198 j := fun j => by rw [u3_f (show (198 : Nat) ≠ 200 by decide), u3_f (show (198 : Nat) ≠ 199 by decide)]
  have r2 : ∀ j, u2 (u2 (u2 M1 198 (kpL N i q).length (nI (tk N q))) 199 (kpL N i q).length (nI (fk N q))) 200 (kpL N i q).length (gk N q) 199 j = u2 (u2 M1 198 (kpL N i q).length (nI (tk N q))) 199 (kpL N i q).length (nI (fk N q)) 199 j := fun j => by rw [u3_f (show (199 : Nat) ≠ 200 by decide)]
  refine ⟨⟨((h1.u (by decide) _ _).u (by decide) _ _).u (by decide) _ _, fun j hj => ?_, fun j hj hj2 => ?_⟩, el⟩
  · rw [r1, r2]
    rw [e, getD_app]
    by_cases hjl : j = (kpL N i q).length
    · subst hjl
      rw [u3_s, u3_s, u3_s, if_neg (Nat.lt_irrefl _), if_pos rfl]
      exact ⟨rfl, rfl, rfl⟩
    · rw [u3_a hjl, u3_a hjl, u3_a hjl, u3_f (show (199 : Nat) ≠ 198 by decide), u3_f (show (200 : Nat) ≠ 199 by decide), u3_f (show (200 : Nat) ≠ 198 by decide), if_pos (by omega)]
      exact h2 j (by omega)
  · have hjl : j ≠ (kpL N i q).length := by omega
    rw [r1, r2, u3_a hjl, u3_a hjl, u3_a hjl, u3_f (show (199 : Nat) ≠ 198 by decide), u3_f (show (200 : Nat) ≠ 199 by decide), u3_f (show (200 : Nat) ≠ 198 by decide)]
    exact h3 j (by omega) hj2
theorem mv_cut {N : NT} {I : Nat → Int32} {i : Nat} {M M1 : Nat → Nat → Int32} (hv : mv I M N) (h : cutI N i (nFL N).length M M1) : mv (va_up I 194 (nI (kpL N i (nFL N).length).length)) M1 (nCut N i) := by
  obtain ⟨h1, h2, h3⟩ := h
  rw [kpL_end] at h2
  refine ⟨⟨hv.n, ?_, hv.u⟩, fun j hj => ?_, h2⟩
  · show nI (kpL N i (nFL N).length).length = _
    rw [kpL_end]
  · rw [h1 196 (by decide), h1 197 (by decide)]
    exact hv.2.1 j hj
set_option maxHeartbeats 4000000 in
set_option maxRecDepth 100000 in
theorem c_mcut (l : Launch) (G : Gx) (z : Sto) {mo : Nat} {A : Nat → Nat} {I : Nat → Int32} {M : Nat → Nat → Int32} {N : NT} (h0 : mst z mo A I M) (hv : mv I M N) (hO : nOK N) {i : Nat} (hi : i < nN N) : Ct l yX5_cut wsX5_cut ({ frames := 1, cells := 0, slots := 0, locals := 30 } : Room) G z [.ref mo, .int (nI i)] (fun rv z' => ∃ I' M', mR z z' mo A I' M' ∧ I' 192 = 0 ∧ rv = some (.int (nI (nFd N i).length)) ∧ mv I' M' (nCut N i)) := by
  refine ct_of (cc := cX5_cut) (maxL := 4) (ret := (some .int)) (lv0 := [(0, .ref mo), (1, .int (nI i))]) (by decide) rfl (by simp [lg_sl, cat_ref, cat_null, cat_int, cat_long, rf_cat]) (by simp [lv_args, cat_ref, cat_null, cat_int, cat_long, rf_cat]) ?_
  intro p e s m args below meth c C hin
  have i6 : ∀ w ∈ u_ws RX5 TX5 16, w ∈ wsX5_cut := by decide +kernel
  have hm := mR.rf h0
  have hn := hO.1
  have hl := hO.2.1
  have loop : ∀ (r q : Nat) (z1 : Sto) (I1 : Nat → Int32) (M0 M1 : Nat → Nat → Int32), q + r = (nFL N).length → mv I1 M0 N → I1 192 = 0 → mR z z1 mo A I1 M1 → cutI N i q M0 M1 → Wp p l e ({ frames := 1, cells := 0, slots := 0, locals := 30 } : Room) s m args below meth c G 4 0 0 (MQ below (cPost G (fun rv z' => ∃ I' M', mR z z' mo A I' M' ∧ I' 192 = 0 ∧ rv = some (.int (nI (nFd N i).length)) ∧ mv I' M' (nCut N i))) args s (0) (0) (gA G)) z1 27 [(3, .int (nI q)), (2, .int (nI (kpL N i q).length)), (0, .ref mo), (1, .int (nI i))] [] := by
    intro r
    induction r with
    | zero =>
      intro q z1 I1 M0 M1 hq hv h192 hm hc
      have hqq : q = (nFL N).length := by omega
      subst hqq
      refine w_iload_n C 0 dX5_cut_27 rfl rfl ?_
      refine w_aload_n C 2 dX5_cut_28 rfl rfl (by first | rfl | exact isRef_rf _) ?_
      refine w_getI (ci := 6) (k := 2) (f := 194) C rfl i6 (by decide +kernel) (by decide) (by decide) rfl rfl dX5_cut_29 hm.o ((hm.i 194).trans hv.l) ?_
      refine w_icmp_ge (tgt := 93) C dX5_cut_32 (by decide) (fun c1 => ?_) (fun c1 => ?_)
      · refine w_aload_n C 2 dX5_cut_93 rfl rfl (by first | rfl | exact isRef_rf _) ?_
        refine w_getI (ci := 6) (k := 2) (f := 194) C rfl i6 (by decide +kernel) (by decide) (by decide) rfl rfl dX5_cut_94 hm.o ((hm.i 194).trans hv.l) ?_
        refine w_iload_n C 1 dX5_cut_97 rfl rfl ?_
        refine w_isub C dX5_cut_98 ?_
        refine w_inti (y := nI (nFd N i).length) (by rw [kpL_end]; have h9 := cut_len N i; rw [Nat.add_comm] at h9; rw [h9]; exact nI_sub) ?_
        refine w_istore_nB (lvq := [(3, _), (2, _), (0, _), (1, _)]) C 1 rfl rfl (by first | rfl | exact rf_cat _) dX5_cut_99 rfl (by decide) rfl ?_
        refine w_aload_n C 2 dX5_cut_100 rfl rfl (by first | rfl | exact isRef_rf _) ?_
        refine w_iload_n C 1 dX5_cut_101 rfl rfl ?_
        refine w_putI (ci := 6) (k := 2) (f := 194) C rfl i6 (by decide +kernel) (by decide) (by decide) rfl rfl tyX5 tyX5_ok nmX5 rfl rfl rfl dX5_cut_102 hm.o ?_
        refine m_kI hm (by decide) (fun z1 hm => ?_)
        refine w_iload_n C 0 dX5_cut_105 rfl rfl ?_
        exact w_iret C dX5_cut_106 ⟨_, _, hm, h192, rfl, mv_cut hv hc⟩
      · exact absurd (nI_le (Nat.le_refl _) (by omega)) c1
    | succ r ih =>
      intro q z1 I1 M0 M1 hq hv h192 hm hc
      have hqq : q < (nFL N).length := by omega
      obtain ⟨b1, b2, b3⟩ := fl_b hO hqq
      have hkl := kpL_le N i q
      obtain ⟨t1, t2, t3⟩ := hc.2.2 q (Nat.le_refl _) hqq
      refine w_iload_n C 0 dX5_cut_27 rfl rfl ?_
      refine w_aload_n C 2 dX5_cut_28 rfl rfl (by first | rfl | exact isRef_rf _) ?_
      refine w_getI (ci := 6) (k := 2) (f := 194) C rfl i6 (by decide +kernel) (by decide) (by decide) rfl rfl dX5_cut_29 hm.o ((hm.i 194).trans hv.l) ?_
      refine w_icmp_ge (tgt := 93) C dX5_cut_32 (by decide) (fun c1 => ?_) (fun c1 => ?_)
      · exact absurd c1 (nI_ge hqq (by omega))
      · refine w_aload_n C 2 dX5_cut_35 rfl rfl (by first | rfl | exact isRef_rf _) ?_
        refine w_getRs (ci := 6) (k := 6) (f := 198) C rfl i6 (by decide +kernel) (by decide) (by decide) rfl rfl dX5_cut_36 hm.o (hm.r 198 rfl) ?_
        refine w_iload_n C 0 dX5_cut_39 rfl rfl ?_
        refine w_iald C dX5_cut_40 (hm.a 198 rfl rfl) rfl (hm.q 198 rfl (L := 2400) rfl (by omega)) (hm.b 198 rfl) ((hm.e 198 rfl _).trans t1) ?_
        refine w_iload_n C 3 dX5_cut_41 rfl rfl ?_
        refine w_icmp_ne (tgt := 48) C dX5_cut_42 (by decide) (fun c2 => ?_) (fun c2 => ?_)
        · have hne : ¬ tk N q = i := fun e9 => c2 (by rw [e9])
          obtain ⟨hc2, hl2⟩ := cutI_kept hc hqq hne
          refine w_aload_n C 2 dX5_cut_48 rfl rfl (by first | rfl | exact isRef_rf _) ?_
          refine w_getRs (ci := 6) (k := 6) (f := 198) C rfl i6 (by decide +kernel) (by decide) (by decide) rfl rfl dX5_cut_49 hm.o (hm.r 198 rfl) ?_
          refine w_iload_n C 1 dX5_cut_52 rfl rfl ?_
          refine w_aload_n C 2 dX5_cut_53 rfl rfl (by first | rfl | exact isRef_rf _) ?_
          refine w_getRs (ci := 6) (k := 6) (f := 198) C rfl i6 (by decide +kernel) (by decide) (by decide) rfl rfl dX5_cut_54 hm.o (hm.r 198 rfl) ?_
          refine w_iload_n C 0 dX5_cut_57 rfl rfl ?_
          refine w_iald C dX5_cut_58 (hm.a 198 rfl rfl) rfl (hm.q 198 rfl (L := 2400) rfl (by omega)) (hm.b 198 rfl) ((hm.e 198 rfl _).trans t1) ?_
          refine m_iast (f := 198) (L := 2400) C dX5_cut_59 hm rfl rfl rfl rfl (by omega) (fun z1 hm => ?_)
          refine w_aload_n C 2 dX5_cut_60 rfl rfl (by first | rfl | exact isRef_rf _) ?_
          refine w_getRs (ci := 6) (k := 7) (f := 199) C rfl i6 (by decide +kernel) (by decide) (by decide) rfl rfl dX5_cut_61 hm.o (hm.r 199 rfl) ?_
          refine w_iload_n C 1 dX5_cut_64 rfl rfl ?_
          refine w_aload_n C 2 dX5_cut_65 rfl rfl (by first | rfl | exact isRef_rf _) ?_
          refine w_getRs (ci := 6) (k := 7) (f := 199) C rfl i6 (by decide +kernel) (by decide) (by decide) rfl rfl dX5_cut_66 hm.o (hm.r 199 rfl) ?_
          refine w_iload_n C 0 dX5_cut_69 rfl rfl ?_
          refine w_iald C dX5_cut_70 (hm.a 199 rfl rfl) rfl (hm.q 199 rfl (L := 2400) rfl (by omega)) (hm.b 199 rfl) ((hm.e 199 rfl _).trans ((congrFun (u3_f (by decide)) _).trans t2)) ?_
          refine m_iast (f := 199) (L := 2400) C dX5_cut_71 hm rfl rfl rfl rfl (by omega) (fun z1 hm => ?_)
          refine w_aload_n C 2 dX5_cut_72 rfl rfl (by first | rfl | exact isRef_rf _) ?_
          refine w_getRs (ci := 6) (k := 8) (f := 200) C rfl i6 (by decide +kernel) (by decide) (by decide) rfl rfl dX5_cut_73 hm.o (hm.r 200 rfl) ?_
          refine w_iload_n C 1 dX5_cut_76 rfl rfl ?_
          refine w_aload_n C 2 dX5_cut_77 rfl rfl (by first | rfl | exact isRef_rf _) ?_
          refine w_getRs (ci := 6) (k := 8) (f := 200) C rfl i6 (by decide +kernel) (by decide) (by decide) rfl rfl dX5_cut_78 hm.o (hm.r 200 rfl) ?_
          refine w_iload_n C 0 dX5_cut_81 rfl rfl ?_
          refine w_zald C dX5_cut_82 (hm.a 200 rfl rfl) rfl (hm.q 200 rfl (L := 2400) rfl (by omega)) (hm.b 200 rfl) ((hm.e 200 rfl _).trans ((congrFun ((u3_f (by decide)).trans (u3_f (by decide))) _).trans t3)) ?_
          refine m_zast (f := 200) (L := 2400) C dX5_cut_83 hm rfl rfl rfl rfl (by omega) (show vp_nar .boolean (gk N q) = gk N q by rcases b3 with q9 | q9 <;> rw [q9] <;> rfl) (fun z1 hm => ?_)
          refine w_iincB (v := nI ((kpL N i q).length + 1)) (lvq := [(2, _), (3, _), (0, _), (1, _)]) C 1 3 rfl rfl (by first | rfl | exact rf_cat _) dX5_cut_84 rfl (nI_1 _) (by decide) rfl ?_
          refine w_iincB (v := nI (q + 1)) (lvq := [(3, _), (2, _), (0, _), (1, _)]) C 1 0 rfl rfl (by first | rfl | exact rf_cat _) dX5_cut_87 rfl (nI_1 q) (by decide) rfl ?_
          refine w_goto (tgt := 27) C dX5_cut_90 (by decide) ?_
          exact w_sub [0, 1, 2, 3] rfl (hl2 ▸ ih (q + 1) z1 I1 M0 _ (by omega) hv h192 hm hc2)
        · have heq : tk N q = i := (nI_eq (by omega) (by omega)).mp c2
          obtain ⟨hc2, hl2⟩ := cutI_gone hc hqq heq
          refine w_goto (tgt := 87) C dX5_cut_45 (by decide) ?_
          refine w_iincB (v := nI (q + 1)) (lvq := [(3, _), (2, _), (0, _), (1, _)]) C 0 1 rfl rfl (by first | rfl | exact rf_cat _) dX5_cut_87 rfl (nI_1 q) (by decide) rfl ?_
          refine w_goto (tgt := 27) C dX5_cut_90 (by decide) ?_
          exact w_sub [0, 1, 2, 3] rfl (hl2 ▸ ih (q + 1) z1 I1 M0 _ (by omega) hv h192 hm hc2)
  refine w_aload_n C 0 dX5_cut_0 rfl rfl (by first | rfl | exact isRef_rf _) ?_
  refine w_aload_n C 0 dX5_cut_1 rfl rfl (by first | rfl | exact isRef_rf _) ?_
  refine w_iload_n C 1 dX5_cut_2 rfl rfl ?_
  refine w_callV (ci := 6) (As := [.int (nI i)]) (rest := [.ref mo]) C (cwV 1 C.1.2.2.2.2 gX5_cut_X5_isGate rfl rfl rfl (by decide +kernel) ⟨Nat.le_of_ble_eq_true rfl, Nat.le_of_ble_eq_true rfl⟩) hm.o rfl (by decide) rfl rfl (by first | decide | simp [cat_ref, cat_null, cat_int, cat_long, rf_cat]) dX5_cut_3 ⟨Nat.le_of_ble_eq_true rfl, Nat.le_of_ble_eq_true rfl⟩ (c_isGateT l G _ hm.2 hv hO (i := i) (by omega)) (fun rv z2 h9 => ?_)
  obtain ⟨rfl, e9⟩ := h9
  replace e9 := e9.symm
  subst e9
  refine w_if_ne (tgt := 13) C dX5_cut_6 (by decide) (fun c1 => ?_) (fun c1 => ?_)
  · refine w_iconst (v := 0) C dX5_cut_13 (by decide) ?_
    refine w_iconst (v := 0) C dX5_cut_14 (by decide) ?_
    refine w_callV (ci := 6) (As := [.int 0, .int 0]) (rest := []) C (cwV 2 C.1.2.2.2.2 gX5_cut_X5_fails rfl rfl rfl (by decide +kernel) ⟨Nat.le_of_ble_eq_true rfl, Nat.le_of_ble_eq_true rfl⟩) hm.o rfl (by decide) rfl rfl (by first | decide | simp [cat_ref, cat_null, cat_int, cat_long, rf_cat]) dX5_cut_15 ⟨Nat.le_of_ble_eq_true rfl, Nat.le_of_ble_eq_true rfl⟩ (c_fails l G _ hm.2 (Or.inr (Or.inr ⟨rfl, rfl, rfl, rfl⟩))) (fun rv z1 h9 => ?_)
    obtain ⟨rfl, hm1⟩ := h9
    replace hm := hm.tr hm1
    replace hv := hv.P (f := 192) 0 (by decide) (by decide) (by decide)
    refine w_if_eq (tgt := 23) C dX5_cut_18 (by decide) (fun c2 => ?_) (fun c2 => ?_)
    · refine w_iconst (v := 0) C dX5_cut_23 (by decide) ?_
      refine w_istore_nB (lvq := [(2, _), (0, _), (1, _)]) C 1 rfl rfl (by first | rfl | exact rf_cat _) dX5_cut_24 rfl (by decide) rfl ?_
      refine w_iconst (v := 0) C dX5_cut_25 (by decide) ?_
      refine w_istore_nB (lvq := [(3, _), (2, _), (0, _), (1, _)]) C 0 rfl rfl (by first | rfl | exact rf_cat _) dX5_cut_26 rfl (by decide) rfl ?_
      exact w_sub [0, 1, 2, 3] rfl (loop (nFL N).length 0 z1 _ M M (by omega) hv (if_pos rfl) hm (cutI_0 hv i))
    · exact absurd rfl c2
  · exact absurd c1 (by decide)
set_option maxHeartbeats 4000000 in
set_option maxRecDepth 100000 in
theorem x_mcut (l : Launch) (G : Gx) (z : Sto) {mo : Nat} {A : Nat → Nat} {I : Nat → Int32} {M : Nat → Nat → Int32} {N : NT} (h0 : mst z mo A I M) (hv : mv I M N) (hO : nOK N) {j : Int32} (hj : j < 0 ∨ nI (nN N) ≤ j) : Ct l yX5_cut wsX5_cut ({ frames := 1, cells := 0, slots := 0, locals := 30 } : Room) G z [.ref mo, .int j] (fun rv z' => (∃ v, rv = some (.int v)) ∧ mR z z' mo A (va_up I 192 1) M) := by
  refine ct_of (cc := cX5_cut) (maxL := 4) (ret := (some .int)) (lv0 := [(0, .ref mo), (1, .int j)]) (by decide) rfl (by simp [lg_sl, cat_ref, cat_null, cat_int, cat_long, rf_cat]) (by simp [lv_args, cat_ref, cat_null, cat_int, cat_long, rf_cat]) ?_
  intro p e s m args below meth c C hin
  have i6 : ∀ w ∈ u_ws RX5 TX5 16, w ∈ wsX5_cut := by decide +kernel
  have hm := mR.rf h0
  have hn := hO.1
  have hl := hO.2.1
  refine w_aload_n C 0 dX5_cut_0 rfl rfl (by first | rfl | exact isRef_rf _) ?_
  refine w_aload_n C 0 dX5_cut_1 rfl rfl (by first | rfl | exact isRef_rf _) ?_
  refine w_iload_n C 1 dX5_cut_2 rfl rfl ?_
  refine w_callV (ci := 6) (As := [.int j]) (rest := [.ref mo]) C (cwV 1 C.1.2.2.2.2 gX5_cut_X5_isGate rfl rfl rfl (by decide +kernel) ⟨Nat.le_of_ble_eq_true rfl, Nat.le_of_ble_eq_true rfl⟩) hm.o rfl (by decide) rfl rfl (by first | decide | simp [cat_ref, cat_null, cat_int, cat_long, rf_cat]) dX5_cut_3 ⟨Nat.le_of_ble_eq_true rfl, Nat.le_of_ble_eq_true rfl⟩ (c_isGateF l G _ hm.2 hv hO hj) (fun rv z2 h9 => ?_)
  obtain ⟨rfl, e9⟩ := h9
  replace e9 := e9.symm
  subst e9
  refine w_if_ne (tgt := 13) C dX5_cut_6 (by decide) (fun c1 => ?_) (fun c1 => ?_)
  · exact absurd rfl c1
  · refine w_iconst (v := 1) C dX5_cut_9 (by decide) ?_
    refine w_goto (tgt := 14) C dX5_cut_10 (by decide) ?_
    refine w_iconst (v := 0) C dX5_cut_14 (by decide) ?_
    refine w_callV (ci := 6) (As := [.int 1, .int 0]) (rest := []) C (cwV 2 C.1.2.2.2.2 gX5_cut_X5_fails rfl rfl rfl (by decide +kernel) ⟨Nat.le_of_ble_eq_true rfl, Nat.le_of_ble_eq_true rfl⟩) hm.o rfl (by decide) rfl rfl (by first | decide | simp [cat_ref, cat_null, cat_int, cat_long, rf_cat]) dX5_cut_15 ⟨Nat.le_of_ble_eq_true rfl, Nat.le_of_ble_eq_true rfl⟩ (c_fails l G _ hm.2 (t := 1) (r := 1) (Or.inl ⟨rfl, rfl, rfl⟩)) (fun rv z1 h9 => ?_)
    obtain ⟨rfl, hm1⟩ := h9
    replace hm := hm.tr hm1
    refine w_if_eq (tgt := 23) C dX5_cut_18 (by decide) (fun c2 => ?_) (fun c2 => ?_)
    · exact absurd c2 (by decide)
    · refine w_iconst (v := 0) C dX5_cut_21 (by decide) ?_
      exact w_iret C dX5_cut_22 ⟨⟨_, rfl⟩, hm⟩
