/-! ===== the reference: step, reset, blame ===== -/
theorem cnt_le_add (P : Nat → Bool) (a k : Nat) : cnt P a ≤ cnt P (a + k) := by rw [cnt_shift P a k]; omega
theorem lt_one {N : NT} (hO : nOK N) {q : Nat} (hq : q < (nFL N).length) (hs : nSo N (tk N q) = 1) : cnt (fun k => decide (tk N k = tk N q)) q = 0 ∧ nNx N (tk N q) = tkv (nV N (nRC N) (fk N q)) (gk N q) := by
  have b1 := (fl_b hO hq).1
  have h1 := hO.2.2.2.2.2.2.1 _ b1 hs
  have h2 : cnt (fun k => decide (tk N k = tk N q)) (q + 1) = cnt (fun k => decide (tk N k = tk N q)) q + 1 := by
    show cnt (fun k => decide (tk N k = tk N q)) q + (if decide (tk N q = tk N q) then 1 else 0) = _
    rw [decide_eq_true rfl, if_pos rfl]
  have h3 := cnt_le_add (fun k => decide (tk N k = tk N q)) (q + 1) ((nFL N).length - (q + 1))
  rw [show q + 1 + ((nFL N).length - (q + 1)) = (nFL N).length by omega, cnt_tk] at h3
  refine ⟨by omega, ?_⟩
  have hm : (fk N q, gk N q) ∈ nFd N (tk N q) := nFd_mem2.mpr ⟨q, hq, rfl, rfl⟩
  unfold nNx
  cases hL : nFd N (tk N q) with
  | nil => rw [hL] at hm; cases hm
  | cons x tl =>
    rw [hL] at hm h1
    have htl : tl = [] := List.length_eq_zero_iff.mp (by rw [List.length_cons] at h1; omega)
    subst htl
    rw [← List.mem_singleton.mp hm]
def sD (N : NT) (q i : Nat) : Bool := decide (nSo N i = 1 ∧ 0 < cnt (fun k => decide (tk N k = i)) q)
def sC (N : NT) (q i : Nat) : Bool := decide (nSo N i = 1 ∧ 0 < cnt (fun k => decide (tk N k = i)) q ∧ ¬ nNx N i = nHd N i)
theorem cnt_tk_o {N : NT} {q i : Nat} (h : ¬ i = tk N q) : cnt (fun k => decide (tk N k = i)) (q + 1) = cnt (fun k => decide (tk N k = i)) q := by
  show cnt (fun k => decide (tk N k = i)) q + (if decide (tk N q = i) then 1 else 0) = _
  rw [decide_eq_false (fun e => h e.symm)]; rfl
theorem cnt_tk_s (N : NT) (q : Nat) : 0 < cnt (fun k => decide (tk N k = tk N q)) (q + 1) := by
  show 0 < cnt (fun k => decide (tk N k = tk N q)) q + (if decide (tk N q = tk N q) then 1 else 0)
  rw [decide_eq_true rfl, if_pos rfl]; omega
theorem sD_o {N : NT} {q i : Nat} (h : ¬ i = tk N q) : sD N (q + 1) i = sD N q i ∧ sC N (q + 1) i = sC N q i := by unfold sD sC; rw [cnt_tk_o h]; exact ⟨rfl, rfl⟩
/-- the latches behind q feeds -/
def stI (N : NT) (q : Nat) (M1 : Nat → Nat → Int32) : Prop := ∀ i, i < nN N → M1 197 i = if sD N q i then nNx N i else nHd N i
theorem stI_skip {N : NT} {q : Nat} {M1 : Nat → Nat → Int32} (h : stI N q M1) (hs : ¬ nSo N (tk N q) = 1) : stI N (q + 1) M1 ∧ cnt (sC N (q + 1)) (nN N) = cnt (sC N q) (nN N) := by
  have hD : ∀ i, sD N (q + 1) i = sD N q i ∧ sC N (q + 1) i = sC N q i := by
    intro i
    by_cases hi : i = tk N q
    · subst hi
      unfold sD sC
      rw [decide_eq_false (fun w => hs w.1), decide_eq_false (fun w => hs w.1), decide_eq_false (fun w => hs w.1), decide_eq_false (fun w => hs w.1)]
      exact ⟨rfl, rfl⟩
    · exact sD_o hi
  exact ⟨fun i hi => by rw [(hD i).1]; exact h i hi, cnt_congr (fun i _ => (hD i).2)⟩
theorem stI_do {N : NT} (hO : nOK N) {q : Nat} {M1 : Nat → Nat → Int32} (h : stI N q M1) (hq : q < (nFL N).length) (hs : nSo N (tk N q) = 1) : M1 197 (tk N q) = nHd N (tk N q) ∧ stI N (q + 1) (u2 M1 197 (tk N q) (nNx N (tk N q))) ∧ cnt (sC N (q + 1)) (nN N) = cnt (sC N q) (nN N) + (if nNx N (tk N q) = nHd N (tk N q) then 0 else 1) := by
  have b1 := (fl_b hO hq).1
  obtain ⟨h0, -⟩ := lt_one hO hq hs
  have d0 : sD N q (tk N q) = false := decide_eq_false (fun w => by rw [h0] at w; exact absurd w.2 (Nat.lt_irrefl _))
  have d1 : sD N (q + 1) (tk N q) = true := decide_eq_true ⟨hs, cnt_tk_s N q⟩
  have c0 : sC N q (tk N q) = false := decide_eq_false (fun w => by rw [h0] at w; exact absurd w.2.1 (Nat.lt_irrefl _))
  refine ⟨by rw [h _ b1, d0]; rfl, fun i hi => ?_, ?_⟩
  · by_cases e : i = tk N q
    · rw [e, u3_s, d1]; rfl
    · rw [u3_a e, (sD_o e).1]; exact h i hi
  · by_cases e : nNx N (tk N q) = nHd N (tk N q)
    · rw [if_pos e, Nat.add_zero]
      refine cnt_congr (fun i _ => ?_)
      by_cases hi : i = tk N q
      · rw [hi, c0]
        exact decide_eq_false (fun w => w.2.2 e)
      · exact (sD_o hi).2
    · rw [if_neg e]
      exact cnt_add b1 c0 (decide_eq_true ⟨hs, cnt_tk_s N q, e⟩) (fun i _ hi => ((sD_o hi).2).symm)
theorem nx_nil {N : NT} {i : Nat} (h : cnt (fun k => decide (tk N k = i)) (nFL N).length = 0) : nNx N i = nHd N i := by
  rw [cnt_tk] at h
  unfold nNx
  rw [List.length_eq_zero_iff.mp h]
theorem mv_stp {N : NT} {I : Nat → Int32} {M M1 : Nat → Nat → Int32} (hv : mv I M N) (hk : kx [197] M M1) (h : stI N (nFL N).length M1) : mv I M1 (nStp N) := by
  refine ⟨hv.1, fun i hi => ⟨?_, ?_⟩, fun k hk9 => ?_⟩
  · rw [hk 196 (by decide)]; exact hv.s i hi
  · show M1 197 i = if nSo N i = 1 then nNx N i else nHd N i
    rw [h i hi]
    unfold sD
    by_cases hs : nSo N i = 1
    · rw [if_pos hs]
      by_cases hc : 0 < cnt (fun k => decide (tk N k = i)) (nFL N).length
      · rw [decide_eq_true ⟨hs, hc⟩]; rfl
      · rw [decide_eq_false (fun w => hc w.2), nx_nil (by omega)]; rfl
    · rw [if_neg hs, decide_eq_false (fun w => hs w.1)]; rfl
  · rw [hk 198 (by decide), hk 199 (by decide), hk 200 (by decide)]; exact hv.2.2 k hk9
theorem sC_end (N : NT) : cnt (sC N (nFL N).length) (nN N) = cnt (fun j => decide (nSo N j = 1 ∧ ¬ nNx N j = nHd N j)) (nN N) := by
  refine cnt_congr (fun i _ => ?_)
  unfold sC
  refine decide_eq_decide.mpr ⟨fun w => ⟨w.1, w.2.2⟩, fun w => ⟨w.1, ?_, w.2⟩⟩
  exact Nat.pos_of_ne_zero (fun e => w.2 (nx_nil e))
theorem sC_0 (N : NT) (n : Nat) : cnt (sC N 0) n = 0 := cnt_zero (fun i _ => decide_eq_false (fun w => absurd w.2.1 (Nat.lt_irrefl _)))
set_option maxHeartbeats 4000000 in
set_option maxRecDepth 100000 in
theorem c_mstep (l : Launch) (G : Gx) (z : Sto) {mo : Nat} {A : Nat → Nat} {I : Nat → Int32} {M : Nat → Nat → Int32} {N : NT} (h0 : mst z mo A I M) (hv : mv I M N) (hO : nOK N) : Ct l yX5_step wsX5_step ({ frames := 3, cells := 0, slots := 0, locals := 90 } : Room) G z [.ref mo] (fun rv z' => ∃ I' M', mR z z' mo A I' M' ∧ I' 192 = 0 ∧ ((¬ nUn N (nRC N) = 0 ∧ rv = some (.int (-1)) ∧ mv I' M' N) ∨ (nUn N (nRC N) = 0 ∧ rv = some (.int (nI (cnt (fun j => decide (nSo N j = 1 ∧ ¬ nNx N j = nHd N j)) (nN N)))) ∧ mv I' M' (nStp N)))) := by
  refine ct_of (cc := cX5_step) (maxL := 5) (ret := (some .int)) (lv0 := [(0, .ref mo)]) (by decide) rfl (by simp [lg_sl, cat_ref, cat_null, cat_int, cat_long, rf_cat]) (by simp [lv_args, cat_ref, cat_null, cat_int, cat_long, rf_cat]) ?_
  intro p e s m args below meth c C hin
  have i6 : ∀ w ∈ u_ws RX5 TX5 16, w ∈ wsX5_step := by decide +kernel
  have hm := mR.rf h0
  have hn := hO.1
  have hl := hO.2.1
  have loop : nUn N (nRC N) = 0 → ∀ (I1 : Nat → Int32) (M0 : Nat → Nat → Int32), mv I1 M0 N → I1 192 = 0 → (∀ i, i < nN N → M0 201 i = nV N (nRC N) i) → ∀ (r q : Nat) (z1 : Sto) (M1 : Nat → Nat → Int32), q + r = (nFL N).length → mR z z1 mo A I1 M1 → kx [197] M0 M1 → stI N q M1 → Wp p l e ({ frames := 3, cells := 0, slots := 0, locals := 90 } : Room) s m args below meth c G 5 0 0 (MQ below (cPost G (fun rv z' => ∃ I' M', mR z z' mo A I' M' ∧ I' 192 = 0 ∧ ((¬ nUn N (nRC N) = 0 ∧ rv = some (.int (-1)) ∧ mv I' M' N) ∨ (nUn N (nRC N) = 0 ∧ rv = some (.int (nI (cnt (fun j => decide (nSo N j = 1 ∧ ¬ nNx N j = nHd N j)) (nN N)))) ∧ mv I' M' (nStp N))))) args s (0) (0) (gA G)) z1 18 [(2, .int (nI q)), (1, .int (nI (cnt (sC N q) (nN N)))), (0, .ref mo)] [] := by
    intro hun I1 M0 hv0 h192 h1 r
    induction r with
    | zero =>
      intro q z1 M1 hq hm hk1 hs
      have hqq : q = (nFL N).length := by omega
      subst hqq
      have hv := hv0
      refine w_iload_n C 0 dX5_step_18 rfl rfl ?_
      refine w_aload_n C 2 dX5_step_19 rfl rfl (by first | rfl | exact isRef_rf _) ?_
      refine w_getI (ci := 6) (k := 2) (f := 194) C rfl i6 (by decide +kernel) (by decide) (by decide) rfl rfl dX5_step_20 hm.o ((hm.i 194).trans hv.l) ?_
      refine w_icmp_ge (tgt := 101) C dX5_step_23 (by decide) (fun c1 => ?_) (fun c1 => ?_)
      · refine w_iload_n C 1 dX5_step_101 rfl rfl ?_
        exact w_iret C dX5_step_102 ⟨_, _, hm, h192, Or.inr ⟨hun, by rw [sC_end], mv_stp hv0 hk1 hs⟩⟩
      · exact absurd (nI_le (Nat.le_refl _) (by omega)) c1
    | succ r ih =>
      intro q z1 M1 hq hm hk1 hs
      have hqq : q < (nFL N).length := by omega
      have hv := hv0
      obtain ⟨b1, b2, b3⟩ := fl_b hO hqq
      have e196 : M1 196 (tk N q) = nSo N (tk N q) := by rw [hk1 196 (by decide)]; exact hv0.s _ b1
      have e198 : M1 198 q = nI (tk N q) := by rw [hk1 198 (by decide)]; exact hv0.t _ hqq
      have e199 : M1 199 q = nI (fk N q) := by rw [hk1 199 (by decide)]; exact hv0.f _ hqq
      have e200 : M1 200 q = gk N q := by rw [hk1 200 (by decide)]; exact hv0.g _ hqq
      have e201 : M1 201 (fk N q) = nV N (nRC N) (fk N q) := by rw [hk1 201 (by decide)]; exact h1 _ b2
      refine w_iload_n C 0 dX5_step_18 rfl rfl ?_
      refine w_aload_n C 2 dX5_step_19 rfl rfl (by first | rfl | exact isRef_rf _) ?_
      refine w_getI (ci := 6) (k := 2) (f := 194) C rfl i6 (by decide +kernel) (by decide) (by decide) rfl rfl dX5_step_20 hm.o ((hm.i 194).trans hv.l) ?_
      refine w_icmp_ge (tgt := 101) C dX5_step_23 (by decide) (fun c1 => ?_) (fun c1 => ?_)
      · exact absurd c1 (nI_ge hqq (by omega))
      · refine w_aload_n C 2 dX5_step_26 rfl rfl (by first | rfl | exact isRef_rf _) ?_
        refine w_getRs (ci := 6) (k := 6) (f := 198) C rfl i6 (by decide +kernel) (by decide) (by decide) rfl rfl dX5_step_27 hm.o (hm.r 198 rfl) ?_
        refine w_iload_n C 0 dX5_step_30 rfl rfl ?_
        refine w_iald C dX5_step_31 (hm.a 198 rfl rfl) rfl (hm.q 198 rfl (L := 2400) rfl (by omega)) (hm.b 198 rfl) ((hm.e 198 rfl _).trans e198) ?_
        refine w_istore_nB (lvq := [(3, _), (2, _), (1, _), (0, _)]) C 0 rfl rfl (by first | rfl | exact rf_cat _) dX5_step_32 rfl (by decide) rfl ?_
        refine w_aload_n C 3 dX5_step_33 rfl rfl (by first | rfl | exact isRef_rf _) ?_
        refine w_getRs (ci := 6) (k := 4) (f := 196) C rfl i6 (by decide +kernel) (by decide) (by decide) rfl rfl dX5_step_34 hm.o (hm.r 196 rfl) ?_
        refine w_iload_n C 0 dX5_step_37 rfl rfl ?_
        refine w_iald C dX5_step_38 (hm.a 196 rfl rfl) rfl (hm.q 196 rfl (L := 600) rfl (by omega)) (hm.b 196 rfl) ((hm.e 196 rfl _).trans e196) ?_
        refine w_iconst (v := 1) C dX5_step_39 (by decide) ?_
        refine w_icmp_eq (tgt := 46) C dX5_step_40 (by decide) (fun c2 => ?_) (fun c2 => ?_)
        · obtain ⟨hd1, hd2, hd3⟩ := stI_do hO hs hqq c2
          have hnx := (lt_one hO hqq c2).2
          refine w_aload_n C 3 dX5_step_46 rfl rfl (by first | rfl | exact isRef_rf _) ?_
          refine w_getRs (ci := 6) (k := 9) (f := 201) C rfl i6 (by decide +kernel) (by decide) (by decide) rfl rfl dX5_step_47 hm.o (hm.r 201 rfl) ?_
          refine w_aload_n C 3 dX5_step_50 rfl rfl (by first | rfl | exact isRef_rf _) ?_
          refine w_getRs (ci := 6) (k := 7) (f := 199) C rfl i6 (by decide +kernel) (by decide) (by decide) rfl rfl dX5_step_51 hm.o (hm.r 199 rfl) ?_
          refine w_iload_n C 1 dX5_step_54 rfl rfl ?_
          refine w_iald C dX5_step_55 (hm.a 199 rfl rfl) rfl (hm.q 199 rfl (L := 2400) rfl (by omega)) (hm.b 199 rfl) ((hm.e 199 rfl _).trans e199) ?_
          refine w_iald C dX5_step_56 (hm.a 201 rfl rfl) rfl (hm.q 201 rfl (L := 600) rfl (by omega)) (hm.b 201 rfl) ((hm.e 201 rfl _).trans e201) ?_
          refine w_aload_n C 3 dX5_step_57 rfl rfl (by first | rfl | exact isRef_rf _) ?_
          refine w_getRs (ci := 6) (k := 8) (f := 200) C rfl i6 (by decide +kernel) (by decide) (by decide) rfl rfl dX5_step_58 hm.o (hm.r 200 rfl) ?_
          refine w_iload_n C 1 dX5_step_61 rfl rfl ?_
          refine w_zald C dX5_step_62 (hm.a 200 rfl rfl) rfl (hm.q 200 rfl (L := 2400) rfl (by omega)) (hm.b 200 rfl) ((hm.e 200 rfl _).trans e200) ?_
          refine w_callS (As := [.int (nV N (nRC N) (fk N q)), .int (gk N q)]) (rest := []) C (va_cwS 2 C.1.2.2.2.2 gX5_step_X5_taken rfl rfl rfl (by decide +kernel) ⟨Nat.le_of_ble_eq_true rfl, Nat.le_of_ble_eq_true rfl⟩) rfl rfl (by first | decide | simp [cat_ref, cat_null, cat_int, cat_long, rf_cat]) dX5_step_63 ⟨Nat.le_of_ble_eq_true rfl, Nat.le_of_ble_eq_true rfl⟩ (c_taken l G _) (fun rv z2 h9 => ?_)
          obtain ⟨rfl, e9⟩ := h9
          replace e9 := e9.symm
          subst e9
          rw [← hnx]
          refine w_istoreB (lvq := [(4, _), (3, _), (2, _), (1, _), (0, _)]) C 0 rfl rfl (by first | rfl | exact rf_cat _) dX5_step_66 (by decide) rfl ?_
          refine w_iload_n C 3 dX5_step_68 rfl rfl ?_
          refine w_iload C 0 dX5_step_69 rfl ?_
          refine w_aload_n C 4 dX5_step_71 rfl rfl (by first | rfl | exact isRef_rf _) ?_
          refine w_getRs (ci := 6) (k := 5) (f := 197) C rfl i6 (by decide +kernel) (by decide) (by decide) rfl rfl dX5_step_72 hm.o (hm.r 197 rfl) ?_
          refine w_iload_n C 1 dX5_step_75 rfl rfl ?_
          refine w_iald C dX5_step_76 (hm.a 197 rfl rfl) rfl (hm.q 197 rfl (L := 600) rfl (by omega)) (hm.b 197 rfl) ((hm.e 197 rfl _).trans hd1) ?_
          refine w_icmp_eq (tgt := 84) C dX5_step_77 (by decide) (fun c3 => ?_) (fun c3 => ?_)
          · replace hd3 : cnt (sC N (q + 1)) (nN N) = cnt (sC N q) (nN N) := by rw [if_pos c3] at hd3; exact hd3
            refine w_iconst (v := 0) C dX5_step_84 (by decide) ?_
            refine w_iadd C dX5_step_85 ?_
            first
            | refine w_inti (nI_1 _) ?_
            | refine w_inti (Int32.add_zero _) ?_
            refine w_istore_nB (lvq := [(1, _), (4, _), (3, _), (2, _), (0, _)]) C 4 rfl rfl (by first | rfl | exact rf_cat _) dX5_step_86 rfl (by decide) rfl ?_
            refine w_aload_n C 4 dX5_step_87 rfl rfl (by first | rfl | exact isRef_rf _) ?_
            refine w_getRs (ci := 6) (k := 5) (f := 197) C rfl i6 (by decide +kernel) (by decide) (by decide) rfl rfl dX5_step_88 hm.o (hm.r 197 rfl) ?_
            refine w_iload_n C 2 dX5_step_91 rfl rfl ?_
            refine w_iload C 1 dX5_step_92 rfl ?_
            refine m_iast (f := 197) (L := 600) C dX5_step_94 hm rfl rfl rfl rfl (by omega) (fun z1 hm => ?_)
            refine w_iincB (v := nI (q + 1)) (lvq := [(2, _), (1, _), (4, _), (3, _), (0, _)]) C 3 0 rfl rfl (by first | rfl | exact rf_cat _) dX5_step_95 rfl (nI_1 q) (by decide) rfl ?_
            refine w_goto (tgt := 18) C dX5_step_98 (by decide) ?_
            first
            | exact w_sub [0, 1, 4] rfl (hk8 ▸ ih (q + 1) z1 M1 (by omega) hm hk1 hk9)
            | (have h9 := ih (q + 1) z1 _ (by omega) hm (hk1.u (by decide) _ _) hd2
               rw [hd3] at h9
               exact w_sub [0, 1, 4] rfl h9)
          · rw [if_neg c3] at hd3
            refine w_iconst (v := 1) C dX5_step_80 (by decide) ?_
            refine w_goto (tgt := 85) C dX5_step_81 (by decide) ?_
            refine w_iadd C dX5_step_85 ?_
            first
            | refine w_inti (nI_1 _) ?_
            | refine w_inti (Int32.add_zero _) ?_
            refine w_istore_nB (lvq := [(1, _), (4, _), (3, _), (2, _), (0, _)]) C 4 rfl rfl (by first | rfl | exact rf_cat _) dX5_step_86 rfl (by decide) rfl ?_
            refine w_aload_n C 4 dX5_step_87 rfl rfl (by first | rfl | exact isRef_rf _) ?_
            refine w_getRs (ci := 6) (k := 5) (f := 197) C rfl i6 (by decide +kernel) (by decide) (by decide) rfl rfl dX5_step_88 hm.o (hm.r 197 rfl) ?_
            refine w_iload_n C 2 dX5_step_91 rfl rfl ?_
            refine w_iload C 1 dX5_step_92 rfl ?_
            refine m_iast (f := 197) (L := 600) C dX5_step_94 hm rfl rfl rfl rfl (by omega) (fun z1 hm => ?_)
            refine w_iincB (v := nI (q + 1)) (lvq := [(2, _), (1, _), (4, _), (3, _), (0, _)]) C 3 0 rfl rfl (by first | rfl | exact rf_cat _) dX5_step_95 rfl (nI_1 q) (by decide) rfl ?_
            refine w_goto (tgt := 18) C dX5_step_98 (by decide) ?_
            first
            | exact w_sub [0, 1, 4] rfl (hk8 ▸ ih (q + 1) z1 M1 (by omega) hm hk1 hk9)
            | (have h9 := ih (q + 1) z1 _ (by omega) hm (hk1.u (by decide) _ _) hd2
               rw [hd3] at h9
               exact w_sub [0, 1, 4] rfl h9)
        · obtain ⟨hk9, hk8⟩ := stI_skip hs c2
          refine w_goto (tgt := 95) C dX5_step_43 (by decide) ?_
          refine w_iincB (v := nI (q + 1)) (lvq := [(2, _), (3, _), (1, _), (0, _)]) C 1 2 rfl rfl (by first | rfl | exact rf_cat _) dX5_step_95 rfl (nI_1 q) (by decide) rfl ?_
          refine w_goto (tgt := 18) C dX5_step_98 (by decide) ?_
          first
          | exact w_sub [0, 2, 3] rfl (hk8 ▸ ih (q + 1) z1 M1 (by omega) hm hk1 hk9)
          | (have h9 := ih (q + 1) z1 _ (by omega) hm (hk1.u (by decide) _ _) hd2
             rw [hd3] at h9
             exact w_sub [0, 2, 3] rfl h9)
  refine w_aload_n C 0 dX5_step_0 rfl rfl (by first | rfl | exact isRef_rf _) ?_
  refine w_iconst (v := 0) C dX5_step_1 (by decide) ?_
  refine w_putI (ci := 6) (k := 0) (f := 192) (v := 0) C rfl i6 (by decide +kernel) (by decide) (by decide) rfl rfl tyX5 tyX5_ok nmX5 rfl rfl rfl dX5_step_2 hm.o ?_
  refine m_kI hm (by decide) (fun z1 hm => ?_)
  replace hv := hv.P (f := 192) 0 (by decide) (by decide) (by decide)
  refine w_aload_n C 0 dX5_step_5 rfl rfl (by first | rfl | exact isRef_rf _) ?_
  refine w_callV (ci := 6) (As := []) (rest := []) C (cwV 0 C.1.2.2.2.2 gX5_step_X5_spread rfl rfl rfl (by decide +kernel) ⟨Nat.le_of_ble_eq_true rfl, Nat.le_of_ble_eq_true rfl⟩) hm.o rfl (by decide) rfl rfl (by first | decide | simp [cat_ref, cat_null, cat_int, cat_long, rf_cat]) dX5_step_6 ⟨Nat.le_of_ble_eq_true rfl, Nat.le_of_ble_eq_true rfl⟩ (c_mspread l G _ hm.2 hv hO) (fun rv z1 h9 => ?_)
  obtain ⟨I2, M2, rfl, hm2, hk2, hI2, hVR, h204⟩ := h9
  replace hm := hm.tr hm2
  replace hv := mv_sp hv hk2 hI2
  refine w_if_ne (tgt := 14) C dX5_step_9 (by decide) (fun c1 => ?_) (fun c1 => ?_)
  · have hun : nUn N (nRC N) = 0 := Decidable.byContradiction fun q9 => by rw [decide_eq_false q9] at c1; exact c1 rfl
    refine w_iconst (v := 0) C dX5_step_14 (by decide) ?_
    refine w_istore_nB (lvq := [(1, _), (0, _)]) C 0 rfl rfl (by first | rfl | exact rf_cat _) dX5_step_15 rfl (by decide) rfl ?_
    refine w_iconst (v := 0) C dX5_step_16 (by decide) ?_
    refine w_istore_nB (lvq := [(2, _), (1, _), (0, _)]) C 0 rfl rfl (by first | rfl | exact rf_cat _) dX5_step_17 rfl (by decide) rfl ?_
    exact w_sub [0, 1, 2] rfl (by have h9 := loop hun I2 M2 hv ((hI2 192 (by decide)).trans (if_pos rfl)) (fun i hi => (hVR i hi).1) (nFL N).length 0 z1 M2 (by omega) hm (kx.rf _ _) (fun i hi => by rw [show sD N 0 i = false from decide_eq_false (fun w => absurd w.2 (Nat.lt_irrefl _))]; exact hv.h i hi); rw [sC_0] at h9; exact h9)
  · have hun : ¬ nUn N (nRC N) = 0 := fun q9 => by rw [decide_eq_true q9] at c1; exact absurd c1 (by decide)
    refine w_iconst (v := (-1)) C dX5_step_12 (by decide) ?_
    exact w_iret C dX5_step_13 ⟨_, _, hm, (hI2 192 (by decide)).trans (if_pos rfl), Or.inl ⟨hun, rfl, hv⟩⟩
def rsI (N : NT) (g : Nat) (M1 : Nat → Nat → Int32) : Prop := ∀ i, i < nN N → M1 197 i = if i < g then nHd (nRes N) i else nHd N i
theorem mv_res {N : NT} {I : Nat → Int32} {M M1 : Nat → Nat → Int32} (hv : mv I M N) (hk : kx [197] M M1) (h : rsI N (nN N) M1) : mv I M1 (nRes N) := by
  refine ⟨hv.1, fun i hi => ⟨?_, ?_⟩, fun k hk9 => ?_⟩
  · rw [hk 196 (by decide)]; exact hv.s i hi
  · have hi' : i < nN N := hi
    rw [h i hi', if_pos hi']
  · rw [hk 198 (by decide), hk 199 (by decide), hk 200 (by decide)]; exact hv.2.2 k hk9
theorem rsI_skip {N : NT} {g : Nat} {M1 : Nat → Nat → Int32} (h : rsI N g M1) (hs : ¬ nSo N g = 1) : rsI N (g + 1) M1 := by
  intro i hi
  rw [h i hi]
  by_cases e : i = g
  · subst e
    rw [if_neg (Nat.lt_irrefl _), if_pos (Nat.lt_succ_self _)]
    exact (if_neg hs).symm
  · by_cases h2 : i < g
    · rw [if_pos h2, if_pos (by omega)]
    · rw [if_neg h2, if_neg (by omega)]
theorem rsI_do {N : NT} {g : Nat} {M1 : Nat → Nat → Int32} (h : rsI N g M1) (hs : nSo N g = 1) : rsI N (g + 1) (u2 M1 197 g 0) := by
  intro i hi
  by_cases e : i = g
  · subst e
    rw [u3_s, if_pos (Nat.lt_succ_self _)]
    exact (if_pos hs).symm
  · rw [u3_a e, h i hi]
    by_cases h2 : i < g
    · rw [if_pos h2, if_pos (by omega)]
    · rw [if_neg h2, if_neg (by omega)]
set_option maxHeartbeats 4000000 in
set_option maxRecDepth 100000 in
theorem c_mreset (l : Launch) (G : Gx) (z : Sto) {mo : Nat} {A : Nat → Nat} {I : Nat → Int32} {M : Nat → Nat → Int32} {N : NT} (h0 : mst z mo A I M) (hv : mv I M N) (hO : nOK N) : Ct l yX5_reset wsX5_reset ({ frames := 0, cells := 0, slots := 0, locals := 0 } : Room) G z [.ref mo] (fun rv z' => ∃ I' M', mR z z' mo A I' M' ∧ I' 192 = 0 ∧ rv = some (.int (nI (cnt (fun j => decide (nSo N j = 1 ∧ nHd N j = 1)) (nN N)))) ∧ mv I' M' (nRes N)) := by
  refine ct_of (cc := cX5_reset) (maxL := 3) (ret := (some .int)) (lv0 := [(0, .ref mo)]) (by decide) rfl (by simp [lg_sl, cat_ref, cat_null, cat_int, cat_long, rf_cat]) (by simp [lv_args, cat_ref, cat_null, cat_int, cat_long, rf_cat]) ?_
  intro p e s m args below meth c C hin
  have i6 : ∀ w ∈ u_ws RX5 TX5 16, w ∈ wsX5_reset := by decide +kernel
  have hm := mR.rf h0
  have hn := hO.1
  have hl := hO.2.1
  have loop : ∀ (I1 : Nat → Int32), mv I1 M N → I1 192 = 0 → ∀ (r g : Nat) (z1 : Sto) (M1 : Nat → Nat → Int32), g + r = nN N → mR z z1 mo A I1 M1 → kx [197] M M1 → rsI N g M1 → Wp p l e ({ frames := 0, cells := 0, slots := 0, locals := 0 } : Room) s m args below meth c G 3 0 0 (MQ below (cPost G (fun rv z' => ∃ I' M', mR z z' mo A I' M' ∧ I' 192 = 0 ∧ rv = some (.int (nI (cnt (fun j => decide (nSo N j = 1 ∧ nHd N j = 1)) (nN N)))) ∧ mv I' M' (nRes N))) args s (0) (0) (gA G)) z1 9 [(2, .int (nI g)), (1, .int (nI (cnt (fun j => decide (nSo N j = 1 ∧ nHd N j = 1)) g))), (0, .ref mo)] [] := by
    intro I1 hv h192 r
    induction r with
    | zero =>
      intro g z1 M1 hg hm hk1 hs
      have hgg : g = nN N := by omega
      subst hgg
      refine w_iload_n C 0 dX5_reset_9 rfl rfl ?_
      refine w_aload_n C 2 dX5_reset_10 rfl rfl (by first | rfl | exact isRef_rf _) ?_
      refine w_getI (ci := 6) (k := 1) (f := 193) C rfl i6 (by decide +kernel) (by decide) (by decide) rfl rfl dX5_reset_11 hm.o ((hm.i 193).trans hv.n) ?_
      refine w_icmp_ge (tgt := 52) C dX5_reset_14 (by decide) (fun c1 => ?_) (fun c1 => ?_)
      · refine w_iload_n C 1 dX5_reset_52 rfl rfl ?_
        exact w_iret C dX5_reset_53 ⟨_, _, hm, h192, rfl, mv_res hv hk1 hs⟩
      · exact absurd (nI_le (Nat.le_refl _) (by omega)) c1
    | succ r ih =>
      intro g z1 M1 hg hm hk1 hs
      have hgg : g < nN N := by omega
      have e196 : M1 196 g = nSo N g := by rw [hk1 196 (by decide)]; exact hv.s _ hgg
      have e197 : M1 197 g = nHd N g := by rw [hs g hgg, if_neg (Nat.lt_irrefl _)]
      have hcs : cnt (fun j => decide (nSo N j = 1 ∧ nHd N j = 1)) (g + 1) = cnt (fun j => decide (nSo N j = 1 ∧ nHd N j = 1)) g + (if decide (nSo N g = 1 ∧ nHd N g = 1) then 1 else 0) := rfl
      refine w_iload_n C 0 dX5_reset_9 rfl rfl ?_
      refine w_aload_n C 2 dX5_reset_10 rfl rfl (by first | rfl | exact isRef_rf _) ?_
      refine w_getI (ci := 6) (k := 1) (f := 193) C rfl i6 (by decide +kernel) (by decide) (by decide) rfl rfl dX5_reset_11 hm.o ((hm.i 193).trans hv.n) ?_
      refine w_icmp_ge (tgt := 52) C dX5_reset_14 (by decide) (fun c1 => ?_) (fun c1 => ?_)
      · exact absurd c1 (nI_ge hgg (by omega))
      · refine w_aload_n C 2 dX5_reset_17 rfl rfl (by first | rfl | exact isRef_rf _) ?_
        refine w_getRs (ci := 6) (k := 4) (f := 196) C rfl i6 (by decide +kernel) (by decide) (by decide) rfl rfl dX5_reset_18 hm.o (hm.r 196 rfl) ?_
        refine w_iload_n C 0 dX5_reset_21 rfl rfl ?_
        refine w_iald C dX5_reset_22 (hm.a 196 rfl rfl) rfl (hm.q 196 rfl (L := 600) rfl (by omega)) (hm.b 196 rfl) ((hm.e 196 rfl _).trans e196) ?_
        refine w_iconst (v := 1) C dX5_reset_23 (by decide) ?_
        refine w_icmp_eq (tgt := 30) C dX5_reset_24 (by decide) (fun c2 => ?_) (fun c2 => ?_)
        · have h01 := (hO.2.2.2.2.1 g hgg).2 c2
          refine w_iload_n C 1 dX5_reset_30 rfl rfl ?_
          refine w_aload_n C 2 dX5_reset_31 rfl rfl (by first | rfl | exact isRef_rf _) ?_
          refine w_getRs (ci := 6) (k := 5) (f := 197) C rfl i6 (by decide +kernel) (by decide) (by decide) rfl rfl dX5_reset_32 hm.o (hm.r 197 rfl) ?_
          refine w_iload_n C 0 dX5_reset_35 rfl rfl ?_
          refine w_iald C dX5_reset_36 (hm.a 197 rfl rfl) rfl (hm.q 197 rfl (L := 600) rfl (by omega)) (hm.b 197 rfl) ((hm.e 197 rfl _).trans e197) ?_
          refine w_iadd C dX5_reset_37 ?_
          have hsum : nI (cnt (fun j => decide (nSo N j = 1 ∧ nHd N j = 1)) g) + nHd N g = nI (cnt (fun j => decide (nSo N j = 1 ∧ nHd N j = 1)) (g + 1)) := by
            rw [hcs]
            rcases h01 with q9 | q9
            · rw [q9, decide_eq_false (fun q8 => absurd q8.2 (by decide)), if_neg (by decide), Nat.add_zero, Int32.add_zero]
            · rw [q9, decide_eq_true ⟨c2, rfl⟩, if_pos rfl, nI_1]
          refine w_inti hsum ?_
          refine w_istore_nB (lvq := [(1, _), (2, _), (0, _)]) C 2 rfl rfl (by first | rfl | exact rf_cat _) dX5_reset_38 rfl (by decide) rfl ?_
          refine w_aload_n C 2 dX5_reset_39 rfl rfl (by first | rfl | exact isRef_rf _) ?_
          refine w_getRs (ci := 6) (k := 5) (f := 197) C rfl i6 (by decide +kernel) (by decide) (by decide) rfl rfl dX5_reset_40 hm.o (hm.r 197 rfl) ?_
          refine w_iload_n C 1 dX5_reset_43 rfl rfl ?_
          refine w_iconst (v := 0) C dX5_reset_44 (by decide) ?_
          refine m_iast (f := 197) (L := 600) C dX5_reset_45 hm rfl rfl rfl rfl (by omega) (fun z1 hm => ?_)
          refine w_iincB (v := nI (g + 1)) (lvq := [(2, _), (1, _), (0, _)]) C 1 0 rfl rfl (by first | rfl | exact rf_cat _) dX5_reset_46 rfl (nI_1 g) (by decide) rfl ?_
          refine w_goto (tgt := 9) C dX5_reset_49 (by decide) ?_
          first
          | exact w_sub [0, 1, 2] rfl (hcs ▸ ih (g + 1) z1 M1 (by omega) hm hk1 (rsI_skip hs c2))
          | exact w_sub [0, 1, 2] rfl (ih (g + 1) z1 _ (by omega) hm (hk1.u (by decide) _ _) (rsI_do hs c2))
        · rw [decide_eq_false (fun q9 => c2 q9.1)] at hcs
          simp only [Bool.false_eq_true, if_false, Nat.add_zero] at hcs
          refine w_goto (tgt := 46) C dX5_reset_27 (by decide) ?_
          refine w_iincB (v := nI (g + 1)) (lvq := [(2, _), (1, _), (0, _)]) C 0 1 rfl rfl (by first | rfl | exact rf_cat _) dX5_reset_46 rfl (nI_1 g) (by decide) rfl ?_
          refine w_goto (tgt := 9) C dX5_reset_49 (by decide) ?_
          first
          | exact w_sub [0, 1, 2] rfl (hcs ▸ ih (g + 1) z1 M1 (by omega) hm hk1 (rsI_skip hs c2))
          | exact w_sub [0, 1, 2] rfl (ih (g + 1) z1 _ (by omega) hm (hk1.u (by decide) _ _) (rsI_do hs c2))
  refine w_aload_n C 0 dX5_reset_0 rfl rfl (by first | rfl | exact isRef_rf _) ?_
  refine w_iconst (v := 0) C dX5_reset_1 (by decide) ?_
  refine w_putI (ci := 6) (k := 0) (f := 192) (v := 0) C rfl i6 (by decide +kernel) (by decide) (by decide) rfl rfl tyX5 tyX5_ok nmX5 rfl rfl rfl dX5_reset_2 hm.o ?_
  refine m_kI hm (by decide) (fun z1 hm => ?_)
  replace hv := hv.P (f := 192) 0 (by decide) (by decide) (by decide)
  refine w_iconst (v := 0) C dX5_reset_5 (by decide) ?_
  refine w_istore_nB (lvq := [(1, _), (0, _)]) C 0 rfl rfl (by first | rfl | exact rf_cat _) dX5_reset_6 rfl (by decide) rfl ?_
  refine w_iconst (v := 0) C dX5_reset_7 (by decide) ?_
  refine w_istore_nB (lvq := [(2, _), (1, _), (0, _)]) C 0 rfl rfl (by first | rfl | exact rf_cat _) dX5_reset_8 rfl (by decide) rfl ?_
  exact w_sub [0, 1, 2] rfl (loop _ hv (if_pos rfl) (nN N) 0 z1 M (by omega) hm (kx.rf _ _) (fun i hi => by rw [if_neg (Nat.not_lt_zero _)]; exact hv.h i hi))
def blP (N : NT) (i q : Nat) (u : Nat) : Prop := ∃ j, j < q ∧ tk N j = i ∧ fk N j = u ∧ nV N (nRC N) u = 2
theorem blP_s (N : NT) (i q u : Nat) : (blP N i q u ∨ ((tk N q = i ∧ nV N (nRC N) (fk N q) = 2) ∧ u = fk N q)) ↔ blP N i (q + 1) u := by
  constructor
  · rintro (⟨j, h1, h2⟩ | ⟨⟨h1, h2⟩, h3⟩)
    · exact ⟨j, by omega, h2⟩
    · exact ⟨q, by omega, h1, h3.symm, by rw [h3]; exact h2⟩
  · rintro ⟨j, h1, h2, h3, h4⟩
    by_cases e : j = q
    · subst e
      exact Or.inr ⟨⟨h2, by rw [h3]; exact h4⟩, h3.symm⟩
    · exact Or.inl ⟨j, by omega, h2, h3, h4⟩
theorem blP_end (N : NT) (i u : Nat) : blP N i (nFL N).length u ↔ (nV N (nRC N) u = 2 ∧ u ∈ (nFd N i).map Prod.fst) := by
  rw [List.mem_map]
  constructor
  · rintro ⟨j, h1, h2, h3, h4⟩
    exact ⟨h4, (fk N j, gk N j), nFd_mem2.mpr ⟨j, h1, h2, rfl⟩, h3⟩
  · rintro ⟨h4, x, h1, h2⟩
    obtain ⟨j, j1, j2, j3⟩ := nFd_mem2.mp h1
    exact ⟨j, j1, j2, by rw [← h2, ← j3], h4⟩
set_option maxHeartbeats 4000000 in
set_option maxRecDepth 100000 in
theorem c_mblame (l : Launch) (G : Gx) (z : Sto) {mo : Nat} {A : Nat → Nat} {I : Nat → Int32} {M : Nat → Nat → Int32} {N : NT} (h0 : mst z mo A I M) (hv : mv I M N) (hO : nOK N) {i : Nat} (hi : i < nN N) : Ct l yX5_blame wsX5_blame ({ frames := 3, cells := 0, slots := 0, locals := 90 } : Room) G z [.ref mo, .int (nI i)] (fun rv z' => ∃ r, rv = some (.int r) ∧ ∃ I' M', mR z z' mo A I' M' ∧ I' 192 = 0 ∧ isBlm N i r ∧ mv I' M' N) := by
  refine ct_of (cc := cX5_blame) (maxL := 5) (ret := (some .int)) (lv0 := [(0, .ref mo), (1, .int (nI i))]) (by decide) rfl (by simp [lg_sl, cat_ref, cat_null, cat_int, cat_long, rf_cat]) (by simp [lv_args, cat_ref, cat_null, cat_int, cat_long, rf_cat]) ?_
  intro p e s m args below meth c C hin
  have i6 : ∀ w ∈ u_ws RX5 TX5 16, w ∈ wsX5_blame := by decide +kernel
  have hm := mR.rf h0
  have hn := hO.1
  have hl := hO.2.1
  have loop : ∀ (I1 : Nat → Int32) (M1 : Nat → Nat → Int32) (z1 : Sto), mv I1 M1 N → I1 192 = 0 → (∀ i, i < nN N → M1 201 i = nV N (nRC N) i) → mR z z1 mo A I1 M1 → nV N (nRC N) i = 2 → ¬ nSo N i = 0 → ∀ (r q : Nat) (le : Int32), q + r = (nFL N).length → isLst (blP N i q) le → Wp p l e ({ frames := 3, cells := 0, slots := 0, locals := 90 } : Room) s m args below meth c G 5 0 0 (MQ below (cPost G (fun rv z' => ∃ r, rv = some (.int r) ∧ ∃ I' M', mR z z' mo A I' M' ∧ I' 192 = 0 ∧ isBlm N i r ∧ mv I' M' N)) args s (0) (0) (gA G)) z1 55 [(3, .int (nI q)), (2, .int le), (0, .ref mo), (1, .int (nI i))] [] := by
    intro I1 M1 z1 hv h192 h1 hm hV2 hS r
    induction r with
    | zero =>
      intro q le hq hL
      have hqq : q = (nFL N).length := by omega
      subst hqq
      refine w_iload_n C 0 dX5_blame_55 rfl rfl ?_
      refine w_aload_n C 2 dX5_blame_56 rfl rfl (by first | rfl | exact isRef_rf _) ?_
      refine w_getI (ci := 6) (k := 2) (f := 194) C rfl i6 (by decide +kernel) (by decide) (by decide) rfl rfl dX5_blame_57 hm.o ((hm.i 194).trans hv.l) ?_
      refine w_icmp_ge (tgt := 128) C dX5_blame_60 (by decide) (fun c1 => ?_) (fun c1 => ?_)
      · refine w_iload_n C 1 dX5_blame_128 rfl rfl ?_
        exact w_iret C dX5_blame_129 ⟨_, rfl, _, _, hm, h192, Or.inr (Or.inr ⟨hV2, hS, hL.ext (blP_end N i)⟩), hv⟩
      · exact absurd (nI_le (Nat.le_refl _) (by omega)) c1
    | succ r ih =>
      intro q le hq hL
      have hqq : q < (nFL N).length := by omega
      obtain ⟨b1, b2, b3⟩ := fl_b hO hqq
      have hmo := (hL.more (fun u hu => by obtain ⟨j, j1, -, j3, -⟩ := hu; have := (fl_b hO (k := j) (by omega)).2.1; omega) (x := fk N q) (by omega) (b := tk N q = i ∧ nV N (nRC N) (fk N q) = 2) (db := inferInstance)).ext (blP_s N i q)
      have k0 : (¬ (tk N q = i ∧ nV N (nRC N) (fk N q) = 2)) → Wp p l e ({ frames := 3, cells := 0, slots := 0, locals := 90 } : Room) s m args below meth c G 5 0 0 (MQ below (cPost G (fun rv z' => ∃ r, rv = some (.int r) ∧ ∃ I' M', mR z z' mo A I' M' ∧ I' 192 = 0 ∧ isBlm N i r ∧ mv I' M' N)) args s (0) (0) (gA G)) z1 93 [(3, .int (nI q)), (2, .int le), (0, .ref mo), (1, .int (nI i))] [.int 0] := by
        intro hb
        rw [if_neg (fun w9 => hb w9.1)] at hmo
        refine w_istoreB (lvq := [(4, _), (3, _), (2, _), (0, _), (1, _)]) C 0 rfl rfl (by first | rfl | exact rf_cat _) dX5_blame_93 (by decide) rfl ?_
        refine w_iload C 0 dX5_blame_95 rfl ?_
        refine w_if_eq (tgt := 122) C dX5_blame_97 (by decide) (fun c4 => ?_) (fun c4 => ?_)
        · refine w_iincB (v := nI (q + 1)) (lvq := [(3, _), (4, _), (2, _), (0, _), (1, _)]) C 1 2 rfl rfl (by first | rfl | exact rf_cat _) dX5_blame_122 rfl (nI_1 q) (by decide) rfl ?_
          refine w_goto (tgt := 55) C dX5_blame_125 (by decide) ?_
          exact w_sub [0, 2, 3, 4] rfl (ih (q + 1) _ (by omega) hmo)
        · exact absurd rfl c4
      have k1 : (tk N q = i ∧ nV N (nRC N) (fk N q) = 2) → Wp p l e ({ frames := 3, cells := 0, slots := 0, locals := 90 } : Room) s m args below meth c G 5 0 0 (MQ below (cPost G (fun rv z' => ∃ r, rv = some (.int r) ∧ ∃ I' M', mR z z' mo A I' M' ∧ I' 192 = 0 ∧ isBlm N i r ∧ mv I' M' N)) args s (0) (0) (gA G)) z1 93 [(3, .int (nI q)), (2, .int le), (0, .ref mo), (1, .int (nI i))] [.int 1] := by
        intro hb
        refine w_istoreB (lvq := [(4, _), (3, _), (2, _), (0, _), (1, _)]) C 0 rfl rfl (by first | rfl | exact rf_cat _) dX5_blame_93 (by decide) rfl ?_
        refine w_iload C 0 dX5_blame_95 rfl ?_
        refine w_if_eq (tgt := 122) C dX5_blame_97 (by decide) (fun c4 => ?_) (fun c4 => ?_)
        · exact absurd c4 (by decide)
        · refine w_iload_n C 2 dX5_blame_100 rfl rfl ?_
          refine w_iconst (v := (-1)) C dX5_blame_101 (by decide) ?_
          refine w_icmp_eq (tgt := 115) C dX5_blame_102 (by decide) (fun c5 => ?_) (fun c5 => ?_)
          · rw [if_pos ⟨hb, Or.inl c5⟩] at hmo
            refine w_aload_n C 3 dX5_blame_115 rfl rfl (by first | rfl | exact isRef_rf _) ?_
            refine w_getRs (ci := 6) (k := 7) (f := 199) C rfl i6 (by decide +kernel) (by decide) (by decide) rfl rfl dX5_blame_116 hm.o (hm.r 199 rfl) ?_
            refine w_iload_n C 1 dX5_blame_119 rfl rfl ?_
            refine w_iald C dX5_blame_120 (hm.a 199 rfl rfl) rfl (hm.q 199 rfl (L := 2400) rfl (by omega)) (hm.b 199 rfl) ((hm.e 199 rfl _).trans (hv.f _ (by omega))) ?_
            refine w_istore_nB (lvq := [(2, _), (4, _), (3, _), (0, _), (1, _)]) C 4 rfl rfl (by first | rfl | exact rf_cat _) dX5_blame_121 rfl (by decide) rfl ?_
            refine w_iincB (v := nI (q + 1)) (lvq := [(3, _), (2, _), (4, _), (0, _), (1, _)]) C 2 0 rfl rfl (by first | rfl | exact rf_cat _) dX5_blame_122 rfl (nI_1 q) (by decide) rfl ?_
            refine w_goto (tgt := 55) C dX5_blame_125 (by decide) ?_
            exact w_sub [0, 1, 3, 4] rfl (ih (q + 1) _ (by omega) hmo)
          · refine w_aload_n C 3 dX5_blame_105 rfl rfl (by first | rfl | exact isRef_rf _) ?_
            refine w_getRs (ci := 6) (k := 7) (f := 199) C rfl i6 (by decide +kernel) (by decide) (by decide) rfl rfl dX5_blame_106 hm.o (hm.r 199 rfl) ?_
            refine w_iload_n C 1 dX5_blame_109 rfl rfl ?_
            refine w_iald C dX5_blame_110 (hm.a 199 rfl rfl) rfl (hm.q 199 rfl (L := 2400) rfl (by omega)) (hm.b 199 rfl) ((hm.e 199 rfl _).trans (hv.f _ (by omega))) ?_
            refine w_iload_n C 2 dX5_blame_111 rfl rfl ?_
            refine w_icmp_ge (tgt := 122) C dX5_blame_112 (by decide) (fun c6 => ?_) (fun c6 => ?_)
            · rw [if_neg (fun w9 => w9.2.elim c5 (fun w8 => absurd w8 (Int32.not_lt.mpr c6)))] at hmo
              refine w_iincB (v := nI (q + 1)) (lvq := [(3, _), (4, _), (2, _), (0, _), (1, _)]) C 1 2 rfl rfl (by first | rfl | exact rf_cat _) dX5_blame_122 rfl (nI_1 q) (by decide) rfl ?_
              refine w_goto (tgt := 55) C dX5_blame_125 (by decide) ?_
              exact w_sub [0, 2, 3, 4] rfl (ih (q + 1) _ (by omega) hmo)
            · rw [if_pos ⟨hb, Or.inr (Int32.not_le.mp c6)⟩] at hmo
              refine w_aload_n C 3 dX5_blame_115 rfl rfl (by first | rfl | exact isRef_rf _) ?_
              refine w_getRs (ci := 6) (k := 7) (f := 199) C rfl i6 (by decide +kernel) (by decide) (by decide) rfl rfl dX5_blame_116 hm.o (hm.r 199 rfl) ?_
              refine w_iload_n C 1 dX5_blame_119 rfl rfl ?_
              refine w_iald C dX5_blame_120 (hm.a 199 rfl rfl) rfl (hm.q 199 rfl (L := 2400) rfl (by omega)) (hm.b 199 rfl) ((hm.e 199 rfl _).trans (hv.f _ (by omega))) ?_
              refine w_istore_nB (lvq := [(2, _), (4, _), (3, _), (0, _), (1, _)]) C 4 rfl rfl (by first | rfl | exact rf_cat _) dX5_blame_121 rfl (by decide) rfl ?_
              refine w_iincB (v := nI (q + 1)) (lvq := [(3, _), (2, _), (4, _), (0, _), (1, _)]) C 2 0 rfl rfl (by first | rfl | exact rf_cat _) dX5_blame_122 rfl (nI_1 q) (by decide) rfl ?_
              refine w_goto (tgt := 55) C dX5_blame_125 (by decide) ?_
              exact w_sub [0, 1, 3, 4] rfl (ih (q + 1) _ (by omega) hmo)
      refine w_iload_n C 0 dX5_blame_55 rfl rfl ?_
      refine w_aload_n C 2 dX5_blame_56 rfl rfl (by first | rfl | exact isRef_rf _) ?_
      refine w_getI (ci := 6) (k := 2) (f := 194) C rfl i6 (by decide +kernel) (by decide) (by decide) rfl rfl dX5_blame_57 hm.o ((hm.i 194).trans hv.l) ?_
      refine w_icmp_ge (tgt := 128) C dX5_blame_60 (by decide) (fun c1 => ?_) (fun c1 => ?_)
      · exact absurd c1 (nI_ge hqq (by omega))
      · refine w_aload_n C 2 dX5_blame_63 rfl rfl (by first | rfl | exact isRef_rf _) ?_
        refine w_getRs (ci := 6) (k := 6) (f := 198) C rfl i6 (by decide +kernel) (by decide) (by decide) rfl rfl dX5_blame_64 hm.o (hm.r 198 rfl) ?_
        refine w_iload_n C 0 dX5_blame_67 rfl rfl ?_
        refine w_iald C dX5_blame_68 (hm.a 198 rfl rfl) rfl (hm.q 198 rfl (L := 2400) rfl (by omega)) (hm.b 198 rfl) ((hm.e 198 rfl _).trans (hv.t _ (by omega))) ?_
        refine w_iload_n C 3 dX5_blame_69 rfl rfl ?_
        refine w_icmp_ne (tgt := 92) C dX5_blame_70 (by decide) (fun c2 => ?_) (fun c2 => ?_)
        · have hb : ¬ (tk N q = i ∧ nV N (nRC N) (fk N q) = 2) := fun w9 => c2 (by rw [w9.1])
          refine w_iconst (v := 0) C dX5_blame_92 (by decide) ?_
          first
          | exact w_sub [0, 1, 2, 3] rfl (k0 hb)
          | exact w_sub [0, 1, 2, 3] rfl (k1 ⟨h9t, c3⟩)
        · have h9t : tk N q = i := (nI_eq (by omega) (by omega)).mp c2
          refine w_aload_n C 2 dX5_blame_73 rfl rfl (by first | rfl | exact isRef_rf _) ?_
          refine w_getRs (ci := 6) (k := 9) (f := 201) C rfl i6 (by decide +kernel) (by decide) (by decide) rfl rfl dX5_blame_74 hm.o (hm.r 201 rfl) ?_
          refine w_aload_n C 2 dX5_blame_77 rfl rfl (by first | rfl | exact isRef_rf _) ?_
          refine w_getRs (ci := 6) (k := 7) (f := 199) C rfl i6 (by decide +kernel) (by decide) (by decide) rfl rfl dX5_blame_78 hm.o (hm.r 199 rfl) ?_
          refine w_iload_n C 0 dX5_blame_81 rfl rfl ?_
          refine w_iald C dX5_blame_82 (hm.a 199 rfl rfl) rfl (hm.q 199 rfl (L := 2400) rfl (by omega)) (hm.b 199 rfl) ((hm.e 199 rfl _).trans (hv.f _ (by omega))) ?_
          refine w_iald C dX5_blame_83 (hm.a 201 rfl rfl) rfl (hm.q 201 rfl (L := 600) rfl (by omega)) (hm.b 201 rfl) ((hm.e 201 rfl _).trans (h1 _ b2)) ?_
          refine w_iconst (v := 2) C dX5_blame_84 (by decide) ?_
          refine w_icmp_ne (tgt := 92) C dX5_blame_85 (by decide) (fun c3 => ?_) (fun c3 => ?_)
          · have hb : ¬ (tk N q = i ∧ nV N (nRC N) (fk N q) = 2) := fun w9 => c3 w9.2
            refine w_iconst (v := 0) C dX5_blame_92 (by decide) ?_
            first
            | exact w_sub [0, 1, 2, 3] rfl (k0 hb)
            | exact w_sub [0, 1, 2, 3] rfl (k1 ⟨h9t, c3⟩)
          · refine w_iconst (v := 1) C dX5_blame_88 (by decide) ?_
            refine w_goto (tgt := 93) C dX5_blame_89 (by decide) ?_
            first
            | exact w_sub [0, 1, 2, 3] rfl (k0 hb)
            | exact w_sub [0, 1, 2, 3] rfl (k1 ⟨h9t, c3⟩)
  refine w_aload_n C 0 dX5_blame_0 rfl rfl (by first | rfl | exact isRef_rf _) ?_
  refine w_aload_n C 0 dX5_blame_1 rfl rfl (by first | rfl | exact isRef_rf _) ?_
  refine w_iload_n C 1 dX5_blame_2 rfl rfl ?_
  refine w_callV (ci := 6) (As := [.int (nI i)]) (rest := [.ref mo]) C (cwV 1 C.1.2.2.2.2 gX5_blame_X5_isGate rfl rfl rfl (by decide +kernel) ⟨Nat.le_of_ble_eq_true rfl, Nat.le_of_ble_eq_true rfl⟩) hm.o rfl (by decide) rfl rfl (by first | decide | simp [cat_ref, cat_null, cat_int, cat_long, rf_cat]) dX5_blame_3 ⟨Nat.le_of_ble_eq_true rfl, Nat.le_of_ble_eq_true rfl⟩ (c_isGateT l G _ hm.2 hv hO (i := i) (by omega)) (fun rv z2 h9 => ?_)
  obtain ⟨rfl, e9⟩ := h9
  replace e9 := e9.symm
  subst e9
  refine w_if_ne (tgt := 13) C dX5_blame_6 (by decide) (fun c1 => ?_) (fun c1 => ?_)
  · refine w_iconst (v := 0) C dX5_blame_13 (by decide) ?_
    refine w_iconst (v := 0) C dX5_blame_14 (by decide) ?_
    refine w_callV (ci := 6) (As := [.int 0, .int 0]) (rest := []) C (cwV 2 C.1.2.2.2.2 gX5_blame_X5_fails rfl rfl rfl (by decide +kernel) ⟨Nat.le_of_ble_eq_true rfl, Nat.le_of_ble_eq_true rfl⟩) hm.o rfl (by decide) rfl rfl (by first | decide | simp [cat_ref, cat_null, cat_int, cat_long, rf_cat]) dX5_blame_15 ⟨Nat.le_of_ble_eq_true rfl, Nat.le_of_ble_eq_true rfl⟩ (c_fails l G _ hm.2 (Or.inr (Or.inr ⟨rfl, rfl, rfl, rfl⟩))) (fun rv z1 h9 => ?_)
    obtain ⟨rfl, hm1⟩ := h9
    replace hm := hm.tr hm1
    replace hv := hv.P (f := 192) 0 (by decide) (by decide) (by decide)
    refine w_if_eq (tgt := 23) C dX5_blame_18 (by decide) (fun c2 => ?_) (fun c2 => ?_)
    · refine w_aload_n C 0 dX5_blame_23 rfl rfl (by first | rfl | exact isRef_rf _) ?_
      refine w_callV (ci := 6) (As := []) (rest := []) C (cwV 0 C.1.2.2.2.2 gX5_blame_X5_spread rfl rfl rfl (by decide +kernel) ⟨Nat.le_of_ble_eq_true rfl, Nat.le_of_ble_eq_true rfl⟩) hm.o rfl (by decide) rfl rfl (by first | decide | simp [cat_ref, cat_null, cat_int, cat_long, rf_cat]) dX5_blame_24 ⟨Nat.le_of_ble_eq_true rfl, Nat.le_of_ble_eq_true rfl⟩ (c_mspread l G _ hm.2 hv hO) (fun rv z1 h9 => ?_)
      obtain ⟨I2, M2, rfl, hm2, hk2, hI2, hVR, h204⟩ := h9
      replace hm := hm.tr hm2
      replace hv := mv_sp hv hk2 hI2
      refine w_pop C dX5_blame_27 (by first | rfl | exact rf_cat _) ?_
      refine w_aload_n C 0 dX5_blame_28 rfl rfl (by first | rfl | exact isRef_rf _) ?_
      refine w_getRs (ci := 6) (k := 9) (f := 201) C rfl i6 (by decide +kernel) (by decide) (by decide) rfl rfl dX5_blame_29 hm.o (hm.r 201 rfl) ?_
      refine w_iload_n C 1 dX5_blame_32 rfl rfl ?_
      refine w_iald C dX5_blame_33 (hm.a 201 rfl rfl) rfl (hm.q 201 rfl (L := 600) rfl (by omega)) (hm.b 201 rfl) ((hm.e 201 rfl _).trans (hVR _ hi).1) ?_
      refine w_iconst (v := 2) C dX5_blame_34 (by decide) ?_
      refine w_icmp_eq (tgt := 40) C dX5_blame_35 (by decide) (fun c3 => ?_) (fun c3 => ?_)
      · refine w_aload_n C 0 dX5_blame_40 rfl rfl (by first | rfl | exact isRef_rf _) ?_
        refine w_getRs (ci := 6) (k := 4) (f := 196) C rfl i6 (by decide +kernel) (by decide) (by decide) rfl rfl dX5_blame_41 hm.o (hm.r 196 rfl) ?_
        refine w_iload_n C 1 dX5_blame_44 rfl rfl ?_
        refine w_iald C dX5_blame_45 (hm.a 196 rfl rfl) rfl (hm.q 196 rfl (L := 600) rfl (by omega)) (hm.b 196 rfl) ((hm.e 196 rfl _).trans (hv.s _ (by omega))) ?_
        refine w_if_ne (tgt := 51) C dX5_blame_46 (by decide) (fun c4 => ?_) (fun c4 => ?_)
        · refine w_iconst (v := (-1)) C dX5_blame_51 (by decide) ?_
          refine w_istore_nB (lvq := [(2, _), (0, _), (1, _)]) C 1 rfl rfl (by first | rfl | exact rf_cat _) dX5_blame_52 rfl (by decide) rfl ?_
          refine w_iconst (v := 0) C dX5_blame_53 (by decide) ?_
          refine w_istore_nB (lvq := [(3, _), (2, _), (0, _), (1, _)]) C 0 rfl rfl (by first | rfl | exact rf_cat _) dX5_blame_54 rfl (by decide) rfl ?_
          exact w_sub [0, 1, 2, 3] rfl (loop I2 M2 z1 hv ((hI2 192 (by decide)).trans (if_pos rfl)) (fun i hi => (hVR i hi).1) hm c3 c4 (nFL N).length 0 (-1) (by omega) (Or.inr ⟨fun u hu => (by obtain ⟨j, j1, -⟩ := hu; cases j1), rfl⟩))
        · refine w_iload_n C 1 dX5_blame_49 rfl rfl ?_
          exact w_iret C dX5_blame_50 ⟨_, rfl, _, _, hm, (hI2 192 (by decide)).trans (if_pos rfl), Or.inr (Or.inl ⟨c3, c4, rfl⟩), hv⟩
      · refine w_iconst (v := (-1)) C dX5_blame_38 (by decide) ?_
        exact w_iret C dX5_blame_39 ⟨_, rfl, _, _, hm, (hI2 192 (by decide)).trans (if_pos rfl), Or.inl ⟨c3, rfl⟩, hv⟩
    · exact absurd rfl c2
  · exact absurd c1 (by decide)
set_option maxHeartbeats 4000000 in
set_option maxRecDepth 100000 in
theorem x_mblame (l : Launch) (G : Gx) (z : Sto) {mo : Nat} {A : Nat → Nat} {I : Nat → Int32} {M : Nat → Nat → Int32} {N : NT} (h0 : mst z mo A I M) (hv : mv I M N) (hO : nOK N) {j : Int32} (hj : j < 0 ∨ nI (nN N) ≤ j) : Ct l yX5_blame wsX5_blame ({ frames := 1, cells := 0, slots := 0, locals := 30 } : Room) G z [.ref mo, .int j] (fun rv z' => (∃ v, rv = some (.int v)) ∧ mR z z' mo A (va_up I 192 1) M) := by
  refine ct_of (cc := cX5_blame) (maxL := 5) (ret := (some .int)) (lv0 := [(0, .ref mo), (1, .int j)]) (by decide) rfl (by simp [lg_sl, cat_ref, cat_null, cat_int, cat_long, rf_cat]) (by simp [lv_args, cat_ref, cat_null, cat_int, cat_long, rf_cat]) ?_
  intro p e s m args below meth c C hin
  have i6 : ∀ w ∈ u_ws RX5 TX5 16, w ∈ wsX5_blame := by decide +kernel
  have hm := mR.rf h0
  have hn := hO.1
  have hl := hO.2.1
  refine w_aload_n C 0 dX5_blame_0 rfl rfl (by first | rfl | exact isRef_rf _) ?_
  refine w_aload_n C 0 dX5_blame_1 rfl rfl (by first | rfl | exact isRef_rf _) ?_
  refine w_iload_n C 1 dX5_blame_2 rfl rfl ?_
  refine w_callV (ci := 6) (As := [.int j]) (rest := [.ref mo]) C (cwV 1 C.1.2.2.2.2 gX5_blame_X5_isGate rfl rfl rfl (by decide +kernel) ⟨Nat.le_of_ble_eq_true rfl, Nat.le_of_ble_eq_true rfl⟩) hm.o rfl (by decide) rfl rfl (by first | decide | simp [cat_ref, cat_null, cat_int, cat_long, rf_cat]) dX5_blame_3 ⟨Nat.le_of_ble_eq_true rfl, Nat.le_of_ble_eq_true rfl⟩ (c_isGateF l G _ hm.2 hv hO hj) (fun rv z2 h9 => ?_)
  obtain ⟨rfl, e9⟩ := h9
  replace e9 := e9.symm
  subst e9
  refine w_if_ne (tgt := 13) C dX5_blame_6 (by decide) (fun c1 => ?_) (fun c1 => ?_)
  · exact absurd rfl c1
  · refine w_iconst (v := 1) C dX5_blame_9 (by decide) ?_
    refine w_goto (tgt := 14) C dX5_blame_10 (by decide) ?_
    refine w_iconst (v := 0) C dX5_blame_14 (by decide) ?_
    refine w_callV (ci := 6) (As := [.int 1, .int 0]) (rest := []) C (cwV 2 C.1.2.2.2.2 gX5_blame_X5_fails rfl rfl rfl (by decide +kernel) ⟨Nat.le_of_ble_eq_true rfl, Nat.le_of_ble_eq_true rfl⟩) hm.o rfl (by decide) rfl rfl (by first | decide | simp [cat_ref, cat_null, cat_int, cat_long, rf_cat]) dX5_blame_15 ⟨Nat.le_of_ble_eq_true rfl, Nat.le_of_ble_eq_true rfl⟩ (c_fails l G _ hm.2 (t := 1) (r := 1) (Or.inl ⟨rfl, rfl, rfl⟩)) (fun rv z1 h9 => ?_)
    obtain ⟨rfl, hm1⟩ := h9
    replace hm := hm.tr hm1
    refine w_if_eq (tgt := 23) C dX5_blame_18 (by decide) (fun c2 => ?_) (fun c2 => ?_)
    · exact absurd c2 (by decide)
    · refine w_iconst (v := 0) C dX5_blame_21 (by decide) ?_
      exact w_iret C dX5_blame_22 ⟨⟨_, rfl⟩, hm⟩
