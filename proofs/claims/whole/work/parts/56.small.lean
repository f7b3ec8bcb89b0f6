/-! ===== the reference: the small methods ===== -/
theorem m_kI {p : Program} {l : Launch} {e : Env} {R : Room} {s : State} {m : MethodId} {args : Array Value} {below : List Frame} {meth : Method} {c : Code} {G : Gx} {nL cells slots : Nat} {Q : State → Prop} {z0 z : Sto} {pc : Nat} {lv : List (Nat × Value)} {st : List Value} {mo : Nat} {A : Nat → Nat} {I : Nat → Int32} {M : Nat → Nat → Int32} {f : Nat} {v : Int32} (hm : mR z0 z mo A I M) (hf : 192 ≤ f) (kk : ∀ z1, mR z0 z1 mo A (va_up I f v) M → Wp p l e R s m args below meth c G nL cells slots Q z1 pc lv st) : Wp p l e R s m args below meth c G nL cells slots Q (putI z f mo v) pc lv st := kk _ (hm.P f hf v)
theorem cnt_flt {α : Type} (P : α → Bool) (d : α) : ∀ (L : List α), cnt (fun k => P (L.getD k d)) L.length = (L.filter P).length := by
  intro L
  induction L with
  | nil => rfl
  | cons a L ih =>
    have h1 := cnt_shift (fun k => P ((a :: L).getD k d)) 1 L.length
    have h2 : cnt (fun b => P ((a :: L).getD (1 + b) d)) L.length = cnt (fun k => P (L.getD k d)) L.length := cnt_congr (fun b _ => by rw [Nat.add_comm 1 b]; rfl)
    rw [h2, ih] at h1
    rw [List.length_cons, Nat.add_comm L.length 1, h1, List.filter_cons]
    have h3 : cnt (fun k => P ((a :: L).getD k d)) 1 = if P a then 1 else 0 := by
      show 0 + (if P ((a :: L).getD 0 d) then 1 else 0) = _
      rw [Nat.zero_add]; rfl
    rw [h3]
    cases P a with
    | true => rw [if_pos rfl, if_pos rfl, List.length_cons, Nat.add_comm]
    | false => rw [if_neg (by decide), if_neg (by decide), Nat.zero_add]
theorem cnt_tk (N : NT) (g : Nat) : cnt (fun k => decide (tk N k = g)) (nFL N).length = (nFd N g).length := by
  rw [nFd_len]
  exact cnt_flt (fun t => decide (t.1 = g)) (0, 0, 0) (nFL N)
theorem can_0 {N : NT} {t : Nat} (h : nSo N t = 0) : ¬ nCan N t := by
  rintro (q | q)
  · rw [h] at q; exact absurd q (by decide)
  · rw [h] at q; exact absurd q.1 (by decide)
theorem can_1 {N : NT} {t : Nat} (h : nSo N t = 1) (hl : ¬ (nFd N t).length = 0) : ¬ nCan N t := by
  rintro (q | q)
  · rw [h] at q; exact absurd q (by decide)
  · exact hl q.2
theorem can_2 {N : NT} (hO : nOK N) {t : Nat} (ht : t < nN N) (h0 : ¬ nSo N t = 0) (h1 : ¬ nSo N t = 1) : nCan N t := by
  refine Or.inl ?_
  unfold isLog
  rcases hO.2.2.2.1 t ht with q | q | q | q
  · exact absurd q h0
  · exact absurd q h1
  · rw [q]; rfl
  · rw [q]; rfl
theorem nFd_le {N : NT} (hO : nOK N) (t : Nat) : (nFd N t).length ≤ 2400 := by rw [nFd_len]; exact Nat.le_trans (List.length_filter_le _ _) hO.2.1
theorem mv_gate {I : Nat → Int32} {M : Nat → Nat → Int32} {N : NT} (h : mv I M N) {s u w : Int32} (hw : w = if s = 0 then 2 else 0) (hu : u = nI (cnt (fun i => decide (nSo N i = 0)) (nN N) + (if s = 0 then 1 else 0))) : mv (va_up (va_up I 195 u) 193 (nI (nN N) + 1)) (u2 (u2 M 196 (nN N) s) 197 (nN N) w) (nGate N s) := by
  refine ⟨⟨nI_1 _, h.l, ?_⟩, fun i hi => ?_, fun k hk => ?_⟩
  · show u = nI (cnt (fun i => decide (nSo (nGate N s) i = 0)) (nN N + 1))
    rw [cnt_so, hu]
  · show u2 (u2 M 196 (nN N) s) 197 (nN N) w 196 i = va_up (nSo N) (nN N) s i ∧ u2 (u2 M 196 (nN N) s) 197 (nN N) w 197 i = va_up (nHd N) (nN N) (if s = 0 then 2 else 0) i
    rw [u3_f (show (196 : Nat) ≠ 197 by decide)]
    have hi' : i < nN N + 1 := hi
    by_cases hin : i = nN N
    · subst hin
      rw [u3_s, u3_s, hw]
      exact ⟨(if_pos rfl).symm, (if_pos rfl).symm⟩
    · rw [u3_a hin, u3_a hin, u3_f (show (197 : Nat) ≠ 196 by decide)]
      obtain ⟨q1, q2⟩ := h.2.1 i (by omega)
      exact ⟨q1.trans (if_neg hin).symm, q2.trans (if_neg hin).symm⟩
  · rw [u3_f (show (198 : Nat) ≠ 197 by decide), u3_f (show (198 : Nat) ≠ 196 by decide), u3_f (show (199 : Nat) ≠ 197 by decide), u3_f (show (199 : Nat) ≠ 196 by decide), u3_f (show (200 : Nat) ≠ 197 by decide), u3_f (show (200 : Nat) ≠ 196 by decide)]
    exact h.2.2 k hk
theorem getD_app {α : Type} (L : List α) (a d : α) (k : Nat) : (L ++ [a]).getD k d = if k < L.length then L.getD k d else if k = L.length then a else d := by
  rw [List.getD_eq_getElem?_getD, List.getD_eq_getElem?_getD]
  by_cases h : k < L.length
  · rw [if_pos h, List.getElem?_append_left h]
  · rw [if_neg h, List.getElem?_append_right (by omega)]
    by_cases h2 : k = L.length
    · rw [if_pos h2, h2, Nat.sub_self]; rfl
    · rw [if_neg h2, show k - L.length = (k - L.length - 1) + 1 by omega]; rfl
theorem mv_feed {I : Nat → Int32} {M : Nat → Nat → Int32} {N : NT} (h : mv I M N) {t f : Nat} {g : Int32} : mv (va_up I 194 (nI (nFL N).length + 1)) (u2 (u2 (u2 M 198 (nFL N).length (nI t)) 199 (nFL N).length (nI f)) 200 (nFL N).length g) (nFeed N t f g) := by
  refine ⟨⟨h.n, ?_, h.u⟩, fun i hi => ?_, fun k hk => ?_⟩
  · show nI (nFL N).length + 1 = nI (nFL N ++ [(t, f, g)]).length
    rw [List.length_append, nI_1]; rfl
  · rw [u3_f (show (196 : Nat) ≠ 200 by decide), u3_f (show (196 : Nat) ≠ 199 by decide), u3_f (show (196 : Nat) ≠ 198 by decide), u3_f (show (197 : Nat) ≠ 200 by decide), u3_f (show (197 : Nat) ≠ 199 by decide), u3_f (show (197 : Nat) ≠ 198 by decide)]
    exact h.2.1 i hi
  · have hk' : k < (nFL N ++ [(t, f, g)]).length := hk
    rw [List.length_append] at hk'
    have hk2 : k < (nFL N).length + 1 := hk'
    rw [u3_f (show (198 : Nat) ≠ 200 by decide), u3_f (show (198 : Nat) ≠ 199 by decide), u3_f (show (199 : Nat) ≠ 200 by decide)]
    have e : (nFL (nFeed N t f g)).getD k (0, 0, 0) = if k < (nFL N).length then (nFL N).getD k (0, 0, 0) else if k = (nFL N).length then (t, f, g) else (0, 0, 0) := getD_app _ _ _ _
    unfold tk fk gk
    rw [e]
    by_cases hkl : k = (nFL N).length
    · subst hkl
      rw [u3_s, u3_s, u3_s, if_neg (Nat.lt_irrefl _), if_pos rfl]
      exact ⟨rfl, rfl, rfl⟩
    · rw [u3_a hkl, u3_a hkl, u3_a hkl, u3_f (show (199 : Nat) ≠ 198 by decide), u3_f (show (200 : Nat) ≠ 199 by decide), u3_f (show (200 : Nat) ≠ 198 by decide), if_pos (by omega)]
      exact h.2.2 k (by omega)
theorem mv_set {I : Nat → Int32} {M : Nat → Nat → Int32} {N : NT} (h : mv I M N) (i : Nat) (v : Int32) : mv I (u2 M 197 i v) (nSet N i v) := by
  refine ⟨h.1, fun j hj => ?_, fun k hk => ?_⟩
  · rw [u3_f (show (196 : Nat) ≠ 197 by decide)]
    refine ⟨(h.2.1 j hj).1, ?_⟩
    show _ = va_up (nHd N) i v j
    by_cases hji : j = i
    · subst hji; rw [u3_s]; exact (if_pos rfl).symm
    · rw [u3_a hji]; exact (h.2.1 j hj).2.trans (if_neg hji).symm
  · rw [u3_f (show (198 : Nat) ≠ 197 by decide), u3_f (show (199 : Nat) ≠ 197 by decide), u3_f (show (200 : Nat) ≠ 197 by decide)]
    exact h.2.2 k hk
set_option maxHeartbeats 4000000 in
set_option maxRecDepth 100000 in
theorem c_mThrown (l : Launch) (G : Gx) (z : Sto) {mo : Nat} {A : Nat → Nat} {I : Nat → Int32} {M : Nat → Nat → Int32} (h0 : mst z mo A I M) : Ct l yX5_thrown wsX5_thrown ({ frames := 0, cells := 0, slots := 0, locals := 0 } : Room) G z [.ref mo] (fun rv z' => rv = some (.int (I 192)) ∧ z' = z) := by
  refine ct_of (cc := cX5_thrown) (maxL := 1) (ret := (some .int)) (lv0 := [(0, .ref mo)]) (by decide) rfl (by simp [lg_sl, cat_ref, cat_null, cat_int, cat_long, rf_cat]) (by simp [lv_args, cat_ref, cat_null, cat_int, cat_long, rf_cat]) ?_
  intro p e s m args below meth c C hin
  have i6 : ∀ w ∈ u_ws RX5 TX5 16, w ∈ wsX5_thrown := by decide +kernel
  have hm := mR.rf h0
  refine w_aload_n C 0 dX5_thrown_0 rfl rfl (by first | rfl | exact isRef_rf _) ?_
  refine w_getI (ci := 6) (k := 0) (f := 192) C rfl i6 (by decide +kernel) (by decide) (by decide) rfl rfl dX5_thrown_1 hm.o (hm.i 192) ?_
  exact w_iret C dX5_thrown_4 ⟨rfl, rfl⟩
set_option maxHeartbeats 4000000 in
set_option maxRecDepth 100000 in
theorem c_isGateT (l : Launch) (G : Gx) (z : Sto) {mo : Nat} {A : Nat → Nat} {I : Nat → Int32} {M : Nat → Nat → Int32} {N : NT} (h0 : mst z mo A I M) (hv : mv I M N) (hO : nOK N) {i : Nat} (hi : i < nN N) : Ct l yX5_isGate wsX5_isGate ({ frames := 0, cells := 0, slots := 0, locals := 0 } : Room) G z [.ref mo, .int (nI i)] (fun rv z' => rv = some (.int 1) ∧ z' = z) := by
  refine ct_of (cc := cX5_isGate) (maxL := 2) (ret := (some .boolean)) (lv0 := [(0, .ref mo), (1, .int (nI i))]) (by decide) rfl (by simp [lg_sl, cat_ref, cat_null, cat_int, cat_long, rf_cat]) (by simp [lv_args, cat_ref, cat_null, cat_int, cat_long, rf_cat]) ?_
  intro p e s m args below meth c C hin
  have i6 : ∀ w ∈ u_ws RX5 TX5 16, w ∈ wsX5_isGate := by decide +kernel
  have hm := mR.rf h0
  have hn := hO.1
  have hl := hO.2.1
  refine w_iload_n C 1 dX5_isGate_0 rfl rfl ?_
  refine w_if_lt (tgt := 16) C dX5_isGate_1 (by decide) (fun c1 => ?_) (fun c1 => ?_)
  · exact absurd c1 (nI_pos (by omega))
  · refine w_iload_n C 1 dX5_isGate_4 rfl rfl ?_
    refine w_aload_n C 0 dX5_isGate_5 rfl rfl (by first | rfl | exact isRef_rf _) ?_
    refine w_getI (ci := 6) (k := 1) (f := 193) C rfl i6 (by decide +kernel) (by decide) (by decide) rfl rfl dX5_isGate_6 hm.o ((hm.i 193).trans hv.n) ?_
    refine w_icmp_ge (tgt := 16) C dX5_isGate_9 (by decide) (fun c2 => ?_) (fun c2 => ?_)
    · exact absurd c2 (nI_ge hi (by omega))
    · refine w_iconst (v := 1) C dX5_isGate_12 (by decide) ?_
      refine w_goto (tgt := 17) C dX5_isGate_13 (by decide) ?_
      exact w_zret C dX5_isGate_17 (by first | rfl | assumption) ⟨rfl, rfl⟩
set_option maxHeartbeats 4000000 in
set_option maxRecDepth 100000 in
theorem c_isGateF (l : Launch) (G : Gx) (z : Sto) {mo : Nat} {A : Nat → Nat} {I : Nat → Int32} {M : Nat → Nat → Int32} {N : NT} (h0 : mst z mo A I M) (hv : mv I M N) (hO : nOK N) {j : Int32} (hj : j < 0 ∨ nI (nN N) ≤ j) : Ct l yX5_isGate wsX5_isGate ({ frames := 0, cells := 0, slots := 0, locals := 0 } : Room) G z [.ref mo, .int j] (fun rv z' => rv = some (.int 0) ∧ z' = z) := by
  refine ct_of (cc := cX5_isGate) (maxL := 2) (ret := (some .boolean)) (lv0 := [(0, .ref mo), (1, .int j)]) (by decide) rfl (by simp [lg_sl, cat_ref, cat_null, cat_int, cat_long, rf_cat]) (by simp [lv_args, cat_ref, cat_null, cat_int, cat_long, rf_cat]) ?_
  intro p e s m args below meth c C hin
  have i6 : ∀ w ∈ u_ws RX5 TX5 16, w ∈ wsX5_isGate := by decide +kernel
  have hm := mR.rf h0
  have hn := hO.1
  have hl := hO.2.1
  refine w_iload_n C 1 dX5_isGate_0 rfl rfl ?_
  refine w_if_lt (tgt := 16) C dX5_isGate_1 (by decide) (fun c1 => ?_) (fun c1 => ?_)
  · refine w_iconst (v := 0) C dX5_isGate_16 (by decide) ?_
    exact w_zret C dX5_isGate_17 (by first | rfl | assumption) ⟨rfl, rfl⟩
  · refine w_iload_n C 1 dX5_isGate_4 rfl rfl ?_
    refine w_aload_n C 0 dX5_isGate_5 rfl rfl (by first | rfl | exact isRef_rf _) ?_
    refine w_getI (ci := 6) (k := 1) (f := 193) C rfl i6 (by decide +kernel) (by decide) (by decide) rfl rfl dX5_isGate_6 hm.o ((hm.i 193).trans hv.n) ?_
    refine w_icmp_ge (tgt := 16) C dX5_isGate_9 (by decide) (fun c2 => ?_) (fun c2 => ?_)
    · refine w_iconst (v := 0) C dX5_isGate_16 (by decide) ?_
      exact w_zret C dX5_isGate_17 (by first | rfl | assumption) ⟨rfl, rfl⟩
    · exact (hj.elim c1 c2).elim
set_option maxHeartbeats 4000000 in
set_option maxRecDepth 100000 in
theorem c_fails (l : Launch) (G : Gx) (z : Sto) {mo : Nat} {A : Nat → Nat} {I : Nat → Int32} {M : Nat → Nat → Int32} {a b t r : Int32} (h0 : mst z mo A I M) (h : (a = 1 ∧ t = 1 ∧ r = 1) ∨ (a = 0 ∧ b = 1 ∧ t = 2 ∧ r = 1) ∨ (a = 0 ∧ b = 0 ∧ t = 0 ∧ r = 0)) : Ct l yX5_fails wsX5_fails ({ frames := 0, cells := 0, slots := 0, locals := 0 } : Room) G z [.ref mo, .int a, .int b] (fun rv z' => rv = some (.int r) ∧ mR z z' mo A (va_up I 192 t) M) := by
  refine ct_of (cc := cX5_fails) (maxL := 3) (ret := (some .boolean)) (lv0 := [(0, .ref mo), (1, .int a), (2, .int b)]) (by decide) rfl (by simp [lg_sl, cat_ref, cat_null, cat_int, cat_long, rf_cat]) (by simp [lv_args, cat_ref, cat_null, cat_int, cat_long, rf_cat]) ?_
  intro p e s m args below meth c C hin
  have i6 : ∀ w ∈ u_ws RX5 TX5 16, w ∈ wsX5_fails := by decide +kernel
  have hm := mR.rf h0
  rcases h with ⟨rfl, rfl, rfl⟩ | ⟨rfl, rfl, rfl, rfl⟩ | ⟨rfl, rfl, rfl, rfl⟩
  ·
    refine w_aload_n C 0 dX5_fails_0 rfl rfl (by first | rfl | exact isRef_rf _) ?_
    refine w_iload_n C 1 dX5_fails_1 rfl rfl ?_
    refine w_if_eq (tgt := 9) C dX5_fails_2 (by decide) (fun c1 => ?_) (fun c1 => ?_)
    · exact absurd c1 (by decide)
    · refine w_iconst (v := 1) C dX5_fails_5 (by decide) ?_
      refine w_goto (tgt := 18) C dX5_fails_6 (by decide) ?_
      refine w_putI (ci := 6) (k := 0) (f := 192) C rfl i6 (by decide +kernel) (by decide) (by decide) rfl rfl tyX5 tyX5_ok nmX5 rfl rfl rfl dX5_fails_18 hm.o ?_
      refine m_kI hm (by decide) (fun z1 hm => ?_)
      refine w_aload_n C 0 dX5_fails_21 rfl rfl (by first | rfl | exact isRef_rf _) ?_
      refine w_getI (ci := 6) (k := 0) (f := 192) C rfl i6 (by decide +kernel) (by decide) (by decide) rfl rfl dX5_fails_22 hm.o ((hm.i 192).trans (if_pos rfl)) ?_
      refine w_if_le (tgt := 32) C dX5_fails_25 (by decide) (fun c3 => ?_) (fun c3 => ?_)
      · exact absurd c3 (by decide)
      · refine w_iconst (v := 1) C dX5_fails_28 (by decide) ?_
        refine w_goto (tgt := 33) C dX5_fails_29 (by decide) ?_
        exact w_zret C dX5_fails_33 (by first | rfl | assumption) ⟨rfl, hm⟩
  ·
    refine w_aload_n C 0 dX5_fails_0 rfl rfl (by first | rfl | exact isRef_rf _) ?_
    refine w_iload_n C 1 dX5_fails_1 rfl rfl ?_
    refine w_if_eq (tgt := 9) C dX5_fails_2 (by decide) (fun c1 => ?_) (fun c1 => ?_)
    · refine w_iload_n C 2 dX5_fails_9 rfl rfl ?_
      refine w_if_eq (tgt := 17) C dX5_fails_10 (by decide) (fun c2 => ?_) (fun c2 => ?_)
      · exact absurd c2 (by decide)
      · refine w_iconst (v := 2) C dX5_fails_13 (by decide) ?_
        refine w_goto (tgt := 18) C dX5_fails_14 (by decide) ?_
        refine w_putI (ci := 6) (k := 0) (f := 192) C rfl i6 (by decide +kernel) (by decide) (by decide) rfl rfl tyX5 tyX5_ok nmX5 rfl rfl rfl dX5_fails_18 hm.o ?_
        refine m_kI hm (by decide) (fun z1 hm => ?_)
        refine w_aload_n C 0 dX5_fails_21 rfl rfl (by first | rfl | exact isRef_rf _) ?_
        refine w_getI (ci := 6) (k := 0) (f := 192) C rfl i6 (by decide +kernel) (by decide) (by decide) rfl rfl dX5_fails_22 hm.o ((hm.i 192).trans (if_pos rfl)) ?_
        refine w_if_le (tgt := 32) C dX5_fails_25 (by decide) (fun c3 => ?_) (fun c3 => ?_)
        · exact absurd c3 (by decide)
        · refine w_iconst (v := 1) C dX5_fails_28 (by decide) ?_
          refine w_goto (tgt := 33) C dX5_fails_29 (by decide) ?_
          exact w_zret C dX5_fails_33 (by first | rfl | assumption) ⟨rfl, hm⟩
    · exact absurd rfl c1
  ·
    refine w_aload_n C 0 dX5_fails_0 rfl rfl (by first | rfl | exact isRef_rf _) ?_
    refine w_iload_n C 1 dX5_fails_1 rfl rfl ?_
    refine w_if_eq (tgt := 9) C dX5_fails_2 (by decide) (fun c1 => ?_) (fun c1 => ?_)
    · refine w_iload_n C 2 dX5_fails_9 rfl rfl ?_
      refine w_if_eq (tgt := 17) C dX5_fails_10 (by decide) (fun c2 => ?_) (fun c2 => ?_)
      · refine w_iconst (v := 0) C dX5_fails_17 (by decide) ?_
        refine w_putI (ci := 6) (k := 0) (f := 192) C rfl i6 (by decide +kernel) (by decide) (by decide) rfl rfl tyX5 tyX5_ok nmX5 rfl rfl rfl dX5_fails_18 hm.o ?_
        refine m_kI hm (by decide) (fun z1 hm => ?_)
        refine w_aload_n C 0 dX5_fails_21 rfl rfl (by first | rfl | exact isRef_rf _) ?_
        refine w_getI (ci := 6) (k := 0) (f := 192) C rfl i6 (by decide +kernel) (by decide) (by decide) rfl rfl dX5_fails_22 hm.o ((hm.i 192).trans (if_pos rfl)) ?_
        refine w_if_le (tgt := 32) C dX5_fails_25 (by decide) (fun c3 => ?_) (fun c3 => ?_)
        · refine w_iconst (v := 0) C dX5_fails_32 (by decide) ?_
          exact w_zret C dX5_fails_33 (by first | rfl | assumption) ⟨rfl, hm⟩
        · exact absurd (by decide) c3
      · exact absurd rfl c2
    · exact absurd rfl c1
set_option maxHeartbeats 4000000 in
set_option maxRecDepth 100000 in
theorem c_mgate (l : Launch) (G : Gx) (z : Sto) {mo : Nat} {A : Nat → Nat} {I : Nat → Int32} {M : Nat → Nat → Int32} {N : NT} (h0 : mst z mo A I M) (hv : mv I M N) (hO : nOK N) {s0 : Int32} (hs0 : ¬ s0 < 0) (hs2 : s0 ≤ 3) : Ct l yX5_gate wsX5_gate ({ frames := 1, cells := 0, slots := 0, locals := 30 } : Room) G z [.ref mo, .int s0] (fun rv z' => ∃ I' M', mR z z' mo A I' M' ∧ I' 192 = 0 ∧ ((nFull N s0 ∧ rv = some (.int (-1)) ∧ mv I' M' N) ∨ (¬ nFull N s0 ∧ rv = some (.int (nI (nN N))) ∧ mv I' M' (nGate N s0)))) := by
  refine ct_of (cc := cX5_gate) (maxL := 2) (ret := (some .int)) (lv0 := [(0, .ref mo), (1, .int s0)]) (by decide) rfl (by simp [lg_sl, cat_ref, cat_null, cat_int, cat_long, rf_cat]) (by simp [lv_args, cat_ref, cat_null, cat_int, cat_long, rf_cat]) ?_
  intro p e s m args below meth c C hin
  have i6 : ∀ w ∈ u_ws RX5 TX5 16, w ∈ wsX5_gate := by decide +kernel
  have hm := mR.rf h0
  have hn := hO.1
  have hl := hO.2.1
  have hcl := cnt_le (fun i => decide (nSo N i = 0)) (nN N)
  by_cases hs : s0 = 0
  ·
    refine w_aload_n C 0 dX5_gate_0 rfl rfl (by first | rfl | exact isRef_rf _) ?_
    refine w_iload_n C 1 dX5_gate_1 rfl rfl ?_
    refine w_if_lt (tgt := 10) C dX5_gate_2 (by decide) (fun c1 => ?_) (fun c1 => ?_)
    · exact absurd c1 hs0
    · refine w_iload_n C 1 dX5_gate_5 rfl rfl ?_
      refine w_iconst (v := 3) C dX5_gate_6 (by decide) ?_
      refine w_icmp_le (tgt := 14) C dX5_gate_7 (by decide) (fun c2 => ?_) (fun c2 => ?_)
      · refine w_iconst (v := 0) C dX5_gate_14 (by decide) ?_
        refine w_iconst (v := 0) C dX5_gate_15 (by decide) ?_
        refine w_callV (ci := 6) (As := [.int 0, .int 0]) (rest := []) C (cwV 2 C.1.2.2.2.2 gX5_gate_X5_fails rfl rfl rfl (by decide +kernel) ⟨Nat.le_of_ble_eq_true rfl, Nat.le_of_ble_eq_true rfl⟩) hm.o rfl (by decide) rfl rfl (by first | decide | simp [cat_ref, cat_null, cat_int, cat_long, rf_cat]) dX5_gate_16 ⟨Nat.le_of_ble_eq_true rfl, Nat.le_of_ble_eq_true rfl⟩ (c_fails l G _ hm.2 (Or.inr (Or.inr ⟨rfl, rfl, rfl, rfl⟩))) (fun rv z1 h9 => ?_)
        obtain ⟨rfl, hm1⟩ := h9
        replace hm := hm.tr hm1
        replace hv := hv.P (f := 192) 0 (by decide) (by decide) (by decide)
        refine w_if_eq (tgt := 24) C dX5_gate_19 (by decide) (fun c3 => ?_) (fun c3 => ?_)
        · refine w_aload_n C 0 dX5_gate_24 rfl rfl (by first | rfl | exact isRef_rf _) ?_
          refine w_getI (ci := 6) (k := 1) (f := 193) C rfl i6 (by decide +kernel) (by decide) (by decide) rfl rfl dX5_gate_25 hm.o ((hm.i 193).trans hv.n) ?_
          refine w_sipush (v := 600) C dX5_gate_28 (by decide) ?_
          refine w_icmp_eq (tgt := 47) C dX5_gate_31 (by decide) (fun c4 => ?_) (fun c4 => ?_)
          · have hn6 : nN N = 600 := (nI_eq (b := 600) (by omega) (by decide)).mp c4
            refine w_iconst (v := (-1)) C dX5_gate_47 (by decide) ?_
            exact w_iret C dX5_gate_48 ⟨_, _, hm, if_pos rfl, Or.inl ⟨(by first | exact Or.inl (by omega) | exact Or.inr ⟨hs, by have := (nI_eq (b := 12) (by omega) (by decide)).mp c6; omega⟩), rfl, hv⟩⟩
          · have hn6 : nN N < 600 := by
              have : ¬ nN N = 600 := fun e9 => c4 (by rw [e9]; rfl)
              omega
            refine w_iload_n C 1 dX5_gate_34 rfl rfl ?_
            refine w_if_ne (tgt := 49) C dX5_gate_35 (by decide) (fun c5 => ?_) (fun c5 => ?_)
            · exact absurd hs c5
            · refine w_aload_n C 0 dX5_gate_38 rfl rfl (by first | rfl | exact isRef_rf _) ?_
              refine w_getI (ci := 6) (k := 3) (f := 195) C rfl i6 (by decide +kernel) (by decide) (by decide) rfl rfl dX5_gate_39 hm.o ((hm.i 195).trans hv.u) ?_
              refine w_bipush (v := 12) C dX5_gate_42 (by decide) ?_
              refine w_icmp_ne (tgt := 49) C dX5_gate_44 (by decide) (fun c6 => ?_) (fun c6 => ?_)
              · refine w_aload_n C 0 dX5_gate_49 rfl rfl (by first | rfl | exact isRef_rf _) ?_
                refine w_getRs (ci := 6) (k := 4) (f := 196) C rfl i6 (by decide +kernel) (by decide) (by decide) rfl rfl dX5_gate_50 hm.o (hm.r 196 rfl) ?_
                refine w_aload_n C 0 dX5_gate_53 rfl rfl (by first | rfl | exact isRef_rf _) ?_
                refine w_getI (ci := 6) (k := 1) (f := 193) C rfl i6 (by decide +kernel) (by decide) (by decide) rfl rfl dX5_gate_54 hm.o ((hm.i 193).trans hv.n) ?_
                refine w_iload_n C 1 dX5_gate_57 rfl rfl ?_
                refine m_iast (f := 196) (L := 600) C dX5_gate_58 hm rfl rfl rfl rfl (by omega) (fun z1 hm => ?_)
                refine w_aload_n C 0 dX5_gate_59 rfl rfl (by first | rfl | exact isRef_rf _) ?_
                refine w_getRs (ci := 6) (k := 5) (f := 197) C rfl i6 (by decide +kernel) (by decide) (by decide) rfl rfl dX5_gate_60 hm.o (hm.r 197 rfl) ?_
                refine w_aload_n C 0 dX5_gate_63 rfl rfl (by first | rfl | exact isRef_rf _) ?_
                refine w_getI (ci := 6) (k := 1) (f := 193) C rfl i6 (by decide +kernel) (by decide) (by decide) rfl rfl dX5_gate_64 hm.o ((hm.i 193).trans hv.n) ?_
                refine w_iload_n C 1 dX5_gate_67 rfl rfl ?_
                refine w_if_ne (tgt := 75) C dX5_gate_68 (by decide) (fun c7 => ?_) (fun c7 => ?_)
                · exact absurd hs c7
                · refine w_iconst (v := 2) C dX5_gate_71 (by decide) ?_
                  refine w_goto (tgt := 76) C dX5_gate_72 (by decide) ?_
                  refine m_iast (f := 197) (L := 600) C dX5_gate_76 hm rfl rfl rfl rfl (by omega) (fun z1 hm => ?_)
                  refine w_aload_n C 0 dX5_gate_77 rfl rfl (by first | rfl | exact isRef_rf _) ?_
                  refine w_dup C dX5_gate_78 (by first | rfl | exact rf_cat _) ?_
                  refine w_getI (ci := 6) (k := 3) (f := 195) C rfl i6 (by decide +kernel) (by decide) (by decide) rfl rfl dX5_gate_79 hm.o ((hm.i 195).trans hv.u) ?_
                  refine w_iload_n C 1 dX5_gate_82 rfl rfl ?_
                  refine w_if_ne (tgt := 90) C dX5_gate_83 (by decide) (fun c8 => ?_) (fun c8 => ?_)
                  · exact absurd hs c8
                  · refine w_iconst (v := 1) C dX5_gate_86 (by decide) ?_
                    refine w_goto (tgt := 91) C dX5_gate_87 (by decide) ?_
                    refine w_iadd C dX5_gate_91 ?_
                    refine w_putI (ci := 6) (k := 3) (f := 195) C rfl i6 (by decide +kernel) (by decide) (by decide) rfl rfl tyX5 tyX5_ok nmX5 rfl rfl rfl dX5_gate_92 hm.o ?_
                    refine m_kI hm (by decide) (fun z1 hm => ?_)
                    refine w_aload_n C 0 dX5_gate_95 rfl rfl (by first | rfl | exact isRef_rf _) ?_
                    refine w_dup C dX5_gate_96 (by first | rfl | exact rf_cat _) ?_
                    refine w_getI (ci := 6) (k := 1) (f := 193) C rfl i6 (by decide +kernel) (by decide) (by decide) rfl rfl dX5_gate_97 hm.o ((hm.i 193).trans hv.n) ?_
                    refine w_iconst (v := 1) C dX5_gate_100 (by decide) ?_
                    refine w_iadd C dX5_gate_101 ?_
                    refine w_putI (ci := 6) (k := 1) (f := 193) C rfl i6 (by decide +kernel) (by decide) (by decide) rfl rfl tyX5 tyX5_ok nmX5 rfl rfl rfl dX5_gate_102 hm.o ?_
                    refine m_kI hm (by decide) (fun z1 hm => ?_)
                    refine w_aload_n C 0 dX5_gate_105 rfl rfl (by first | rfl | exact isRef_rf _) ?_
                    refine w_getI (ci := 6) (k := 1) (f := 193) C rfl i6 (by decide +kernel) (by decide) (by decide) rfl rfl dX5_gate_106 hm.o ((hm.i 193).trans (if_pos rfl)) ?_
                    refine w_iconst (v := 1) C dX5_gate_109 (by decide) ?_
                    refine w_isub C dX5_gate_110 ?_
                    exact w_iret C dX5_gate_111 ⟨_, _, hm, rfl, Or.inr ⟨(by rintro (q | q); (exact absurd q (by omega)); (exact c6 (by have : cnt (fun i => decide (nSo N i = 0)) (nN N) = 12 := Nat.le_antisymm hO.2.2.2.2.2.1 q.2; rw [this]; rfl))), by rw [Int32.add_sub_cancel], mv_gate hv (by rw [if_pos hs]) (by rw [if_pos hs]; exact nI_1 _)⟩⟩
              · refine w_iconst (v := (-1)) C dX5_gate_47 (by decide) ?_
                exact w_iret C dX5_gate_48 ⟨_, _, hm, if_pos rfl, Or.inl ⟨(by first | exact Or.inl (by omega) | exact Or.inr ⟨hs, by have := (nI_eq (b := 12) (by omega) (by decide)).mp c6; omega⟩), rfl, hv⟩⟩
        · exact absurd rfl c3
      · exact absurd hs2 c2
  ·
    refine w_aload_n C 0 dX5_gate_0 rfl rfl (by first | rfl | exact isRef_rf _) ?_
    refine w_iload_n C 1 dX5_gate_1 rfl rfl ?_
    refine w_if_lt (tgt := 10) C dX5_gate_2 (by decide) (fun c1 => ?_) (fun c1 => ?_)
    · exact absurd c1 hs0
    · refine w_iload_n C 1 dX5_gate_5 rfl rfl ?_
      refine w_iconst (v := 3) C dX5_gate_6 (by decide) ?_
      refine w_icmp_le (tgt := 14) C dX5_gate_7 (by decide) (fun c2 => ?_) (fun c2 => ?_)
      · refine w_iconst (v := 0) C dX5_gate_14 (by decide) ?_
        refine w_iconst (v := 0) C dX5_gate_15 (by decide) ?_
        refine w_callV (ci := 6) (As := [.int 0, .int 0]) (rest := []) C (cwV 2 C.1.2.2.2.2 gX5_gate_X5_fails rfl rfl rfl (by decide +kernel) ⟨Nat.le_of_ble_eq_true rfl, Nat.le_of_ble_eq_true rfl⟩) hm.o rfl (by decide) rfl rfl (by first | decide | simp [cat_ref, cat_null, cat_int, cat_long, rf_cat]) dX5_gate_16 ⟨Nat.le_of_ble_eq_true rfl, Nat.le_of_ble_eq_true rfl⟩ (c_fails l G _ hm.2 (Or.inr (Or.inr ⟨rfl, rfl, rfl, rfl⟩))) (fun rv z1 h9 => ?_)
        obtain ⟨rfl, hm1⟩ := h9
        replace hm := hm.tr hm1
        replace hv := hv.P (f := 192) 0 (by decide) (by decide) (by decide)
        refine w_if_eq (tgt := 24) C dX5_gate_19 (by decide) (fun c3 => ?_) (fun c3 => ?_)
        · refine w_aload_n C 0 dX5_gate_24 rfl rfl (by first | rfl | exact isRef_rf _) ?_
          refine w_getI (ci := 6) (k := 1) (f := 193) C rfl i6 (by decide +kernel) (by decide) (by decide) rfl rfl dX5_gate_25 hm.o ((hm.i 193).trans hv.n) ?_
          refine w_sipush (v := 600) C dX5_gate_28 (by decide) ?_
          refine w_icmp_eq (tgt := 47) C dX5_gate_31 (by decide) (fun c4 => ?_) (fun c4 => ?_)
          · have hn6 : nN N = 600 := (nI_eq (b := 600) (by omega) (by decide)).mp c4
            refine w_iconst (v := (-1)) C dX5_gate_47 (by decide) ?_
            exact w_iret C dX5_gate_48 ⟨_, _, hm, if_pos rfl, Or.inl ⟨(by first | exact Or.inl (by omega) | exact Or.inr ⟨hs, by have := (nI_eq (b := 12) (by omega) (by decide)).mp c6; omega⟩), rfl, hv⟩⟩
          · have hn6 : nN N < 600 := by
              have : ¬ nN N = 600 := fun e9 => c4 (by rw [e9]; rfl)
              omega
            refine w_iload_n C 1 dX5_gate_34 rfl rfl ?_
            refine w_if_ne (tgt := 49) C dX5_gate_35 (by decide) (fun c5 => ?_) (fun c5 => ?_)
            · refine w_aload_n C 0 dX5_gate_49 rfl rfl (by first | rfl | exact isRef_rf _) ?_
              refine w_getRs (ci := 6) (k := 4) (f := 196) C rfl i6 (by decide +kernel) (by decide) (by decide) rfl rfl dX5_gate_50 hm.o (hm.r 196 rfl) ?_
              refine w_aload_n C 0 dX5_gate_53 rfl rfl (by first | rfl | exact isRef_rf _) ?_
              refine w_getI (ci := 6) (k := 1) (f := 193) C rfl i6 (by decide +kernel) (by decide) (by decide) rfl rfl dX5_gate_54 hm.o ((hm.i 193).trans hv.n) ?_
              refine w_iload_n C 1 dX5_gate_57 rfl rfl ?_
              refine m_iast (f := 196) (L := 600) C dX5_gate_58 hm rfl rfl rfl rfl (by omega) (fun z1 hm => ?_)
              refine w_aload_n C 0 dX5_gate_59 rfl rfl (by first | rfl | exact isRef_rf _) ?_
              refine w_getRs (ci := 6) (k := 5) (f := 197) C rfl i6 (by decide +kernel) (by decide) (by decide) rfl rfl dX5_gate_60 hm.o (hm.r 197 rfl) ?_
              refine w_aload_n C 0 dX5_gate_63 rfl rfl (by first | rfl | exact isRef_rf _) ?_
              refine w_getI (ci := 6) (k := 1) (f := 193) C rfl i6 (by decide +kernel) (by decide) (by decide) rfl rfl dX5_gate_64 hm.o ((hm.i 193).trans hv.n) ?_
              refine w_iload_n C 1 dX5_gate_67 rfl rfl ?_
              refine w_if_ne (tgt := 75) C dX5_gate_68 (by decide) (fun c7 => ?_) (fun c7 => ?_)
              · refine w_iconst (v := 0) C dX5_gate_75 (by decide) ?_
                refine m_iast (f := 197) (L := 600) C dX5_gate_76 hm rfl rfl rfl rfl (by omega) (fun z1 hm => ?_)
                refine w_aload_n C 0 dX5_gate_77 rfl rfl (by first | rfl | exact isRef_rf _) ?_
                refine w_dup C dX5_gate_78 (by first | rfl | exact rf_cat _) ?_
                refine w_getI (ci := 6) (k := 3) (f := 195) C rfl i6 (by decide +kernel) (by decide) (by decide) rfl rfl dX5_gate_79 hm.o ((hm.i 195).trans hv.u) ?_
                refine w_iload_n C 1 dX5_gate_82 rfl rfl ?_
                refine w_if_ne (tgt := 90) C dX5_gate_83 (by decide) (fun c8 => ?_) (fun c8 => ?_)
                · refine w_iconst (v := 0) C dX5_gate_90 (by decide) ?_
                  refine w_iadd C dX5_gate_91 ?_
                  refine w_putI (ci := 6) (k := 3) (f := 195) C rfl i6 (by decide +kernel) (by decide) (by decide) rfl rfl tyX5 tyX5_ok nmX5 rfl rfl rfl dX5_gate_92 hm.o ?_
                  refine m_kI hm (by decide) (fun z1 hm => ?_)
                  refine w_aload_n C 0 dX5_gate_95 rfl rfl (by first | rfl | exact isRef_rf _) ?_
                  refine w_dup C dX5_gate_96 (by first | rfl | exact rf_cat _) ?_
                  refine w_getI (ci := 6) (k := 1) (f := 193) C rfl i6 (by decide +kernel) (by decide) (by decide) rfl rfl dX5_gate_97 hm.o ((hm.i 193).trans hv.n) ?_
                  refine w_iconst (v := 1) C dX5_gate_100 (by decide) ?_
                  refine w_iadd C dX5_gate_101 ?_
                  refine w_putI (ci := 6) (k := 1) (f := 193) C rfl i6 (by decide +kernel) (by decide) (by decide) rfl rfl tyX5 tyX5_ok nmX5 rfl rfl rfl dX5_gate_102 hm.o ?_
                  refine m_kI hm (by decide) (fun z1 hm => ?_)
                  refine w_aload_n C 0 dX5_gate_105 rfl rfl (by first | rfl | exact isRef_rf _) ?_
                  refine w_getI (ci := 6) (k := 1) (f := 193) C rfl i6 (by decide +kernel) (by decide) (by decide) rfl rfl dX5_gate_106 hm.o ((hm.i 193).trans (if_pos rfl)) ?_
                  refine w_iconst (v := 1) C dX5_gate_109 (by decide) ?_
                  refine w_isub C dX5_gate_110 ?_
                  exact w_iret C dX5_gate_111 ⟨_, _, hm, rfl, Or.inr ⟨(by rintro (q | q); (exact absurd q (by omega)); (exact hs q.1)), by rw [Int32.add_sub_cancel], mv_gate hv (by rw [if_neg hs]) (by rw [if_neg hs]; exact Int32.add_zero _)⟩⟩
                · exact absurd c8 hs
              · exact absurd c7 hs
            · exact absurd c5 hs
        · exact absurd rfl c3
      · exact absurd hs2 c2
set_option maxHeartbeats 4000000 in
set_option maxRecDepth 100000 in
theorem x_mgate (l : Launch) (G : Gx) (z : Sto) {mo : Nat} {A : Nat → Nat} {I : Nat → Int32} {M : Nat → Nat → Int32} {s0 : Int32} (h0 : mst z mo A I M) (hb : s0 < 0 ∨ 3 < s0) : Ct l yX5_gate wsX5_gate ({ frames := 1, cells := 0, slots := 0, locals := 30 } : Room) G z [.ref mo, .int s0] (fun rv z' => (∃ v, rv = some (.int v)) ∧ mR z z' mo A (va_up I 192 1) M) := by
  refine ct_of (cc := cX5_gate) (maxL := 2) (ret := (some .int)) (lv0 := [(0, .ref mo), (1, .int s0)]) (by decide) rfl (by simp [lg_sl, cat_ref, cat_null, cat_int, cat_long, rf_cat]) (by simp [lv_args, cat_ref, cat_null, cat_int, cat_long, rf_cat]) ?_
  intro p e s m args below meth c C hin
  have i6 : ∀ w ∈ u_ws RX5 TX5 16, w ∈ wsX5_gate := by decide +kernel
  have hm := mR.rf h0
  refine w_aload_n C 0 dX5_gate_0 rfl rfl (by first | rfl | exact isRef_rf _) ?_
  refine w_iload_n C 1 dX5_gate_1 rfl rfl ?_
  refine w_if_lt (tgt := 10) C dX5_gate_2 (by decide) (fun c1 => ?_) (fun c1 => ?_)
  · refine w_iconst (v := 1) C dX5_gate_10 (by decide) ?_
    refine w_goto (tgt := 15) C dX5_gate_11 (by decide) ?_
    refine w_iconst (v := 0) C dX5_gate_15 (by decide) ?_
    refine w_callV (ci := 6) (As := [.int 1, .int 0]) (rest := []) C (cwV 2 C.1.2.2.2.2 gX5_gate_X5_fails rfl rfl rfl (by decide +kernel) ⟨Nat.le_of_ble_eq_true rfl, Nat.le_of_ble_eq_true rfl⟩) hm.o rfl (by decide) rfl rfl (by first | decide | simp [cat_ref, cat_null, cat_int, cat_long, rf_cat]) dX5_gate_16 ⟨Nat.le_of_ble_eq_true rfl, Nat.le_of_ble_eq_true rfl⟩ (c_fails l G _ hm.2 (t := 1) (r := 1) (Or.inl ⟨rfl, rfl, rfl⟩)) (fun rv z1 h9 => ?_)
    obtain ⟨rfl, hm1⟩ := h9
    replace hm := hm.tr hm1
    refine w_if_eq (tgt := 24) C dX5_gate_19 (by decide) (fun c3 => ?_) (fun c3 => ?_)
    · exact absurd c3 (by decide)
    · refine w_iconst (v := 0) C dX5_gate_22 (by decide) ?_
      exact w_iret C dX5_gate_23 ⟨⟨_, rfl⟩, hm⟩
  · refine w_iload_n C 1 dX5_gate_5 rfl rfl ?_
    refine w_iconst (v := 3) C dX5_gate_6 (by decide) ?_
    refine w_icmp_le (tgt := 14) C dX5_gate_7 (by decide) (fun c2 => ?_) (fun c2 => ?_)
    · exact absurd hb (by rintro (q | q); exact c1 q; exact Int32.not_lt.mpr c2 q)
    · refine w_iconst (v := 1) C dX5_gate_10 (by decide) ?_
      refine w_goto (tgt := 15) C dX5_gate_11 (by decide) ?_
      refine w_iconst (v := 0) C dX5_gate_15 (by decide) ?_
      refine w_callV (ci := 6) (As := [.int 1, .int 0]) (rest := []) C (cwV 2 C.1.2.2.2.2 gX5_gate_X5_fails rfl rfl rfl (by decide +kernel) ⟨Nat.le_of_ble_eq_true rfl, Nat.le_of_ble_eq_true rfl⟩) hm.o rfl (by decide) rfl rfl (by first | decide | simp [cat_ref, cat_null, cat_int, cat_long, rf_cat]) dX5_gate_16 ⟨Nat.le_of_ble_eq_true rfl, Nat.le_of_ble_eq_true rfl⟩ (c_fails l G _ hm.2 (t := 1) (r := 1) (Or.inl ⟨rfl, rfl, rfl⟩)) (fun rv z1 h9 => ?_)
      obtain ⟨rfl, hm1⟩ := h9
      replace hm := hm.tr hm1
      refine w_if_eq (tgt := 24) C dX5_gate_19 (by decide) (fun c3 => ?_) (fun c3 => ?_)
      · exact absurd c3 (by decide)
      · refine w_iconst (v := 0) C dX5_gate_22 (by decide) ?_
        exact w_iret C dX5_gate_23 ⟨⟨_, rfl⟩, hm⟩
set_option maxHeartbeats 4000000 in
set_option maxRecDepth 100000 in
theorem c_taken (l : Launch) (G : Gx) (z : Sto) {v g : Int32} : Ct l yX5_taken wsX5_taken ({ frames := 0, cells := 0, slots := 0, locals := 0 } : Room) G z [.int v, .int g] (fun rv z' => rv = some (.int (tkv v g)) ∧ z' = z) := by
  refine ct_of (cc := cX5_taken) (maxL := 2) (ret := (some .int)) (lv0 := [(0, .int v), (1, .int g)]) (by decide) rfl (by simp [lg_sl, cat_ref, cat_null, cat_int, cat_long, rf_cat]) (by simp [lv_args, cat_ref, cat_null, cat_int, cat_long, rf_cat]) ?_
  intro p e s m args below meth c C hin
  refine w_iload_n C 0 dX5_taken_0 rfl rfl ?_
  refine w_iconst (v := 2) C dX5_taken_1 (by decide) ?_
  refine w_icmp_eq (tgt := 9) C dX5_taken_2 (by decide) (fun c1 => ?_) (fun c1 => ?_)
  · refine w_iload_n C 0 dX5_taken_9 rfl rfl ?_
    refine w_goto (tgt := 16) C dX5_taken_10 (by decide) ?_
    exact w_iret C dX5_taken_16 ⟨by unfold tkv; first | (rw [if_pos c1, c1]; done) | (rw [if_neg c1, if_pos c2]; done) | rw [if_neg c1, if_neg c2], rfl⟩
  · refine w_iload_n C 1 dX5_taken_5 rfl rfl ?_
    refine w_if_ne (tgt := 13) C dX5_taken_6 (by decide) (fun c2 => ?_) (fun c2 => ?_)
    · refine w_iconst (v := 1) C dX5_taken_13 (by decide) ?_
      refine w_iload_n C 0 dX5_taken_14 rfl rfl ?_
      refine w_isub C dX5_taken_15 ?_
      exact w_iret C dX5_taken_16 ⟨by unfold tkv; first | (rw [if_pos c1, c1]; done) | (rw [if_neg c1, if_pos c2]; done) | rw [if_neg c1, if_neg c2], rfl⟩
    · refine w_iload_n C 0 dX5_taken_9 rfl rfl ?_
      refine w_goto (tgt := 16) C dX5_taken_10 (by decide) ?_
      exact w_iret C dX5_taken_16 ⟨by unfold tkv; first | (rw [if_pos c1, c1]; done) | (rw [if_neg c1, if_pos c2]; done) | rw [if_neg c1, if_neg c2], rfl⟩
set_option maxHeartbeats 4000000 in
set_option maxRecDepth 100000 in
theorem c_feedsOf (l : Launch) (G : Gx) (z : Sto) {mo : Nat} {A : Nat → Nat} {I : Nat → Int32} {M : Nat → Nat → Int32} {N : NT} {g : Nat} (h0 : mst z mo A I M) (hv : mv I M N) (hl : (nFL N).length ≤ 2400) (htk : ∀ t ∈ nFL N, t.1 < 600) (hg : g < 600) : Ct l yX5_feedsOf wsX5_feedsOf ({ frames := 0, cells := 0, slots := 0, locals := 0 } : Room) G z [.ref mo, .int (nI g)] (fun rv z' => rv = some (.int (nI (nFd N g).length)) ∧ z' = z) := by
  refine ct_of (cc := cX5_feedsOf) (maxL := 4) (ret := (some .int)) (lv0 := [(0, .ref mo), (1, .int (nI g))]) (by decide) rfl (by simp [lg_sl, cat_ref, cat_null, cat_int, cat_long, rf_cat]) (by simp [lv_args, cat_ref, cat_null, cat_int, cat_long, rf_cat]) ?_
  intro p e s m args below meth c C hin
  have i6 : ∀ w ∈ u_ws RX5 TX5 16, w ∈ wsX5_feedsOf := by decide +kernel
  have hm := mR.rf h0
  have loop : ∀ (r k : Nat), k + r = (nFL N).length → Wp p l e ({ frames := 0, cells := 0, slots := 0, locals := 0 } : Room) s m args below meth c G 4 0 0 (MQ below (cPost G (fun rv z' => rv = some (.int (nI (nFd N g).length)) ∧ z' = z)) args s (0) (0) (gA G)) z 4 [(3, .int (nI k)), (2, .int (nI (cnt (fun k => decide (tk N k = g)) k))), (0, .ref mo), (1, .int (nI g))] [] := by
    intro r
    induction r with
    | zero =>
      intro k hk
      have hkk : k = (nFL N).length := by omega
      subst hkk
      refine w_iload_n C 0 dX5_feedsOf_4 rfl rfl ?_
      refine w_aload_n C 2 dX5_feedsOf_5 rfl rfl (by first | rfl | exact isRef_rf _) ?_
      refine w_getI (ci := 6) (k := 2) (f := 194) C rfl i6 (by decide +kernel) (by decide) (by decide) rfl rfl dX5_feedsOf_6 hm.o ((hm.i 194).trans hv.l) ?_
      refine w_icmp_ge (tgt := 36) C dX5_feedsOf_9 (by decide) (fun c1 => ?_) (fun c1 => ?_)
      · refine w_iload_n C 1 dX5_feedsOf_36 rfl rfl ?_
        exact w_iret C dX5_feedsOf_37 ⟨by rw [cnt_tk], rfl⟩
      · exact absurd (nI_le (Nat.le_refl _) (by omega)) c1
    | succ r ih =>
      intro k hk
      have hkk : k < (nFL N).length := by omega
      have hcs : cnt (fun k => decide (tk N k = g)) (k + 1) = cnt (fun k => decide (tk N k = g)) k + (if decide (tk N k = g) then 1 else 0) := rfl
      have htb := htk _ (fl_mem hkk)
      refine w_iload_n C 0 dX5_feedsOf_4 rfl rfl ?_
      refine w_aload_n C 2 dX5_feedsOf_5 rfl rfl (by first | rfl | exact isRef_rf _) ?_
      refine w_getI (ci := 6) (k := 2) (f := 194) C rfl i6 (by decide +kernel) (by decide) (by decide) rfl rfl dX5_feedsOf_6 hm.o ((hm.i 194).trans hv.l) ?_
      refine w_icmp_ge (tgt := 36) C dX5_feedsOf_9 (by decide) (fun c1 => ?_) (fun c1 => ?_)
      · exact absurd c1 (nI_ge hkk (by omega))
      · refine w_iload_n C 1 dX5_feedsOf_12 rfl rfl ?_
        refine w_aload_n C 2 dX5_feedsOf_13 rfl rfl (by first | rfl | exact isRef_rf _) ?_
        refine w_getRs (ci := 6) (k := 6) (f := 198) C rfl i6 (by decide +kernel) (by decide) (by decide) rfl rfl dX5_feedsOf_14 hm.o (hm.r 198 rfl) ?_
        refine w_iload_n C 0 dX5_feedsOf_17 rfl rfl ?_
        refine w_iald C dX5_feedsOf_18 (hm.a 198 rfl rfl) rfl (hm.q 198 rfl (L := 2400) rfl (by omega)) (hm.b 198 rfl) ((hm.e 198 rfl _).trans (hv.t _ (by omega))) ?_
        refine w_iload_n C 3 dX5_feedsOf_19 rfl rfl ?_
        refine w_icmp_ne (tgt := 27) C dX5_feedsOf_20 (by decide) (fun c2 => ?_) (fun c2 => ?_)
        · rw [decide_eq_false (fun e9 => c2 (by rw [e9]))] at hcs
          simp only [Bool.false_eq_true, if_false, Nat.add_zero] at hcs
          refine w_iconst (v := 0) C dX5_feedsOf_27 (by decide) ?_
          refine w_iadd C dX5_feedsOf_28 ?_
          first
          | refine w_inti (nI_1 _) ?_
          | refine w_inti (Int32.add_zero _) ?_
          refine w_istore_nB (lvq := [(2, _), (3, _), (0, _), (1, _)]) C 3 rfl rfl (by first | rfl | exact rf_cat _) dX5_feedsOf_29 rfl (by decide) rfl ?_
          refine w_iincB (v := nI (k + 1)) (lvq := [(3, _), (2, _), (0, _), (1, _)]) C 1 0 rfl rfl (by first | rfl | exact rf_cat _) dX5_feedsOf_30 rfl (nI_1 k) (by decide) rfl ?_
          refine w_goto (tgt := 4) C dX5_feedsOf_33 (by decide) ?_
          exact w_sub [0, 1, 2, 3] rfl (hcs ▸ ih (k + 1) (by omega))
        · rw [decide_eq_true ((nI_eq (by have : tk N k < 600 := htb; omega) (by omega)).mp c2)] at hcs
          simp only [if_true] at hcs
          refine w_iconst (v := 1) C dX5_feedsOf_23 (by decide) ?_
          refine w_goto (tgt := 28) C dX5_feedsOf_24 (by decide) ?_
          refine w_iadd C dX5_feedsOf_28 ?_
          first
          | refine w_inti (nI_1 _) ?_
          | refine w_inti (Int32.add_zero _) ?_
          refine w_istore_nB (lvq := [(2, _), (3, _), (0, _), (1, _)]) C 3 rfl rfl (by first | rfl | exact rf_cat _) dX5_feedsOf_29 rfl (by decide) rfl ?_
          refine w_iincB (v := nI (k + 1)) (lvq := [(3, _), (2, _), (0, _), (1, _)]) C 1 0 rfl rfl (by first | rfl | exact rf_cat _) dX5_feedsOf_30 rfl (nI_1 k) (by decide) rfl ?_
          refine w_goto (tgt := 4) C dX5_feedsOf_33 (by decide) ?_
          exact w_sub [0, 1, 2, 3] rfl (hcs ▸ ih (k + 1) (by omega))
  refine w_iconst (v := 0) C dX5_feedsOf_0 (by decide) ?_
  refine w_istore_nB (lvq := [(2, _), (0, _), (1, _)]) C 1 rfl rfl (by first | rfl | exact rf_cat _) dX5_feedsOf_1 rfl (by decide) rfl ?_
  refine w_iconst (v := 0) C dX5_feedsOf_2 (by decide) ?_
  refine w_istore_nB (lvq := [(3, _), (2, _), (0, _), (1, _)]) C 0 rfl rfl (by first | rfl | exact rf_cat _) dX5_feedsOf_3 rfl (by decide) rfl ?_
  exact w_sub [0, 1, 2, 3] rfl (loop (nFL N).length 0 (by omega))
set_option maxHeartbeats 4000000 in
set_option maxRecDepth 100000 in
theorem c_mfeed (l : Launch) (G : Gx) (z : Sto) {mo : Nat} {A : Nat → Nat} {I : Nat → Int32} {M : Nat → Nat → Int32} {N : NT} (h0 : mst z mo A I M) (hv : mv I M N) (hO : nOK N) {t f : Nat} {ng : Int32} (ht : t < nN N) (hf : f < nN N) (hng : ng = 0 ∨ ng = 1) (hc : nCan N t) : Ct l yX5_feed wsX5_feed ({ frames := 1, cells := 0, slots := 0, locals := 30 } : Room) G z [.ref mo, .int (nI t), .int (nI f), .int ng] (fun rv z' => ∃ I' M', mR z z' mo A I' M' ∧ I' 192 = 0 ∧ (((nFL N).length = 2400 ∧ rv = some (.int (-1)) ∧ mv I' M' N) ∨ ((nFL N).length < 2400 ∧ rv = some (.int (nI (nFd (nFeed N t f ng) t).length)) ∧ mv I' M' (nFeed N t f ng)))) := by
  refine ct_of (cc := cX5_feed) (maxL := 5) (ret := (some .int)) (lv0 := [(0, .ref mo), (1, .int (nI t)), (2, .int (nI f)), (3, .int ng)]) (by decide) rfl (by simp [lg_sl, cat_ref, cat_null, cat_int, cat_long, rf_cat]) (by simp [lv_args, cat_ref, cat_null, cat_int, cat_long, rf_cat]) ?_
  intro p e s m args below meth c C hin
  have i6 : ∀ w ∈ u_ws RX5 TX5 16, w ∈ wsX5_feed := by decide +kernel
  have hm := mR.rf h0
  have hn := hO.1
  have hl := hO.2.1
  refine w_aload_n C 0 dX5_feed_0 rfl rfl (by first | rfl | exact isRef_rf _) ?_
  refine w_iload_n C 1 dX5_feed_1 rfl rfl ?_
  refine w_callV (ci := 6) (As := [.int (nI t)]) (rest := []) C (cwV 1 C.1.2.2.2.2 gX5_feed_X5_isGate rfl rfl rfl (by decide +kernel) ⟨Nat.le_of_ble_eq_true rfl, Nat.le_of_ble_eq_true rfl⟩) hm.o rfl (by decide) rfl rfl (by first | decide | simp [cat_ref, cat_null, cat_int, cat_long, rf_cat]) dX5_feed_2 ⟨Nat.le_of_ble_eq_true rfl, Nat.le_of_ble_eq_true rfl⟩ (c_isGateT l G _ hm.2 hv hO (i := t) (by omega)) (fun rv z2 h9 => ?_)
  obtain ⟨rfl, e9⟩ := h9
  replace e9 := e9.symm
  subst e9
  refine w_if_eq (tgt := 20) C dX5_feed_5 (by decide) (fun c1 => ?_) (fun c1 => ?_)
  · exact absurd c1 (by decide)
  · refine w_aload_n C 0 dX5_feed_8 rfl rfl (by first | rfl | exact isRef_rf _) ?_
    refine w_iload_n C 2 dX5_feed_9 rfl rfl ?_
    refine w_callV (ci := 6) (As := [.int (nI f)]) (rest := []) C (cwV 1 C.1.2.2.2.2 gX5_feed_X5_isGate rfl rfl rfl (by decide +kernel) ⟨Nat.le_of_ble_eq_true rfl, Nat.le_of_ble_eq_true rfl⟩) hm.o rfl (by decide) rfl rfl (by first | decide | simp [cat_ref, cat_null, cat_int, cat_long, rf_cat]) dX5_feed_10 ⟨Nat.le_of_ble_eq_true rfl, Nat.le_of_ble_eq_true rfl⟩ (c_isGateT l G _ hm.2 hv hO (i := f) (by omega)) (fun rv z2 h9 => ?_)
    obtain ⟨rfl, e9⟩ := h9
    replace e9 := e9.symm
    subst e9
    refine w_if_eq (tgt := 20) C dX5_feed_13 (by decide) (fun c2 => ?_) (fun c2 => ?_)
    · exact absurd c2 (by decide)
    · refine w_iconst (v := 1) C dX5_feed_16 (by decide) ?_
      refine w_goto (tgt := 21) C dX5_feed_17 (by decide) ?_
      refine w_istoreB (lvq := [(4, _), (0, _), (1, _), (2, _), (3, _)]) C 3 rfl rfl (by first | rfl | exact rf_cat _) dX5_feed_21 (by decide) rfl ?_
      refine w_aload_n C 1 dX5_feed_23 rfl rfl (by first | rfl | exact isRef_rf _) ?_
      refine w_iload C 0 dX5_feed_24 rfl ?_
      refine w_if_ne (tgt := 33) C dX5_feed_26 (by decide) (fun c3 => ?_) (fun c3 => ?_)
      · refine w_iconst (v := 0) C dX5_feed_33 (by decide) ?_
        refine w_iload C 0 dX5_feed_34 rfl ?_
        refine w_if_eq (tgt := 88) C dX5_feed_36 (by decide) (fun c4 => ?_) (fun c4 => ?_)
        · exact absurd c4 (by decide)
        · refine w_aload_n C 1 dX5_feed_39 rfl rfl (by first | rfl | exact isRef_rf _) ?_
          refine w_getRs (ci := 6) (k := 4) (f := 196) C rfl i6 (by decide +kernel) (by decide) (by decide) rfl rfl dX5_feed_40 hm.o (hm.r 196 rfl) ?_
          refine w_iload C 0 dX5_feed_43 rfl ?_
          refine w_if_eq (tgt := 52) C dX5_feed_45 (by decide) (fun c5 => ?_) (fun c5 => ?_)
          · exact absurd c5 (by decide)
          · refine w_iload_n C 2 dX5_feed_48 rfl rfl ?_
            refine w_goto (tgt := 53) C dX5_feed_49 (by decide) ?_
            refine w_iald C dX5_feed_53 (hm.a 196 rfl rfl) rfl (hm.q 196 rfl (L := 600) rfl (by omega)) (hm.b 196 rfl) ((hm.e 196 rfl _).trans (hv.s _ (by omega))) ?_
            refine w_if_eq (tgt := 84) C dX5_feed_54 (by decide) (fun c6 => ?_) (fun c6 => ?_)
            · exact absurd hc (can_0 c6)
            · refine w_aload_n C 1 dX5_feed_57 rfl rfl (by first | rfl | exact isRef_rf _) ?_
              refine w_getRs (ci := 6) (k := 4) (f := 196) C rfl i6 (by decide +kernel) (by decide) (by decide) rfl rfl dX5_feed_58 hm.o (hm.r 196 rfl) ?_
              refine w_iload C 0 dX5_feed_61 rfl ?_
              refine w_if_eq (tgt := 70) C dX5_feed_63 (by decide) (fun c7 => ?_) (fun c7 => ?_)
              · exact absurd c7 (by decide)
              · refine w_iload_n C 2 dX5_feed_66 rfl rfl ?_
                refine w_goto (tgt := 71) C dX5_feed_67 (by decide) ?_
                refine w_iald C dX5_feed_71 (hm.a 196 rfl rfl) rfl (hm.q 196 rfl (L := 600) rfl (by omega)) (hm.b 196 rfl) ((hm.e 196 rfl _).trans (hv.s _ (by omega))) ?_
                refine w_iconst (v := 1) C dX5_feed_72 (by decide) ?_
                refine w_icmp_ne (tgt := 88) C dX5_feed_73 (by decide) (fun c8 => ?_) (fun c8 => ?_)
                · refine w_iconst (v := 0) C dX5_feed_88 (by decide) ?_
                  refine w_callV (ci := 6) (As := [.int 0, .int 0]) (rest := []) C (cwV 2 C.1.2.2.2.2 gX5_feed_X5_fails rfl rfl rfl (by decide +kernel) ⟨Nat.le_of_ble_eq_true rfl, Nat.le_of_ble_eq_true rfl⟩) hm.o rfl (by decide) rfl rfl (by first | decide | simp [cat_ref, cat_null, cat_int, cat_long, rf_cat]) dX5_feed_89 ⟨Nat.le_of_ble_eq_true rfl, Nat.le_of_ble_eq_true rfl⟩ (c_fails l G _ hm.2 (Or.inr (Or.inr ⟨rfl, rfl, rfl, rfl⟩))) (fun rv z1 h9 => ?_)
                  obtain ⟨rfl, hm1⟩ := h9
                  replace hm := hm.tr hm1
                  replace hv := hv.P (f := 192) 0 (by decide) (by decide) (by decide)
                  refine w_if_eq (tgt := 97) C dX5_feed_92 (by decide) (fun c10 => ?_) (fun c10 => ?_)
                  · refine w_aload_n C 1 dX5_feed_97 rfl rfl (by first | rfl | exact isRef_rf _) ?_
                    refine w_getI (ci := 6) (k := 2) (f := 194) C rfl i6 (by decide +kernel) (by decide) (by decide) rfl rfl dX5_feed_98 hm.o ((hm.i 194).trans hv.l) ?_
                    refine w_sipush (v := 2400) C dX5_feed_101 (by decide) ?_
                    refine w_icmp_ne (tgt := 109) C dX5_feed_104 (by decide) (fun c11 => ?_) (fun c11 => ?_)
                    · have hl9 : (nFL N).length < 2400 := by
                        have : ¬ (nFL N).length = 2400 := fun e9 => c11 (by rw [e9]; rfl)
                        omega
                      refine w_aload_n C 1 dX5_feed_109 rfl rfl (by first | rfl | exact isRef_rf _) ?_
                      refine w_getRs (ci := 6) (k := 6) (f := 198) C rfl i6 (by decide +kernel) (by decide) (by decide) rfl rfl dX5_feed_110 hm.o (hm.r 198 rfl) ?_
                      refine w_aload_n C 1 dX5_feed_113 rfl rfl (by first | rfl | exact isRef_rf _) ?_
                      refine w_getI (ci := 6) (k := 2) (f := 194) C rfl i6 (by decide +kernel) (by decide) (by decide) rfl rfl dX5_feed_114 hm.o ((hm.i 194).trans hv.l) ?_
                      refine w_iload_n C 2 dX5_feed_117 rfl rfl ?_
                      refine m_iast (f := 198) (L := 2400) C dX5_feed_118 hm rfl rfl rfl rfl (by omega) (fun z1 hm => ?_)
                      refine w_aload_n C 1 dX5_feed_119 rfl rfl (by first | rfl | exact isRef_rf _) ?_
                      refine w_getRs (ci := 6) (k := 7) (f := 199) C rfl i6 (by decide +kernel) (by decide) (by decide) rfl rfl dX5_feed_120 hm.o (hm.r 199 rfl) ?_
                      refine w_aload_n C 1 dX5_feed_123 rfl rfl (by first | rfl | exact isRef_rf _) ?_
                      refine w_getI (ci := 6) (k := 2) (f := 194) C rfl i6 (by decide +kernel) (by decide) (by decide) rfl rfl dX5_feed_124 hm.o ((hm.i 194).trans hv.l) ?_
                      refine w_iload_n C 3 dX5_feed_127 rfl rfl ?_
                      refine m_iast (f := 199) (L := 2400) C dX5_feed_128 hm rfl rfl rfl rfl (by omega) (fun z1 hm => ?_)
                      refine w_aload_n C 1 dX5_feed_129 rfl rfl (by first | rfl | exact isRef_rf _) ?_
                      refine w_getRs (ci := 6) (k := 8) (f := 200) C rfl i6 (by decide +kernel) (by decide) (by decide) rfl rfl dX5_feed_130 hm.o (hm.r 200 rfl) ?_
                      refine w_aload_n C 1 dX5_feed_133 rfl rfl (by first | rfl | exact isRef_rf _) ?_
                      refine w_getI (ci := 6) (k := 2) (f := 194) C rfl i6 (by decide +kernel) (by decide) (by decide) rfl rfl dX5_feed_134 hm.o ((hm.i 194).trans hv.l) ?_
                      refine w_iload_n C 4 dX5_feed_137 rfl rfl ?_
                      refine m_zast (f := 200) (L := 2400) C dX5_feed_138 hm rfl rfl rfl rfl (by omega) (show vp_nar .boolean ng = ng by rcases hng with rfl | rfl <;> rfl) (fun z1 hm => ?_)
                      have hv2 := mv_feed (t := t) (f := f) (g := ng) hv
                      refine w_aload_n C 1 dX5_feed_139 rfl rfl (by first | rfl | exact isRef_rf _) ?_
                      refine w_dup C dX5_feed_140 (by first | rfl | exact rf_cat _) ?_
                      refine w_getI (ci := 6) (k := 2) (f := 194) C rfl i6 (by decide +kernel) (by decide) (by decide) rfl rfl dX5_feed_141 hm.o ((hm.i 194).trans hv.l) ?_
                      refine w_iconst (v := 1) C dX5_feed_144 (by decide) ?_
                      refine w_iadd C dX5_feed_145 ?_
                      refine w_putI (ci := 6) (k := 2) (f := 194) C rfl i6 (by decide +kernel) (by decide) (by decide) rfl rfl tyX5 tyX5_ok nmX5 rfl rfl rfl dX5_feed_146 hm.o ?_
                      refine m_kI hm (by decide) (fun z1 hm => ?_)
                      refine w_aload_n C 1 dX5_feed_149 rfl rfl (by first | rfl | exact isRef_rf _) ?_
                      refine w_iload_n C 2 dX5_feed_150 rfl rfl ?_
                      refine w_callV (ci := 6) (As := [.int (nI t)]) (rest := []) C (cwV 1 C.1.2.2.2.2 gX5_feed_X5_feedsOf rfl rfl rfl (by decide +kernel) ⟨Nat.le_of_ble_eq_true rfl, Nat.le_of_ble_eq_true rfl⟩) hm.o rfl (by decide) rfl rfl (by first | decide | simp [cat_ref, cat_null, cat_int, cat_long, rf_cat]) dX5_feed_151 ⟨Nat.le_of_ble_eq_true rfl, Nat.le_of_ble_eq_true rfl⟩ (c_feedsOf l G _ hm.2 hv2 (by show (nFL N ++ [(t, f, ng)]).length ≤ 2400; rw [List.length_append]; exact hl9) (fun t9 q9 => by rcases List.mem_append.mp q9 with q | q; (exact Nat.lt_of_lt_of_le (hO.2.2.1 t9 q).1 hn); (rw [List.mem_singleton.mp q]; show t < 600; omega)) (by omega)) (fun rv z2 h9 => ?_)
                      obtain ⟨rfl, e9⟩ := h9
                      replace e9 := e9.symm
                      subst e9
                      exact w_iret C dX5_feed_154 ⟨_, _, hm, rfl, Or.inr ⟨hl9, rfl, hv2⟩⟩
                    · have hl9 : (nFL N).length = 2400 := (nI_eq (b := 2400) (by omega) (by decide)).mp c11
                      refine w_iconst (v := (-1)) C dX5_feed_107 (by decide) ?_
                      exact w_iret C dX5_feed_108 ⟨_, _, hm, if_pos rfl, Or.inl ⟨hl9, rfl, hv⟩⟩
                  · exact absurd rfl c10
                · refine w_aload_n C 1 dX5_feed_76 rfl rfl (by first | rfl | exact isRef_rf _) ?_
                  refine w_iload_n C 2 dX5_feed_77 rfl rfl ?_
                  refine w_callV (ci := 6) (As := [.int (nI t)]) (rest := [.int 0, .ref mo]) C (cwV 1 C.1.2.2.2.2 gX5_feed_X5_feedsOf rfl rfl rfl (by decide +kernel) ⟨Nat.le_of_ble_eq_true rfl, Nat.le_of_ble_eq_true rfl⟩) hm.o rfl (by decide) rfl rfl (by first | decide | simp [cat_ref, cat_null, cat_int, cat_long, rf_cat]) dX5_feed_78 ⟨Nat.le_of_ble_eq_true rfl, Nat.le_of_ble_eq_true rfl⟩ (c_feedsOf l G _ hm.2 hv (by omega) (fun t9 q9 => Nat.lt_of_lt_of_le (hO.2.2.1 t9 q9).1 hn) (by omega)) (fun rv z2 h9 => ?_)
                  obtain ⟨rfl, e9⟩ := h9
                  replace e9 := e9.symm
                  subst e9
                  refine w_if_le (tgt := 88) C dX5_feed_81 (by decide) (fun c9 => ?_) (fun c9 => ?_)
                  · refine w_iconst (v := 0) C dX5_feed_88 (by decide) ?_
                    refine w_callV (ci := 6) (As := [.int 0, .int 0]) (rest := []) C (cwV 2 C.1.2.2.2.2 gX5_feed_X5_fails rfl rfl rfl (by decide +kernel) ⟨Nat.le_of_ble_eq_true rfl, Nat.le_of_ble_eq_true rfl⟩) hm.o rfl (by decide) rfl rfl (by first | decide | simp [cat_ref, cat_null, cat_int, cat_long, rf_cat]) dX5_feed_89 ⟨Nat.le_of_ble_eq_true rfl, Nat.le_of_ble_eq_true rfl⟩ (c_fails l G _ hm.2 (Or.inr (Or.inr ⟨rfl, rfl, rfl, rfl⟩))) (fun rv z1 h9 => ?_)
                    obtain ⟨rfl, hm1⟩ := h9
                    replace hm := hm.tr hm1
                    replace hv := hv.P (f := 192) 0 (by decide) (by decide) (by decide)
                    refine w_if_eq (tgt := 97) C dX5_feed_92 (by decide) (fun c10 => ?_) (fun c10 => ?_)
                    · refine w_aload_n C 1 dX5_feed_97 rfl rfl (by first | rfl | exact isRef_rf _) ?_
                      refine w_getI (ci := 6) (k := 2) (f := 194) C rfl i6 (by decide +kernel) (by decide) (by decide) rfl rfl dX5_feed_98 hm.o ((hm.i 194).trans hv.l) ?_
                      refine w_sipush (v := 2400) C dX5_feed_101 (by decide) ?_
                      refine w_icmp_ne (tgt := 109) C dX5_feed_104 (by decide) (fun c11 => ?_) (fun c11 => ?_)
                      · have hl9 : (nFL N).length < 2400 := by
                          have : ¬ (nFL N).length = 2400 := fun e9 => c11 (by rw [e9]; rfl)
                          omega
                        refine w_aload_n C 1 dX5_feed_109 rfl rfl (by first | rfl | exact isRef_rf _) ?_
                        refine w_getRs (ci := 6) (k := 6) (f := 198) C rfl i6 (by decide +kernel) (by decide) (by decide) rfl rfl dX5_feed_110 hm.o (hm.r 198 rfl) ?_
                        refine w_aload_n C 1 dX5_feed_113 rfl rfl (by first | rfl | exact isRef_rf _) ?_
                        refine w_getI (ci := 6) (k := 2) (f := 194) C rfl i6 (by decide +kernel) (by decide) (by decide) rfl rfl dX5_feed_114 hm.o ((hm.i 194).trans hv.l) ?_
                        refine w_iload_n C 2 dX5_feed_117 rfl rfl ?_
                        refine m_iast (f := 198) (L := 2400) C dX5_feed_118 hm rfl rfl rfl rfl (by omega) (fun z1 hm => ?_)
                        refine w_aload_n C 1 dX5_feed_119 rfl rfl (by first | rfl | exact isRef_rf _) ?_
                        refine w_getRs (ci := 6) (k := 7) (f := 199) C rfl i6 (by decide +kernel) (by decide) (by decide) rfl rfl dX5_feed_120 hm.o (hm.r 199 rfl) ?_
                        refine w_aload_n C 1 dX5_feed_123 rfl rfl (by first | rfl | exact isRef_rf _) ?_
                        refine w_getI (ci := 6) (k := 2) (f := 194) C rfl i6 (by decide +kernel) (by decide) (by decide) rfl rfl dX5_feed_124 hm.o ((hm.i 194).trans hv.l) ?_
                        refine w_iload_n C 3 dX5_feed_127 rfl rfl ?_
                        refine m_iast (f := 199) (L := 2400) C dX5_feed_128 hm rfl rfl rfl rfl (by omega) (fun z1 hm => ?_)
                        refine w_aload_n C 1 dX5_feed_129 rfl rfl (by first | rfl | exact isRef_rf _) ?_
                        refine w_getRs (ci := 6) (k := 8) (f := 200) C rfl i6 (by decide +kernel) (by decide) (by decide) rfl rfl dX5_feed_130 hm.o (hm.r 200 rfl) ?_
                        refine w_aload_n C 1 dX5_feed_133 rfl rfl (by first | rfl | exact isRef_rf _) ?_
                        refine w_getI (ci := 6) (k := 2) (f := 194) C rfl i6 (by decide +kernel) (by decide) (by decide) rfl rfl dX5_feed_134 hm.o ((hm.i 194).trans hv.l) ?_
                        refine w_iload_n C 4 dX5_feed_137 rfl rfl ?_
                        refine m_zast (f := 200) (L := 2400) C dX5_feed_138 hm rfl rfl rfl rfl (by omega) (show vp_nar .boolean ng = ng by rcases hng with rfl | rfl <;> rfl) (fun z1 hm => ?_)
                        have hv2 := mv_feed (t := t) (f := f) (g := ng) hv
                        refine w_aload_n C 1 dX5_feed_139 rfl rfl (by first | rfl | exact isRef_rf _) ?_
                        refine w_dup C dX5_feed_140 (by first | rfl | exact rf_cat _) ?_
                        refine w_getI (ci := 6) (k := 2) (f := 194) C rfl i6 (by decide +kernel) (by decide) (by decide) rfl rfl dX5_feed_141 hm.o ((hm.i 194).trans hv.l) ?_
                        refine w_iconst (v := 1) C dX5_feed_144 (by decide) ?_
                        refine w_iadd C dX5_feed_145 ?_
                        refine w_putI (ci := 6) (k := 2) (f := 194) C rfl i6 (by decide +kernel) (by decide) (by decide) rfl rfl tyX5 tyX5_ok nmX5 rfl rfl rfl dX5_feed_146 hm.o ?_
                        refine m_kI hm (by decide) (fun z1 hm => ?_)
                        refine w_aload_n C 1 dX5_feed_149 rfl rfl (by first | rfl | exact isRef_rf _) ?_
                        refine w_iload_n C 2 dX5_feed_150 rfl rfl ?_
                        refine w_callV (ci := 6) (As := [.int (nI t)]) (rest := []) C (cwV 1 C.1.2.2.2.2 gX5_feed_X5_feedsOf rfl rfl rfl (by decide +kernel) ⟨Nat.le_of_ble_eq_true rfl, Nat.le_of_ble_eq_true rfl⟩) hm.o rfl (by decide) rfl rfl (by first | decide | simp [cat_ref, cat_null, cat_int, cat_long, rf_cat]) dX5_feed_151 ⟨Nat.le_of_ble_eq_true rfl, Nat.le_of_ble_eq_true rfl⟩ (c_feedsOf l G _ hm.2 hv2 (by show (nFL N ++ [(t, f, ng)]).length ≤ 2400; rw [List.length_append]; exact hl9) (fun t9 q9 => by rcases List.mem_append.mp q9 with q | q; (exact Nat.lt_of_lt_of_le (hO.2.2.1 t9 q).1 hn); (rw [List.mem_singleton.mp q]; show t < 600; omega)) (by omega)) (fun rv z2 h9 => ?_)
                        obtain ⟨rfl, e9⟩ := h9
                        replace e9 := e9.symm
                        subst e9
                        exact w_iret C dX5_feed_154 ⟨_, _, hm, rfl, Or.inr ⟨hl9, rfl, hv2⟩⟩
                      · have hl9 : (nFL N).length = 2400 := (nI_eq (b := 2400) (by omega) (by decide)).mp c11
                        refine w_iconst (v := (-1)) C dX5_feed_107 (by decide) ?_
                        exact w_iret C dX5_feed_108 ⟨_, _, hm, if_pos rfl, Or.inl ⟨hl9, rfl, hv⟩⟩
                    · exact absurd rfl c10
                  · exact absurd hc (can_1 c8 (fun e9 => c9 (by rw [e9]; decide)))
      · exact absurd c3 (by decide)
set_option maxHeartbeats 4000000 in
set_option maxRecDepth 100000 in
theorem x_mfeed3 (l : Launch) (G : Gx) (z : Sto) {mo : Nat} {A : Nat → Nat} {I : Nat → Int32} {M : Nat → Nat → Int32} {N : NT} (h0 : mst z mo A I M) (hv : mv I M N) (hO : nOK N) {t f : Nat} {ng : Int32} (ht : t < nN N) (hf : f < nN N) (hc : ¬ nCan N t) : Ct l yX5_feed wsX5_feed ({ frames := 1, cells := 0, slots := 0, locals := 30 } : Room) G z [.ref mo, .int (nI t), .int (nI f), .int ng] (fun rv z' => (∃ v, rv = some (.int v)) ∧ mR z z' mo A (va_up I 192 2) M) := by
  refine ct_of (cc := cX5_feed) (maxL := 5) (ret := (some .int)) (lv0 := [(0, .ref mo), (1, .int (nI t)), (2, .int (nI f)), (3, .int ng)]) (by decide) rfl (by simp [lg_sl, cat_ref, cat_null, cat_int, cat_long, rf_cat]) (by simp [lv_args, cat_ref, cat_null, cat_int, cat_long, rf_cat]) ?_
  intro p e s m args below meth c C hin
  have i6 : ∀ w ∈ u_ws RX5 TX5 16, w ∈ wsX5_feed := by decide +kernel
  have hm := mR.rf h0
  have hn := hO.1
  have hl := hO.2.1
  refine w_aload_n C 0 dX5_feed_0 rfl rfl (by first | rfl | exact isRef_rf _) ?_
  refine w_iload_n C 1 dX5_feed_1 rfl rfl ?_
  refine w_callV (ci := 6) (As := [.int (nI t)]) (rest := []) C (cwV 1 C.1.2.2.2.2 gX5_feed_X5_isGate rfl rfl rfl (by decide +kernel) ⟨Nat.le_of_ble_eq_true rfl, Nat.le_of_ble_eq_true rfl⟩) hm.o rfl (by decide) rfl rfl (by first | decide | simp [cat_ref, cat_null, cat_int, cat_long, rf_cat]) dX5_feed_2 ⟨Nat.le_of_ble_eq_true rfl, Nat.le_of_ble_eq_true rfl⟩ (c_isGateT l G _ hm.2 hv hO (i := t) (by omega)) (fun rv z2 h9 => ?_)
  obtain ⟨rfl, e9⟩ := h9
  replace e9 := e9.symm
  subst e9
  refine w_if_eq (tgt := 20) C dX5_feed_5 (by decide) (fun c1 => ?_) (fun c1 => ?_)
  · exact absurd c1 (by decide)
  · refine w_aload_n C 0 dX5_feed_8 rfl rfl (by first | rfl | exact isRef_rf _) ?_
    refine w_iload_n C 2 dX5_feed_9 rfl rfl ?_
    refine w_callV (ci := 6) (As := [.int (nI f)]) (rest := []) C (cwV 1 C.1.2.2.2.2 gX5_feed_X5_isGate rfl rfl rfl (by decide +kernel) ⟨Nat.le_of_ble_eq_true rfl, Nat.le_of_ble_eq_true rfl⟩) hm.o rfl (by decide) rfl rfl (by first | decide | simp [cat_ref, cat_null, cat_int, cat_long, rf_cat]) dX5_feed_10 ⟨Nat.le_of_ble_eq_true rfl, Nat.le_of_ble_eq_true rfl⟩ (c_isGateT l G _ hm.2 hv hO (i := f) (by omega)) (fun rv z2 h9 => ?_)
    obtain ⟨rfl, e9⟩ := h9
    replace e9 := e9.symm
    subst e9
    refine w_if_eq (tgt := 20) C dX5_feed_13 (by decide) (fun c2 => ?_) (fun c2 => ?_)
    · exact absurd c2 (by decide)
    · refine w_iconst (v := 1) C dX5_feed_16 (by decide) ?_
      refine w_goto (tgt := 21) C dX5_feed_17 (by decide) ?_
      refine w_istoreB (lvq := [(4, _), (0, _), (1, _), (2, _), (3, _)]) C 3 rfl rfl (by first | rfl | exact rf_cat _) dX5_feed_21 (by decide) rfl ?_
      refine w_aload_n C 1 dX5_feed_23 rfl rfl (by first | rfl | exact isRef_rf _) ?_
      refine w_iload C 0 dX5_feed_24 rfl ?_
      refine w_if_ne (tgt := 33) C dX5_feed_26 (by decide) (fun c3 => ?_) (fun c3 => ?_)
      · refine w_iconst (v := 0) C dX5_feed_33 (by decide) ?_
        refine w_iload C 0 dX5_feed_34 rfl ?_
        refine w_if_eq (tgt := 88) C dX5_feed_36 (by decide) (fun c4 => ?_) (fun c4 => ?_)
        · exact absurd c4 (by decide)
        · refine w_aload_n C 1 dX5_feed_39 rfl rfl (by first | rfl | exact isRef_rf _) ?_
          refine w_getRs (ci := 6) (k := 4) (f := 196) C rfl i6 (by decide +kernel) (by decide) (by decide) rfl rfl dX5_feed_40 hm.o (hm.r 196 rfl) ?_
          refine w_iload C 0 dX5_feed_43 rfl ?_
          refine w_if_eq (tgt := 52) C dX5_feed_45 (by decide) (fun c5 => ?_) (fun c5 => ?_)
          · exact absurd c5 (by decide)
          · refine w_iload_n C 2 dX5_feed_48 rfl rfl ?_
            refine w_goto (tgt := 53) C dX5_feed_49 (by decide) ?_
            refine w_iald C dX5_feed_53 (hm.a 196 rfl rfl) rfl (hm.q 196 rfl (L := 600) rfl (by omega)) (hm.b 196 rfl) ((hm.e 196 rfl _).trans (hv.s _ (by omega))) ?_
            refine w_if_eq (tgt := 84) C dX5_feed_54 (by decide) (fun c6 => ?_) (fun c6 => ?_)
            · refine w_iconst (v := 1) C dX5_feed_84 (by decide) ?_
              refine w_goto (tgt := 89) C dX5_feed_85 (by decide) ?_
              refine w_callV (ci := 6) (As := [.int 0, .int 1]) (rest := []) C (cwV 2 C.1.2.2.2.2 gX5_feed_X5_fails rfl rfl rfl (by decide +kernel) ⟨Nat.le_of_ble_eq_true rfl, Nat.le_of_ble_eq_true rfl⟩) hm.o rfl (by decide) rfl rfl (by first | decide | simp [cat_ref, cat_null, cat_int, cat_long, rf_cat]) dX5_feed_89 ⟨Nat.le_of_ble_eq_true rfl, Nat.le_of_ble_eq_true rfl⟩ (c_fails l G _ hm.2 (Or.inr (Or.inl ⟨rfl, rfl, rfl, rfl⟩))) (fun rv z1 h9 => ?_)
              obtain ⟨rfl, hm1⟩ := h9
              replace hm := hm.tr hm1
              refine w_if_eq (tgt := 97) C dX5_feed_92 (by decide) (fun c10 => ?_) (fun c10 => ?_)
              · exact absurd c10 (by decide)
              · refine w_iconst (v := 0) C dX5_feed_95 (by decide) ?_
                exact w_iret C dX5_feed_96 ⟨⟨_, rfl⟩, hm⟩
            · refine w_aload_n C 1 dX5_feed_57 rfl rfl (by first | rfl | exact isRef_rf _) ?_
              refine w_getRs (ci := 6) (k := 4) (f := 196) C rfl i6 (by decide +kernel) (by decide) (by decide) rfl rfl dX5_feed_58 hm.o (hm.r 196 rfl) ?_
              refine w_iload C 0 dX5_feed_61 rfl ?_
              refine w_if_eq (tgt := 70) C dX5_feed_63 (by decide) (fun c7 => ?_) (fun c7 => ?_)
              · exact absurd c7 (by decide)
              · refine w_iload_n C 2 dX5_feed_66 rfl rfl ?_
                refine w_goto (tgt := 71) C dX5_feed_67 (by decide) ?_
                refine w_iald C dX5_feed_71 (hm.a 196 rfl rfl) rfl (hm.q 196 rfl (L := 600) rfl (by omega)) (hm.b 196 rfl) ((hm.e 196 rfl _).trans (hv.s _ (by omega))) ?_
                refine w_iconst (v := 1) C dX5_feed_72 (by decide) ?_
                refine w_icmp_ne (tgt := 88) C dX5_feed_73 (by decide) (fun c8 => ?_) (fun c8 => ?_)
                · exact absurd (can_2 hO ht c6 c8) hc
                · refine w_aload_n C 1 dX5_feed_76 rfl rfl (by first | rfl | exact isRef_rf _) ?_
                  refine w_iload_n C 2 dX5_feed_77 rfl rfl ?_
                  refine w_callV (ci := 6) (As := [.int (nI t)]) (rest := [.int 0, .ref mo]) C (cwV 1 C.1.2.2.2.2 gX5_feed_X5_feedsOf rfl rfl rfl (by decide +kernel) ⟨Nat.le_of_ble_eq_true rfl, Nat.le_of_ble_eq_true rfl⟩) hm.o rfl (by decide) rfl rfl (by first | decide | simp [cat_ref, cat_null, cat_int, cat_long, rf_cat]) dX5_feed_78 ⟨Nat.le_of_ble_eq_true rfl, Nat.le_of_ble_eq_true rfl⟩ (c_feedsOf l G _ hm.2 hv (by omega) (fun t9 q9 => Nat.lt_of_lt_of_le (hO.2.2.1 t9 q9).1 hn) (by omega)) (fun rv z2 h9 => ?_)
                  obtain ⟨rfl, e9⟩ := h9
                  replace e9 := e9.symm
                  subst e9
                  refine w_if_le (tgt := 88) C dX5_feed_81 (by decide) (fun c9 => ?_) (fun c9 => ?_)
                  · exact absurd (Or.inr ⟨c8, Decidable.byContradiction fun q9 => absurd c9 (nI_ge (a := 0) (b := (nFd N t).length) (by omega) (by have := nFd_le hO t; omega))⟩) hc
                  · refine w_iconst (v := 1) C dX5_feed_84 (by decide) ?_
                    refine w_goto (tgt := 89) C dX5_feed_85 (by decide) ?_
                    refine w_callV (ci := 6) (As := [.int 0, .int 1]) (rest := []) C (cwV 2 C.1.2.2.2.2 gX5_feed_X5_fails rfl rfl rfl (by decide +kernel) ⟨Nat.le_of_ble_eq_true rfl, Nat.le_of_ble_eq_true rfl⟩) hm.o rfl (by decide) rfl rfl (by first | decide | simp [cat_ref, cat_null, cat_int, cat_long, rf_cat]) dX5_feed_89 ⟨Nat.le_of_ble_eq_true rfl, Nat.le_of_ble_eq_true rfl⟩ (c_fails l G _ hm.2 (Or.inr (Or.inl ⟨rfl, rfl, rfl, rfl⟩))) (fun rv z1 h9 => ?_)
                    obtain ⟨rfl, hm1⟩ := h9
                    replace hm := hm.tr hm1
                    refine w_if_eq (tgt := 97) C dX5_feed_92 (by decide) (fun c10 => ?_) (fun c10 => ?_)
                    · exact absurd c10 (by decide)
                    · refine w_iconst (v := 0) C dX5_feed_95 (by decide) ?_
                      exact w_iret C dX5_feed_96 ⟨⟨_, rfl⟩, hm⟩
      · exact absurd c3 (by decide)
set_option maxHeartbeats 4000000 in
set_option maxRecDepth 100000 in
theorem x_mfeed (l : Launch) (G : Gx) (z : Sto) {mo : Nat} {A : Nat → Nat} {I : Nat → Int32} {M : Nat → Nat → Int32} {N : NT} (h0 : mst z mo A I M) (hv : mv I M N) (hO : nOK N) {j j2 ng : Int32} (hj : j < 0 ∨ nI (nN N) ≤ j) : Ct l yX5_feed wsX5_feed ({ frames := 1, cells := 0, slots := 0, locals := 30 } : Room) G z [.ref mo, .int j, .int j2, .int ng] (fun rv z' => (∃ v, rv = some (.int v)) ∧ mR z z' mo A (va_up I 192 1) M) := by
  refine ct_of (cc := cX5_feed) (maxL := 5) (ret := (some .int)) (lv0 := [(0, .ref mo), (1, .int j), (2, .int j2), (3, .int ng)]) (by decide) rfl (by simp [lg_sl, cat_ref, cat_null, cat_int, cat_long, rf_cat]) (by simp [lv_args, cat_ref, cat_null, cat_int, cat_long, rf_cat]) ?_
  intro p e s m args below meth c C hin
  have i6 : ∀ w ∈ u_ws RX5 TX5 16, w ∈ wsX5_feed := by decide +kernel
  have hm := mR.rf h0
  have hn := hO.1
  have hl := hO.2.1
  refine w_aload_n C 0 dX5_feed_0 rfl rfl (by first | rfl | exact isRef_rf _) ?_
  refine w_iload_n C 1 dX5_feed_1 rfl rfl ?_
  refine w_callV (ci := 6) (As := [.int j]) (rest := []) C (cwV 1 C.1.2.2.2.2 gX5_feed_X5_isGate rfl rfl rfl (by decide +kernel) ⟨Nat.le_of_ble_eq_true rfl, Nat.le_of_ble_eq_true rfl⟩) hm.o rfl (by decide) rfl rfl (by first | decide | simp [cat_ref, cat_null, cat_int, cat_long, rf_cat]) dX5_feed_2 ⟨Nat.le_of_ble_eq_true rfl, Nat.le_of_ble_eq_true rfl⟩ (c_isGateF l G _ hm.2 hv hO hj) (fun rv z2 h9 => ?_)
  obtain ⟨rfl, e9⟩ := h9
  replace e9 := e9.symm
  subst e9
  refine w_if_eq (tgt := 20) C dX5_feed_5 (by decide) (fun c1 => ?_) (fun c1 => ?_)
  · refine w_iconst (v := 0) C dX5_feed_20 (by decide) ?_
    refine w_istoreB (lvq := [(4, _), (0, _), (1, _), (2, _), (3, _)]) C 3 rfl rfl (by first | rfl | exact rf_cat _) dX5_feed_21 (by decide) rfl ?_
    refine w_aload_n C 1 dX5_feed_23 rfl rfl (by first | rfl | exact isRef_rf _) ?_
    refine w_iload C 0 dX5_feed_24 rfl ?_
    refine w_if_ne (tgt := 33) C dX5_feed_26 (by decide) (fun c3 => ?_) (fun c3 => ?_)
    · exact absurd rfl c3
    · refine w_iconst (v := 1) C dX5_feed_29 (by decide) ?_
      refine w_goto (tgt := 34) C dX5_feed_30 (by decide) ?_
      refine w_iload C 0 dX5_feed_34 rfl ?_
      refine w_if_eq (tgt := 88) C dX5_feed_36 (by decide) (fun c4 => ?_) (fun c4 => ?_)
      · refine w_iconst (v := 0) C dX5_feed_88 (by decide) ?_
        refine w_callV (ci := 6) (As := [.int 1, .int 0]) (rest := []) C (cwV 2 C.1.2.2.2.2 gX5_feed_X5_fails rfl rfl rfl (by decide +kernel) ⟨Nat.le_of_ble_eq_true rfl, Nat.le_of_ble_eq_true rfl⟩) hm.o rfl (by decide) rfl rfl (by first | decide | simp [cat_ref, cat_null, cat_int, cat_long, rf_cat]) dX5_feed_89 ⟨Nat.le_of_ble_eq_true rfl, Nat.le_of_ble_eq_true rfl⟩ (c_fails l G _ hm.2 (t := 1) (r := 1) (Or.inl ⟨rfl, rfl, rfl⟩)) (fun rv z1 h9 => ?_)
        obtain ⟨rfl, hm1⟩ := h9
        replace hm := hm.tr hm1
        refine w_if_eq (tgt := 97) C dX5_feed_92 (by decide) (fun c10 => ?_) (fun c10 => ?_)
        · exact absurd c10 (by decide)
        · refine w_iconst (v := 0) C dX5_feed_95 (by decide) ?_
          exact w_iret C dX5_feed_96 ⟨⟨_, rfl⟩, hm⟩
      · exact absurd rfl c4
  · exact absurd rfl c1
set_option maxHeartbeats 4000000 in
set_option maxRecDepth 100000 in
theorem x_mfeed2 (l : Launch) (G : Gx) (z : Sto) {mo : Nat} {A : Nat → Nat} {I : Nat → Int32} {M : Nat → Nat → Int32} {N : NT} (h0 : mst z mo A I M) (hv : mv I M N) (hO : nOK N) {t : Nat} {j ng : Int32} (ht : t < nN N) (hj : j < 0 ∨ nI (nN N) ≤ j) : Ct l yX5_feed wsX5_feed ({ frames := 1, cells := 0, slots := 0, locals := 30 } : Room) G z [.ref mo, .int (nI t), .int j, .int ng] (fun rv z' => (∃ v, rv = some (.int v)) ∧ mR z z' mo A (va_up I 192 1) M) := by
  refine ct_of (cc := cX5_feed) (maxL := 5) (ret := (some .int)) (lv0 := [(0, .ref mo), (1, .int (nI t)), (2, .int j), (3, .int ng)]) (by decide) rfl (by simp [lg_sl, cat_ref, cat_null, cat_int, cat_long, rf_cat]) (by simp [lv_args, cat_ref, cat_null, cat_int, cat_long, rf_cat]) ?_
  intro p e s m args below meth c C hin
  have i6 : ∀ w ∈ u_ws RX5 TX5 16, w ∈ wsX5_feed := by decide +kernel
  have hm := mR.rf h0
  have hn := hO.1
  have hl := hO.2.1
  refine w_aload_n C 0 dX5_feed_0 rfl rfl (by first | rfl | exact isRef_rf _) ?_
  refine w_iload_n C 1 dX5_feed_1 rfl rfl ?_
  refine w_callV (ci := 6) (As := [.int (nI t)]) (rest := []) C (cwV 1 C.1.2.2.2.2 gX5_feed_X5_isGate rfl rfl rfl (by decide +kernel) ⟨Nat.le_of_ble_eq_true rfl, Nat.le_of_ble_eq_true rfl⟩) hm.o rfl (by decide) rfl rfl (by first | decide | simp [cat_ref, cat_null, cat_int, cat_long, rf_cat]) dX5_feed_2 ⟨Nat.le_of_ble_eq_true rfl, Nat.le_of_ble_eq_true rfl⟩ (c_isGateT l G _ hm.2 hv hO (i := t) (by omega)) (fun rv z2 h9 => ?_)
  obtain ⟨rfl, e9⟩ := h9
  replace e9 := e9.symm
  subst e9
  refine w_if_eq (tgt := 20) C dX5_feed_5 (by decide) (fun c1 => ?_) (fun c1 => ?_)
  · exact absurd c1 (by decide)
  · refine w_aload_n C 0 dX5_feed_8 rfl rfl (by first | rfl | exact isRef_rf _) ?_
    refine w_iload_n C 2 dX5_feed_9 rfl rfl ?_
    refine w_callV (ci := 6) (As := [.int j]) (rest := []) C (cwV 1 C.1.2.2.2.2 gX5_feed_X5_isGate rfl rfl rfl (by decide +kernel) ⟨Nat.le_of_ble_eq_true rfl, Nat.le_of_ble_eq_true rfl⟩) hm.o rfl (by decide) rfl rfl (by first | decide | simp [cat_ref, cat_null, cat_int, cat_long, rf_cat]) dX5_feed_10 ⟨Nat.le_of_ble_eq_true rfl, Nat.le_of_ble_eq_true rfl⟩ (c_isGateF l G _ hm.2 hv hO hj) (fun rv z2 h9 => ?_)
    obtain ⟨rfl, e9⟩ := h9
    replace e9 := e9.symm
    subst e9
    refine w_if_eq (tgt := 20) C dX5_feed_13 (by decide) (fun c2 => ?_) (fun c2 => ?_)
    · refine w_iconst (v := 0) C dX5_feed_20 (by decide) ?_
      refine w_istoreB (lvq := [(4, _), (0, _), (1, _), (2, _), (3, _)]) C 3 rfl rfl (by first | rfl | exact rf_cat _) dX5_feed_21 (by decide) rfl ?_
      refine w_aload_n C 1 dX5_feed_23 rfl rfl (by first | rfl | exact isRef_rf _) ?_
      refine w_iload C 0 dX5_feed_24 rfl ?_
      refine w_if_ne (tgt := 33) C dX5_feed_26 (by decide) (fun c3 => ?_) (fun c3 => ?_)
      · exact absurd rfl c3
      · refine w_iconst (v := 1) C dX5_feed_29 (by decide) ?_
        refine w_goto (tgt := 34) C dX5_feed_30 (by decide) ?_
        refine w_iload C 0 dX5_feed_34 rfl ?_
        refine w_if_eq (tgt := 88) C dX5_feed_36 (by decide) (fun c4 => ?_) (fun c4 => ?_)
        · refine w_iconst (v := 0) C dX5_feed_88 (by decide) ?_
          refine w_callV (ci := 6) (As := [.int 1, .int 0]) (rest := []) C (cwV 2 C.1.2.2.2.2 gX5_feed_X5_fails rfl rfl rfl (by decide +kernel) ⟨Nat.le_of_ble_eq_true rfl, Nat.le_of_ble_eq_true rfl⟩) hm.o rfl (by decide) rfl rfl (by first | decide | simp [cat_ref, cat_null, cat_int, cat_long, rf_cat]) dX5_feed_89 ⟨Nat.le_of_ble_eq_true rfl, Nat.le_of_ble_eq_true rfl⟩ (c_fails l G _ hm.2 (t := 1) (r := 1) (Or.inl ⟨rfl, rfl, rfl⟩)) (fun rv z1 h9 => ?_)
          obtain ⟨rfl, hm1⟩ := h9
          replace hm := hm.tr hm1
          refine w_if_eq (tgt := 97) C dX5_feed_92 (by decide) (fun c10 => ?_) (fun c10 => ?_)
          · exact absurd c10 (by decide)
          · refine w_iconst (v := 0) C dX5_feed_95 (by decide) ?_
            exact w_iret C dX5_feed_96 ⟨⟨_, rfl⟩, hm⟩
        · exact absurd rfl c4
    · exact absurd rfl c2
set_option maxHeartbeats 4000000 in
set_option maxRecDepth 100000 in
theorem c_mset (l : Launch) (G : Gx) (z : Sto) {mo : Nat} {A : Nat → Nat} {I : Nat → Int32} {M : Nat → Nat → Int32} {N : NT} (h0 : mst z mo A I M) (hv : mv I M N) (hO : nOK N) {i : Nat} {v : Int32} (hi : i < nN N) (hs : nSo N i = 0) (hv0 : ¬ v < 0) (hv2 : v ≤ 2) : Ct l yX5_set wsX5_set ({ frames := 1, cells := 0, slots := 0, locals := 30 } : Room) G z [.ref mo, .int (nI i), .int v] (fun rv z' => ∃ I' M', mR z z' mo A I' M' ∧ I' 192 = 0 ∧ rv = some (.int (nHd N i)) ∧ mv I' M' (nSet N i v)) := by
  refine ct_of (cc := cX5_set) (maxL := 5) (ret := (some .int)) (lv0 := [(0, .ref mo), (1, .int (nI i)), (2, .int v)]) (by decide) rfl (by simp [lg_sl, cat_ref, cat_null, cat_int, cat_long, rf_cat]) (by simp [lv_args, cat_ref, cat_null, cat_int, cat_long, rf_cat]) ?_
  intro p e s m args below meth c C hin
  have i6 : ∀ w ∈ u_ws RX5 TX5 16, w ∈ wsX5_set := by decide +kernel
  have hm := mR.rf h0
  have hn := hO.1
  have hl := hO.2.1
  refine w_aload_n C 0 dX5_set_0 rfl rfl (by first | rfl | exact isRef_rf _) ?_
  refine w_iload_n C 1 dX5_set_1 rfl rfl ?_
  refine w_callV (ci := 6) (As := [.int (nI i)]) (rest := []) C (cwV 1 C.1.2.2.2.2 gX5_set_X5_isGate rfl rfl rfl (by decide +kernel) ⟨Nat.le_of_ble_eq_true rfl, Nat.le_of_ble_eq_true rfl⟩) hm.o rfl (by decide) rfl rfl (by first | decide | simp [cat_ref, cat_null, cat_int, cat_long, rf_cat]) dX5_set_2 ⟨Nat.le_of_ble_eq_true rfl, Nat.le_of_ble_eq_true rfl⟩ (c_isGateT l G _ hm.2 hv hO (i := i) (by omega)) (fun rv z2 h9 => ?_)
  obtain ⟨rfl, e9⟩ := h9
  replace e9 := e9.symm
  subst e9
  refine w_istore_nB (lvq := [(3, _), (0, _), (1, _), (2, _)]) C 2 rfl rfl (by first | rfl | exact rf_cat _) dX5_set_5 rfl (by decide) rfl ?_
  refine w_aload_n C 1 dX5_set_6 rfl rfl (by first | rfl | exact isRef_rf _) ?_
  refine w_iload_n C 0 dX5_set_7 rfl rfl ?_
  refine w_if_ne (tgt := 15) C dX5_set_8 (by decide) (fun c1 => ?_) (fun c1 => ?_)
  · refine w_iconst (v := 0) C dX5_set_15 (by decide) ?_
    refine w_iload_n C 0 dX5_set_16 rfl rfl ?_
    refine w_if_eq (tgt := 50) C dX5_set_17 (by decide) (fun c2 => ?_) (fun c2 => ?_)
    · exact absurd c2 (by decide)
    · refine w_aload_n C 1 dX5_set_20 rfl rfl (by first | rfl | exact isRef_rf _) ?_
      refine w_getRs (ci := 6) (k := 4) (f := 196) C rfl i6 (by decide +kernel) (by decide) (by decide) rfl rfl dX5_set_21 hm.o (hm.r 196 rfl) ?_
      refine w_iload_n C 0 dX5_set_24 rfl rfl ?_
      refine w_if_eq (tgt := 32) C dX5_set_25 (by decide) (fun c3 => ?_) (fun c3 => ?_)
      · exact absurd c3 (by decide)
      · refine w_iload_n C 2 dX5_set_28 rfl rfl ?_
        refine w_goto (tgt := 33) C dX5_set_29 (by decide) ?_
        refine w_iald C dX5_set_33 (hm.a 196 rfl rfl) rfl (hm.q 196 rfl (L := 600) rfl (by omega)) (hm.b 196 rfl) ((hm.e 196 rfl _).trans (hv.s _ (by omega))) ?_
        refine w_if_ne (tgt := 46) C dX5_set_34 (by decide) (fun c4 => ?_) (fun c4 => ?_)
        · exact absurd hs c4
        · refine w_iload_n C 3 dX5_set_37 rfl rfl ?_
          refine w_if_lt (tgt := 46) C dX5_set_38 (by decide) (fun c5 => ?_) (fun c5 => ?_)
          · exact absurd c5 hv0
          · refine w_iload_n C 3 dX5_set_41 rfl rfl ?_
            refine w_iconst (v := 2) C dX5_set_42 (by decide) ?_
            refine w_icmp_le (tgt := 50) C dX5_set_43 (by decide) (fun c6 => ?_) (fun c6 => ?_)
            · refine w_iconst (v := 0) C dX5_set_50 (by decide) ?_
              refine w_callV (ci := 6) (As := [.int 0, .int 0]) (rest := []) C (cwV 2 C.1.2.2.2.2 gX5_set_X5_fails rfl rfl rfl (by decide +kernel) ⟨Nat.le_of_ble_eq_true rfl, Nat.le_of_ble_eq_true rfl⟩) hm.o rfl (by decide) rfl rfl (by first | decide | simp [cat_ref, cat_null, cat_int, cat_long, rf_cat]) dX5_set_51 ⟨Nat.le_of_ble_eq_true rfl, Nat.le_of_ble_eq_true rfl⟩ (c_fails l G _ hm.2 (Or.inr (Or.inr ⟨rfl, rfl, rfl, rfl⟩))) (fun rv z1 h9 => ?_)
              obtain ⟨rfl, hm1⟩ := h9
              replace hm := hm.tr hm1
              replace hv := hv.P (f := 192) 0 (by decide) (by decide) (by decide)
              refine w_if_eq (tgt := 59) C dX5_set_54 (by decide) (fun c7 => ?_) (fun c7 => ?_)
              · refine w_aload_n C 1 dX5_set_59 rfl rfl (by first | rfl | exact isRef_rf _) ?_
                refine w_getRs (ci := 6) (k := 5) (f := 197) C rfl i6 (by decide +kernel) (by decide) (by decide) rfl rfl dX5_set_60 hm.o (hm.r 197 rfl) ?_
                refine w_iload_n C 2 dX5_set_63 rfl rfl ?_
                refine w_iald C dX5_set_64 (hm.a 197 rfl rfl) rfl (hm.q 197 rfl (L := 600) rfl (by omega)) (hm.b 197 rfl) ((hm.e 197 rfl _).trans (hv.h _ (by omega))) ?_
                refine w_istoreB (lvq := [(4, _), (3, _), (0, _), (1, _), (2, _)]) C 0 rfl rfl (by first | rfl | exact rf_cat _) dX5_set_65 (by decide) rfl ?_
                refine w_aload_n C 2 dX5_set_67 rfl rfl (by first | rfl | exact isRef_rf _) ?_
                refine w_getRs (ci := 6) (k := 5) (f := 197) C rfl i6 (by decide +kernel) (by decide) (by decide) rfl rfl dX5_set_68 hm.o (hm.r 197 rfl) ?_
                refine w_iload_n C 3 dX5_set_71 rfl rfl ?_
                refine w_iload_n C 4 dX5_set_72 rfl rfl ?_
                refine m_iast (f := 197) (L := 600) C dX5_set_73 hm rfl rfl rfl rfl (by omega) (fun z1 hm => ?_)
                refine w_iload C 0 dX5_set_74 rfl ?_
                exact w_iret C dX5_set_76 ⟨_, _, hm, if_pos rfl, rfl, mv_set hv i v⟩
              · exact absurd rfl c7
            · exact absurd hv2 c6
  · exact absurd c1 (by decide)
set_option maxHeartbeats 4000000 in
set_option maxRecDepth 100000 in
theorem x_mset2 (l : Launch) (G : Gx) (z : Sto) {mo : Nat} {A : Nat → Nat} {I : Nat → Int32} {M : Nat → Nat → Int32} {N : NT} (h0 : mst z mo A I M) (hv : mv I M N) (hO : nOK N) {i : Nat} {v : Int32} (hi : i < nN N) (hb : ¬ nSo N i = 0 ∨ v < 0 ∨ 2 < v) : Ct l yX5_set wsX5_set ({ frames := 1, cells := 0, slots := 0, locals := 30 } : Room) G z [.ref mo, .int (nI i), .int v] (fun rv z' => (∃ v, rv = some (.int v)) ∧ mR z z' mo A (va_up I 192 2) M) := by
  refine ct_of (cc := cX5_set) (maxL := 5) (ret := (some .int)) (lv0 := [(0, .ref mo), (1, .int (nI i)), (2, .int v)]) (by decide) rfl (by simp [lg_sl, cat_ref, cat_null, cat_int, cat_long, rf_cat]) (by simp [lv_args, cat_ref, cat_null, cat_int, cat_long, rf_cat]) ?_
  intro p e s m args below meth c C hin
  have i6 : ∀ w ∈ u_ws RX5 TX5 16, w ∈ wsX5_set := by decide +kernel
  have hm := mR.rf h0
  have hn := hO.1
  have hl := hO.2.1
  refine w_aload_n C 0 dX5_set_0 rfl rfl (by first | rfl | exact isRef_rf _) ?_
  refine w_iload_n C 1 dX5_set_1 rfl rfl ?_
  refine w_callV (ci := 6) (As := [.int (nI i)]) (rest := []) C (cwV 1 C.1.2.2.2.2 gX5_set_X5_isGate rfl rfl rfl (by decide +kernel) ⟨Nat.le_of_ble_eq_true rfl, Nat.le_of_ble_eq_true rfl⟩) hm.o rfl (by decide) rfl rfl (by first | decide | simp [cat_ref, cat_null, cat_int, cat_long, rf_cat]) dX5_set_2 ⟨Nat.le_of_ble_eq_true rfl, Nat.le_of_ble_eq_true rfl⟩ (c_isGateT l G _ hm.2 hv hO (i := i) (by omega)) (fun rv z2 h9 => ?_)
  obtain ⟨rfl, e9⟩ := h9
  replace e9 := e9.symm
  subst e9
  refine w_istore_nB (lvq := [(3, _), (0, _), (1, _), (2, _)]) C 2 rfl rfl (by first | rfl | exact rf_cat _) dX5_set_5 rfl (by decide) rfl ?_
  refine w_aload_n C 1 dX5_set_6 rfl rfl (by first | rfl | exact isRef_rf _) ?_
  refine w_iload_n C 0 dX5_set_7 rfl rfl ?_
  refine w_if_ne (tgt := 15) C dX5_set_8 (by decide) (fun c1 => ?_) (fun c1 => ?_)
  · refine w_iconst (v := 0) C dX5_set_15 (by decide) ?_
    refine w_iload_n C 0 dX5_set_16 rfl rfl ?_
    refine w_if_eq (tgt := 50) C dX5_set_17 (by decide) (fun c2 => ?_) (fun c2 => ?_)
    · exact absurd c2 (by decide)
    · refine w_aload_n C 1 dX5_set_20 rfl rfl (by first | rfl | exact isRef_rf _) ?_
      refine w_getRs (ci := 6) (k := 4) (f := 196) C rfl i6 (by decide +kernel) (by decide) (by decide) rfl rfl dX5_set_21 hm.o (hm.r 196 rfl) ?_
      refine w_iload_n C 0 dX5_set_24 rfl rfl ?_
      refine w_if_eq (tgt := 32) C dX5_set_25 (by decide) (fun c3 => ?_) (fun c3 => ?_)
      · exact absurd c3 (by decide)
      · refine w_iload_n C 2 dX5_set_28 rfl rfl ?_
        refine w_goto (tgt := 33) C dX5_set_29 (by decide) ?_
        refine w_iald C dX5_set_33 (hm.a 196 rfl rfl) rfl (hm.q 196 rfl (L := 600) rfl (by omega)) (hm.b 196 rfl) ((hm.e 196 rfl _).trans (hv.s _ (by omega))) ?_
        refine w_if_ne (tgt := 46) C dX5_set_34 (by decide) (fun c4 => ?_) (fun c4 => ?_)
        · refine w_iconst (v := 1) C dX5_set_46 (by decide) ?_
          refine w_goto (tgt := 51) C dX5_set_47 (by decide) ?_
          refine w_callV (ci := 6) (As := [.int 0, .int 1]) (rest := []) C (cwV 2 C.1.2.2.2.2 gX5_set_X5_fails rfl rfl rfl (by decide +kernel) ⟨Nat.le_of_ble_eq_true rfl, Nat.le_of_ble_eq_true rfl⟩) hm.o rfl (by decide) rfl rfl (by first | decide | simp [cat_ref, cat_null, cat_int, cat_long, rf_cat]) dX5_set_51 ⟨Nat.le_of_ble_eq_true rfl, Nat.le_of_ble_eq_true rfl⟩ (c_fails l G _ hm.2 (Or.inr (Or.inl ⟨rfl, rfl, rfl, rfl⟩))) (fun rv z1 h9 => ?_)
          obtain ⟨rfl, hm1⟩ := h9
          replace hm := hm.tr hm1
          refine w_if_eq (tgt := 59) C dX5_set_54 (by decide) (fun c7 => ?_) (fun c7 => ?_)
          · exact absurd c7 (by decide)
          · refine w_iconst (v := 0) C dX5_set_57 (by decide) ?_
            exact w_iret C dX5_set_58 ⟨⟨_, rfl⟩, hm⟩
        · refine w_iload_n C 3 dX5_set_37 rfl rfl ?_
          refine w_if_lt (tgt := 46) C dX5_set_38 (by decide) (fun c5 => ?_) (fun c5 => ?_)
          · refine w_iconst (v := 1) C dX5_set_46 (by decide) ?_
            refine w_goto (tgt := 51) C dX5_set_47 (by decide) ?_
            refine w_callV (ci := 6) (As := [.int 0, .int 1]) (rest := []) C (cwV 2 C.1.2.2.2.2 gX5_set_X5_fails rfl rfl rfl (by decide +kernel) ⟨Nat.le_of_ble_eq_true rfl, Nat.le_of_ble_eq_true rfl⟩) hm.o rfl (by decide) rfl rfl (by first | decide | simp [cat_ref, cat_null, cat_int, cat_long, rf_cat]) dX5_set_51 ⟨Nat.le_of_ble_eq_true rfl, Nat.le_of_ble_eq_true rfl⟩ (c_fails l G _ hm.2 (Or.inr (Or.inl ⟨rfl, rfl, rfl, rfl⟩))) (fun rv z1 h9 => ?_)
            obtain ⟨rfl, hm1⟩ := h9
            replace hm := hm.tr hm1
            refine w_if_eq (tgt := 59) C dX5_set_54 (by decide) (fun c7 => ?_) (fun c7 => ?_)
            · exact absurd c7 (by decide)
            · refine w_iconst (v := 0) C dX5_set_57 (by decide) ?_
              exact w_iret C dX5_set_58 ⟨⟨_, rfl⟩, hm⟩
          · refine w_iload_n C 3 dX5_set_41 rfl rfl ?_
            refine w_iconst (v := 2) C dX5_set_42 (by decide) ?_
            refine w_icmp_le (tgt := 50) C dX5_set_43 (by decide) (fun c6 => ?_) (fun c6 => ?_)
            · exact absurd hb (by rintro (q | q | q); exact q c4; exact c5 q; exact Int32.not_lt.mpr c6 q)
            · refine w_iconst (v := 1) C dX5_set_46 (by decide) ?_
              refine w_goto (tgt := 51) C dX5_set_47 (by decide) ?_
              refine w_callV (ci := 6) (As := [.int 0, .int 1]) (rest := []) C (cwV 2 C.1.2.2.2.2 gX5_set_X5_fails rfl rfl rfl (by decide +kernel) ⟨Nat.le_of_ble_eq_true rfl, Nat.le_of_ble_eq_true rfl⟩) hm.o rfl (by decide) rfl rfl (by first | decide | simp [cat_ref, cat_null, cat_int, cat_long, rf_cat]) dX5_set_51 ⟨Nat.le_of_ble_eq_true rfl, Nat.le_of_ble_eq_true rfl⟩ (c_fails l G _ hm.2 (Or.inr (Or.inl ⟨rfl, rfl, rfl, rfl⟩))) (fun rv z1 h9 => ?_)
              obtain ⟨rfl, hm1⟩ := h9
              replace hm := hm.tr hm1
              refine w_if_eq (tgt := 59) C dX5_set_54 (by decide) (fun c7 => ?_) (fun c7 => ?_)
              · exact absurd c7 (by decide)
              · refine w_iconst (v := 0) C dX5_set_57 (by decide) ?_
                exact w_iret C dX5_set_58 ⟨⟨_, rfl⟩, hm⟩
  · exact absurd c1 (by decide)
set_option maxHeartbeats 4000000 in
set_option maxRecDepth 100000 in
theorem x_mset (l : Launch) (G : Gx) (z : Sto) {mo : Nat} {A : Nat → Nat} {I : Nat → Int32} {M : Nat → Nat → Int32} {N : NT} (h0 : mst z mo A I M) (hv : mv I M N) (hO : nOK N) {j v : Int32} (hj : j < 0 ∨ nI (nN N) ≤ j) : Ct l yX5_set wsX5_set ({ frames := 1, cells := 0, slots := 0, locals := 30 } : Room) G z [.ref mo, .int j, .int v] (fun rv z' => (∃ v, rv = some (.int v)) ∧ mR z z' mo A (va_up I 192 1) M) := by
  refine ct_of (cc := cX5_set) (maxL := 5) (ret := (some .int)) (lv0 := [(0, .ref mo), (1, .int j), (2, .int v)]) (by decide) rfl (by simp [lg_sl, cat_ref, cat_null, cat_int, cat_long, rf_cat]) (by simp [lv_args, cat_ref, cat_null, cat_int, cat_long, rf_cat]) ?_
  intro p e s m args below meth c C hin
  have i6 : ∀ w ∈ u_ws RX5 TX5 16, w ∈ wsX5_set := by decide +kernel
  have hm := mR.rf h0
  have hn := hO.1
  have hl := hO.2.1
  refine w_aload_n C 0 dX5_set_0 rfl rfl (by first | rfl | exact isRef_rf _) ?_
  refine w_iload_n C 1 dX5_set_1 rfl rfl ?_
  refine w_callV (ci := 6) (As := [.int j]) (rest := []) C (cwV 1 C.1.2.2.2.2 gX5_set_X5_isGate rfl rfl rfl (by decide +kernel) ⟨Nat.le_of_ble_eq_true rfl, Nat.le_of_ble_eq_true rfl⟩) hm.o rfl (by decide) rfl rfl (by first | decide | simp [cat_ref, cat_null, cat_int, cat_long, rf_cat]) dX5_set_2 ⟨Nat.le_of_ble_eq_true rfl, Nat.le_of_ble_eq_true rfl⟩ (c_isGateF l G _ hm.2 hv hO hj) (fun rv z2 h9 => ?_)
  obtain ⟨rfl, e9⟩ := h9
  replace e9 := e9.symm
  subst e9
  refine w_istore_nB (lvq := [(3, _), (0, _), (1, _), (2, _)]) C 2 rfl rfl (by first | rfl | exact rf_cat _) dX5_set_5 rfl (by decide) rfl ?_
  refine w_aload_n C 1 dX5_set_6 rfl rfl (by first | rfl | exact isRef_rf _) ?_
  refine w_iload_n C 0 dX5_set_7 rfl rfl ?_
  refine w_if_ne (tgt := 15) C dX5_set_8 (by decide) (fun c1 => ?_) (fun c1 => ?_)
  · exact absurd rfl c1
  · refine w_iconst (v := 1) C dX5_set_11 (by decide) ?_
    refine w_goto (tgt := 16) C dX5_set_12 (by decide) ?_
    refine w_iload_n C 0 dX5_set_16 rfl rfl ?_
    refine w_if_eq (tgt := 50) C dX5_set_17 (by decide) (fun c2 => ?_) (fun c2 => ?_)
    · refine w_iconst (v := 0) C dX5_set_50 (by decide) ?_
      refine w_callV (ci := 6) (As := [.int 1, .int 0]) (rest := []) C (cwV 2 C.1.2.2.2.2 gX5_set_X5_fails rfl rfl rfl (by decide +kernel) ⟨Nat.le_of_ble_eq_true rfl, Nat.le_of_ble_eq_true rfl⟩) hm.o rfl (by decide) rfl rfl (by first | decide | simp [cat_ref, cat_null, cat_int, cat_long, rf_cat]) dX5_set_51 ⟨Nat.le_of_ble_eq_true rfl, Nat.le_of_ble_eq_true rfl⟩ (c_fails l G _ hm.2 (t := 1) (r := 1) (Or.inl ⟨rfl, rfl, rfl⟩)) (fun rv z1 h9 => ?_)
      obtain ⟨rfl, hm1⟩ := h9
      replace hm := hm.tr hm1
      refine w_if_eq (tgt := 59) C dX5_set_54 (by decide) (fun c7 => ?_) (fun c7 => ?_)
      · exact absurd c7 (by decide)
      · refine w_iconst (v := 0) C dX5_set_57 (by decide) ?_
        exact w_iret C dX5_set_58 ⟨⟨_, rfl⟩, hm⟩
    · exact absurd rfl c2
