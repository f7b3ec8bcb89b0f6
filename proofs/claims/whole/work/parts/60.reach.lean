/-! ===== the reference: reach, part, cycle ===== -/
theorem sc_mem {N : NT} {u v : Nat} : u ∈ nsc (nSo N) (nFd N) v ↔ isLog (nSo N v) = true ∧ ∃ k, k < (nFL N).length ∧ tk N k = v ∧ fk N k = u := by
  unfold nsc
  cases h : isLog (nSo N v) with
  | false => exact ⟨fun q => (by cases q), fun q => absurd q.1 (by decide)⟩
  | true =>
    rw [if_pos rfl, List.mem_map]
    constructor
    · rintro ⟨x, h1, h2⟩
      obtain ⟨k, k1, k2, k3⟩ := nFd_mem2.mp h1
      exact ⟨rfl, k, k1, k2, by rw [← h2, ← k3]⟩
    · rintro ⟨-, k, k1, k2, k3⟩
      exact ⟨(fk N k, gk N k), nFd_mem2.mpr ⟨k, k1, k2, rfl⟩, k3⟩
theorem rk_last {sc : Nat → List Nat} : ∀ {m u v : Nat}, rk sc (m + 1) u v → ∃ w, rk sc m u w ∧ v ∈ sc w := by
  intro m
  induction m with
  | zero =>
    intro u v h
    obtain ⟨w, h1, h2⟩ := h
    cases h2
    exact ⟨u, rfl, h1⟩
  | succ m ih =>
    intro u v h
    obtain ⟨w, h1, h2⟩ := h
    obtain ⟨w', h3, h4⟩ := ih h2
    exact ⟨w', ⟨w, h1, h3⟩, h4⟩
def Rr (N : NT) (d : Bool) (g i : Nat) : Prop := if d = true then rP (nsc (nSo N) (nFd N)) i g else rP (nsc (nSo N) (nFd N)) g i
def stk (N : NT) (d : Bool) (k : Nat) : Nat := if d = true then fk N k else tk N k
def enk (N : NT) (d : Bool) (k : Nat) : Nat := if d = true then tk N k else fk N k
theorem Rr_step {N : NT} {d : Bool} {g k : Nat} (hk : k < (nFL N).length) (hl : isLog (nSo N (tk N k)) = true) (h : stk N d k = g ∨ Rr N d g (stk N d k)) : Rr N d g (enk N d k) := by
  have hm : fk N k ∈ nsc (nSo N) (nFd N) (tk N k) := sc_mem.mpr ⟨hl, k, hk, rfl, rfl⟩
  cases d with
  | true =>
    show rP (nsc (nSo N) (nFd N)) (tk N k) g
    have h' : fk N k = g ∨ rP (nsc (nSo N) (nFd N)) (fk N k) g := h
    rcases h' with h' | ⟨j, h'⟩
    · exact ⟨0, fk N k, hm, h'⟩
    · exact ⟨j + 1, fk N k, hm, h'⟩
  | false =>
    show rP (nsc (nSo N) (nFd N)) g (fk N k)
    have h' : tk N k = g ∨ rP (nsc (nSo N) (nFd N)) g (tk N k) := h
    rcases h' with h' | ⟨j, h'⟩
    · rw [← h']; exact ⟨0, fk N k, hm, rfl⟩
    · exact ⟨j + 1, rk_trans h' (show rk (nsc (nSo N) (nFd N)) 1 (tk N k) (fk N k) from ⟨fk N k, hm, rfl⟩)⟩
theorem Rr_all {N : NT} {d : Bool} {g : Nat} {S : Nat → Prop} (h : ∀ k, k < (nFL N).length → isLog (nSo N (tk N k)) = true → (stk N d k = g ∨ S (stk N d k)) → S (enk N d k)) {i : Nat} (hi : Rr N d g i) : S i := by
  cases d with
  | true =>
    have hi' : rP (nsc (nSo N) (nFd N)) i g := hi
    obtain ⟨m, hm⟩ := hi'
    have main : ∀ (m i : Nat), rk (nsc (nSo N) (nFd N)) (m + 1) i g → S i := by
      intro m
      induction m with
      | zero =>
        intro i h1
        obtain ⟨w, w1, w2⟩ := h1
        obtain ⟨hl, k, k1, k2, k3⟩ := sc_mem.mp w1
        have h9 := h k k1 (by rw [k2]; exact hl) (Or.inl (show fk N k = g from k3.trans w2))
        exact k2 ▸ (h9 : S (tk N k))
      | succ m ih =>
        intro i h1
        obtain ⟨w, w1, w2⟩ := h1
        obtain ⟨hl, k, k1, k2, k3⟩ := sc_mem.mp w1
        have h9 := h k k1 (by rw [k2]; exact hl) (Or.inr (show S (fk N k) from k3 ▸ ih w w2))
        exact k2 ▸ (h9 : S (tk N k))
    exact main m i hm
  | false =>
    have hi' : rP (nsc (nSo N) (nFd N)) g i := hi
    obtain ⟨m, hm⟩ := hi'
    have main : ∀ (m i : Nat), rk (nsc (nSo N) (nFd N)) (m + 1) g i → S i := by
      intro m
      induction m with
      | zero =>
        intro i h1
        obtain ⟨w, w1, w2⟩ := rk_last h1
        have w1' : g = w := w1
        obtain ⟨hl, k, k1, k2, k3⟩ := sc_mem.mp w2
        have h9 := h k k1 (by rw [k2]; exact hl) (Or.inl (show tk N k = g from k2.trans w1'.symm))
        exact k3 ▸ (h9 : S (fk N k))
      | succ m ih =>
        intro i h1
        obtain ⟨w, w1, w2⟩ := rk_last h1
        obtain ⟨hl, k, k1, k2, k3⟩ := sc_mem.mp w2
        have h9 := h k k1 (by rw [k2]; exact hl) (Or.inr (show S (tk N k) from k2 ▸ ih w w1))
        exact k3 ▸ (h9 : S (fk N k))
    exact main m i hm
/-- the marks are sound -/
def rcI (N : NT) (d : Bool) (g fm : Nat) (M1 : Nat → Nat → Int32) : Prop := ∀ i, i < nN N → (M1 fm i = 0 ∨ M1 fm i = 1) ∧ (M1 fm i = 1 → Rr N d g i)
def unM (N : NT) (fm : Nat) (M1 : Nat → Nat → Int32) : Nat := cnt (fun i => decide (M1 fm i = 0)) (nN N)
/-- feed k is done with -/
def clq (N : NT) (d : Bool) (g fm : Nat) (M1 : Nat → Nat → Int32) (k : Nat) : Prop := isLog (nSo N (tk N k)) = true → (stk N d k = g ∨ M1 fm (stk N d k) = 1) → M1 fm (enk N d k) = 1
theorem rcI_w {N : NT} {d : Bool} {g fm k : Nat} {M1 : Nat → Nat → Int32} (h : rcI N d g fm M1) (hk : k < (nFL N).length) (hs : stk N d k < nN N) (he : enk N d k < nN N) (hl : isLog (nSo N (tk N k)) = true) (h0 : M1 fm (enk N d k) = 0) (h1 : stk N d k = g ∨ M1 fm (stk N d k) = 1) : rcI N d g fm (u2 M1 fm (enk N d k) 1) ∧ unM N fm (u2 M1 fm (enk N d k) 1) < unM N fm M1 := by
  refine ⟨fun i hi => ?_, ?_⟩
  · by_cases e : i = enk N d k
    · rw [e, u3_s]
      exact ⟨Or.inr rfl, fun _ => Rr_step hk hl (h1.imp id (fun q => (h _ hs).2 q))⟩
    · rw [u3_a e]; exact h i hi
  · have := cnt_add (P := fun i => decide (u2 M1 fm (enk N d k) 1 fm i = 0)) (Q := fun i => decide (M1 fm i = 0)) he (by rw [u3_s]; rfl) (decide_eq_true h0) (fun i _ hi => by rw [u3_a hi])
    unfold unM
    omega
theorem rcI_end {N : NT} {d : Bool} {g fm : Nat} {M1 : Nat → Nat → Int32} (hO : nOK N) (h : rcI N d g fm M1) (hc : ∀ k, k < (nFL N).length → clq N d g fm M1 k) : ∀ i, i < nN N → (M1 fm i = 0 ∨ M1 fm i = 1) ∧ (M1 fm i = 1 ↔ Rr N d g i) := fun i hi => ⟨(h i hi).1, (h i hi).2, fun q => Rr_all (S := fun j => M1 fm j = 1) hc q⟩
set_option maxHeartbeats 4000000 in
set_option maxRecDepth 100000 in
theorem c_reachT (l : Launch) (G : Gx) (z : Sto) {mo : Nat} {A : Nat → Nat} {I : Nat → Int32} {M : Nat → Nat → Int32} {N : NT} (h0 : mst z mo A I M) (hv : mv I M N) (hO : nOK N) {g fm : Nat} (hg : g < nN N) (hfm : fm = 205 ∨ fm = 206) : Ct l yX5_reach wsX5_reach ({ frames := 0, cells := 0, slots := 0, locals := 0 } : Room) G z [.ref mo, .int (nI g), .int 1, .ref (A fm)] (fun rv z' => rv = none ∧ ∃ M', mR z z' mo A I M' ∧ kx [fm] M M' ∧ ∀ i, i < nN N → (M' fm i = 0 ∨ M' fm i = 1) ∧ (M' fm i = 1 ↔ Rr N true g i)) := by
  refine ct_of (cc := cX5_reach) (maxL := 8) (ret := none) (lv0 := [(0, .ref mo), (1, .int (nI g)), (2, .int 1), (3, .ref (A fm))]) (by decide) rfl (by simp [lg_sl, cat_ref, cat_null, cat_int, cat_long, rf_cat]) (by simp [lv_args, cat_ref, cat_null, cat_int, cat_long, rf_cat]) ?_
  intro p e s m args below meth c C hin
  have i6 : ∀ w ∈ u_ws RX5 TX5 16, w ∈ wsX5_reach := by decide +kernel
  have hm := mR.rf h0
  have hn := hO.1
  have hl := hO.2.1
  have hf9 : aFd fm = true := by rcases hfm with rfl | rfl <;> rfl
  have hk9 : aK fm = 8 := by rcases hfm with rfl | rfl <;> rfl
  have hL9 : aLn fm = 600 := by rcases hfm with rfl | rfl <;> rfl
  have hS9 : [fm].all (fun f => decide (200 < f)) = true := by rcases hfm with rfl | rfl <;> rfl
  have hmem : fm ∈ [fm] := List.mem_cons_self
  have hv0 := hv
  have out : ∀ (u : Nat) (z1 : Sto) (M1 : Nat → Nat → Int32), unM N fm M1 = u → mR z z1 mo A I M1 → kx [fm] M M1 → rcI N true g fm M1 → Wp p l e ({ frames := 0, cells := 0, slots := 0, locals := 0 } : Room) s m args below meth c G 8 0 0 (MQ below (cPost G (fun rv z' => rv = none ∧ ∃ M', mR z z' mo A I M' ∧ kx [fm] M M' ∧ ∀ i, i < nN N → (M' fm i = 0 ∨ M' fm i = 1) ∧ (M' fm i = 1 ↔ Rr N true g i))) args s (0) (0) (gA G)) z1 26 [(4, .int 1), (0, .ref mo), (1, .int (nI g)), (2, .int 1), (3, .ref (A fm))] [] := by
    intro u
    induction u using Nat.strongRecOn with
    | _ u IH =>
      intro z0 M0 hu hm hk1 hr
      have inner : ∀ (r q : Nat) (z1 : Sto) (M1 : Nat → Nat → Int32) (b : Bool), q + r = (nFL N).length → mR z z1 mo A I M1 → kx [fm] M M1 → rcI N true g fm M1 → (b = false → ∀ k, k < q → clq N true g fm M1 k) → (b = true → unM N fm M1 < u) → unM N fm M1 ≤ u → Wp p l e ({ frames := 0, cells := 0, slots := 0, locals := 0 } : Room) s m args below meth c G 8 0 0 (MQ below (cPost G (fun rv z' => rv = none ∧ ∃ M', mR z z' mo A I M' ∧ kx [fm] M M' ∧ ∀ i, i < nN N → (M' fm i = 0 ∨ M' fm i = 1) ∧ (M' fm i = 1 ↔ Rr N true g i))) args s (0) (0) (gA G)) z1 37 [(5, .int (nI q)), (4, .int (bI b)), (0, .ref mo), (1, .int (nI g)), (2, .int 1), (3, .ref (A fm))] [] := by
        intro r
        induction r with
        | zero =>
          intro q z1 M1 b hq hm hk1 hr hb0 hb1 hle
          have hqq : q = (nFL N).length := by omega
          subst hqq
          have hv := hv0.kx hk1 hS9
          cases b with
          | false =>
            refine w_iload C 0 dX5_reach_37 rfl ?_
            refine w_aload_n C 2 dX5_reach_39 rfl rfl (by first | rfl | exact isRef_rf _) ?_
            refine w_getI (ci := 6) (k := 2) (f := 194) C rfl i6 (by decide +kernel) (by decide) (by decide) rfl rfl dX5_reach_40 hm.o ((hm.i 194).trans hv.l) ?_
            refine w_icmp_ge (tgt := 145) C dX5_reach_43 (by decide) (fun c1 => ?_) (fun c1 => ?_)
            · refine w_goto (tgt := 26) C dX5_reach_145 (by decide) ?_
              refine w_iload C 1 dX5_reach_26 rfl ?_
              refine w_if_eq (tgt := 148) C dX5_reach_28 (by decide) (fun c2 => ?_) (fun c2 => ?_)
              · exact w_vret C dX5_reach_148 ⟨rfl, M1, hm, hk1, rcI_end hO hr (hb0 rfl)⟩
              · exact absurd rfl c2
            · exact absurd (nI_le (Nat.le_refl _) (by omega)) c1
          | true =>
            refine w_iload C 0 dX5_reach_37 rfl ?_
            refine w_aload_n C 2 dX5_reach_39 rfl rfl (by first | rfl | exact isRef_rf _) ?_
            refine w_getI (ci := 6) (k := 2) (f := 194) C rfl i6 (by decide +kernel) (by decide) (by decide) rfl rfl dX5_reach_40 hm.o ((hm.i 194).trans hv.l) ?_
            refine w_icmp_ge (tgt := 145) C dX5_reach_43 (by decide) (fun c1 => ?_) (fun c1 => ?_)
            · refine w_goto (tgt := 26) C dX5_reach_145 (by decide) ?_
              exact w_sub [1, 2, 3, 4, 5] rfl (IH _ (hb1 rfl) z1 M1 rfl hm hk1 hr)
            · exact absurd (nI_le (Nat.le_refl _) (by omega)) c1
        | succ r ih =>
          intro q z1 M1 b hq hm hk1 hr hb0 hb1 hle
          have hqq : q < (nFL N).length := by omega
          have hv := hv0.kx hk1 hS9
          obtain ⟨b1, b2, b3⟩ := fl_b hO hqq
          have skip : clq N true g fm M1 q → (b = false → ∀ k, k < q + 1 → clq N true g fm M1 k) := fun h9 hb k hk => by
            by_cases e9 : k = q
            · rw [e9]; exact h9
            · exact hb0 hb k (by omega)
          refine w_iload C 0 dX5_reach_37 rfl ?_
          refine w_aload_n C 2 dX5_reach_39 rfl rfl (by first | rfl | exact isRef_rf _) ?_
          refine w_getI (ci := 6) (k := 2) (f := 194) C rfl i6 (by decide +kernel) (by decide) (by decide) rfl rfl dX5_reach_40 hm.o ((hm.i 194).trans hv.l) ?_
          refine w_icmp_ge (tgt := 145) C dX5_reach_43 (by decide) (fun c1 => ?_) (fun c1 => ?_)
          · exact absurd c1 (nI_ge hqq (by omega))
          · refine w_iload_n C 4 dX5_reach_46 rfl rfl ?_
            refine w_if_eq (tgt := 60) C dX5_reach_47 (by decide) (fun d1 => ?_) (fun d1 => ?_)
            · exact absurd d1 (by decide)
            · refine w_aload_n C 2 dX5_reach_50 rfl rfl (by first | rfl | exact isRef_rf _) ?_
              refine w_getRs (ci := 6) (k := 7) (f := 199) C rfl i6 (by decide +kernel) (by decide) (by decide) rfl rfl dX5_reach_51 hm.o (hm.r 199 rfl) ?_
              refine w_iload C 0 dX5_reach_54 rfl ?_
              refine w_iald C dX5_reach_56 (hm.a 199 rfl rfl) rfl (hm.q 199 rfl (L := 2400) rfl (by omega)) (hm.b 199 rfl) ((hm.e 199 rfl _).trans (hv.f _ (by omega))) ?_
              refine w_goto (tgt := 67) C dX5_reach_57 (by decide) ?_
              refine w_istoreB (lvq := [(6, _), (5, _), (4, _), (0, _), (1, _), (2, _), (3, _)]) C 0 rfl rfl (by first | rfl | exact rf_cat _) dX5_reach_67 (by decide) rfl ?_
              refine w_iload_n C 5 dX5_reach_69 rfl rfl ?_
              refine w_if_eq (tgt := 83) C dX5_reach_70 (by decide) (fun d2 => ?_) (fun d2 => ?_)
              · exact absurd d2 (by decide)
              · refine w_aload_n C 3 dX5_reach_73 rfl rfl (by first | rfl | exact isRef_rf _) ?_
                refine w_getRs (ci := 6) (k := 6) (f := 198) C rfl i6 (by decide +kernel) (by decide) (by decide) rfl rfl dX5_reach_74 hm.o (hm.r 198 rfl) ?_
                refine w_iload C 1 dX5_reach_77 rfl ?_
                refine w_iald C dX5_reach_79 (hm.a 198 rfl rfl) rfl (hm.q 198 rfl (L := 2400) rfl (by omega)) (hm.b 198 rfl) ((hm.e 198 rfl _).trans (hv.t _ (by omega))) ?_
                refine w_goto (tgt := 90) C dX5_reach_80 (by decide) ?_
                refine w_istoreB (lvq := [(7, _), (6, _), (5, _), (4, _), (0, _), (1, _), (2, _), (3, _)]) C 0 rfl rfl (by first | rfl | exact rf_cat _) dX5_reach_90 (by decide) rfl ?_
                refine w_aload_n C 4 dX5_reach_92 rfl rfl (by first | rfl | exact isRef_rf _) ?_
                refine w_getRs (ci := 6) (k := 4) (f := 196) C rfl i6 (by decide +kernel) (by decide) (by decide) rfl rfl dX5_reach_93 hm.o (hm.r 196 rfl) ?_
                refine w_aload_n C 4 dX5_reach_96 rfl rfl (by first | rfl | exact isRef_rf _) ?_
                refine w_getRs (ci := 6) (k := 6) (f := 198) C rfl i6 (by decide +kernel) (by decide) (by decide) rfl rfl dX5_reach_97 hm.o (hm.r 198 rfl) ?_
                refine w_iload C 2 dX5_reach_100 rfl ?_
                refine w_iald C dX5_reach_102 (hm.a 198 rfl rfl) rfl (hm.q 198 rfl (L := 2400) rfl (by omega)) (hm.b 198 rfl) ((hm.e 198 rfl _).trans (hv.t _ (by omega))) ?_
                refine w_iald C dX5_reach_103 (hm.a 196 rfl rfl) rfl (hm.q 196 rfl (L := 600) rfl (by omega)) (hm.b 196 rfl) ((hm.e 196 rfl _).trans (hv.s _ (by omega))) ?_
                refine w_iconst (v := 2) C dX5_reach_104 (by decide) ?_
                refine w_icmp_lt (tgt := 139) C dX5_reach_105 (by decide) (fun c2 => ?_) (fun c2 => ?_)
                · have hs9 : clq N true g fm M1 q := fun w9 _ => absurd ((lg_f c2).symm.trans w9) (by decide)
                  refine w_iincB (v := nI (q + 1)) (lvq := [(5, _), (7, _), (6, _), (4, _), (0, _), (1, _), (2, _), (3, _)]) C 2 3 rfl rfl (by first | rfl | exact rf_cat _) dX5_reach_139 rfl (nI_1 q) (by decide) rfl ?_
                  refine w_goto (tgt := 37) C dX5_reach_142 (by decide) ?_
                  first
                  | exact w_sub [0, 3, 4, 5, 6, 7] rfl (ih (q + 1) z1 M1 b (by omega) hm hk1 hr (skip hs9) hb1 hle)
                  | (obtain ⟨n1, n2⟩ := rcI_w (d := true) hr hqq (show fk N q < nN N by omega) (show tk N q < nN N by omega) hlg c3 hst
                     exact w_sub [0, 3, 4, 5, 6, 7] rfl (ih (q + 1) z1 _ true (by omega) hm (hk1.u hmem _ _) n1 (fun w9 => (by cases w9)) (fun _ => Nat.lt_of_lt_of_le n2 hle) (Nat.le_trans (Nat.le_of_lt n2) hle)))
                · have hlg := lg_t hO b1 c2
                  refine w_aload_n C 7 dX5_reach_108 rfl rfl (by first | rfl | exact isRef_rf _) ?_
                  refine w_iload C 0 dX5_reach_109 rfl ?_
                  refine w_zald C dX5_reach_111 (hm.a fm hf9 hk9) rfl (hm.q fm hf9 (L := 600) hL9 (by omega)) (hm.b fm hf9) (hm.e fm hf9 _) ?_
                  refine w_if_ne (tgt := 139) C dX5_reach_112 (by decide) (fun c3 => ?_) (fun c3 => ?_)
                  · have hs9 : clq N true g fm M1 q := fun _ _ => ((hr (tk N q) (by omega)).1.resolve_left c3)
                    refine w_iincB (v := nI (q + 1)) (lvq := [(5, _), (7, _), (6, _), (4, _), (0, _), (1, _), (2, _), (3, _)]) C 2 3 rfl rfl (by first | rfl | exact rf_cat _) dX5_reach_139 rfl (nI_1 q) (by decide) rfl ?_
                    refine w_goto (tgt := 37) C dX5_reach_142 (by decide) ?_
                    first
                    | exact w_sub [0, 3, 4, 5, 6, 7] rfl (ih (q + 1) z1 M1 b (by omega) hm hk1 hr (skip hs9) hb1 hle)
                    | (obtain ⟨n1, n2⟩ := rcI_w (d := true) hr hqq (show fk N q < nN N by omega) (show tk N q < nN N by omega) hlg c3 hst
                       exact w_sub [0, 3, 4, 5, 6, 7] rfl (ih (q + 1) z1 _ true (by omega) hm (hk1.u hmem _ _) n1 (fun w9 => (by cases w9)) (fun _ => Nat.lt_of_lt_of_le n2 hle) (Nat.le_trans (Nat.le_of_lt n2) hle)))
                  · refine w_iload C 1 dX5_reach_115 rfl ?_
                    refine w_iload_n C 5 dX5_reach_117 rfl rfl ?_
                    refine w_icmp_eq (tgt := 131) C dX5_reach_118 (by decide) (fun c4 => ?_) (fun c4 => ?_)
                    · have hst : stk N true q = g ∨ M1 fm (stk N true q) = 1 := Or.inl (show fk N q = g from (nI_eq (by omega) (by omega)).mp c4)
                      refine w_aload_n C 7 dX5_reach_131 rfl rfl (by first | rfl | exact isRef_rf _) ?_
                      refine w_iload C 0 dX5_reach_132 rfl ?_
                      refine w_iconst (v := 1) C dX5_reach_134 (by decide) ?_
                      refine m_zast (f := fm) (L := 600) C dX5_reach_135 hm hf9 hk9 hL9 rfl (by omega) (show vp_nar .boolean 1 = 1 from rfl) (fun z1 hm => ?_)
                      refine w_iconst (v := 1) C dX5_reach_136 (by decide) ?_
                      refine w_istoreB (lvq := [(4, _), (7, _), (6, _), (5, _), (0, _), (1, _), (2, _), (3, _)]) C 7 rfl rfl (by first | rfl | exact rf_cat _) dX5_reach_137 (by decide) rfl ?_
                      refine w_iincB (v := nI (q + 1)) (lvq := [(5, _), (4, _), (7, _), (6, _), (0, _), (1, _), (2, _), (3, _)]) C 3 0 rfl rfl (by first | rfl | exact rf_cat _) dX5_reach_139 rfl (nI_1 q) (by decide) rfl ?_
                      refine w_goto (tgt := 37) C dX5_reach_142 (by decide) ?_
                      first
                      | exact w_sub [0, 1, 4, 5, 6, 7] rfl (ih (q + 1) z1 M1 b (by omega) hm hk1 hr (skip hs9) hb1 hle)
                      | (obtain ⟨n1, n2⟩ := rcI_w (d := true) hr hqq (show fk N q < nN N by omega) (show tk N q < nN N by omega) hlg c3 hst
                         exact w_sub [0, 1, 4, 5, 6, 7] rfl (ih (q + 1) z1 _ true (by omega) hm (hk1.u hmem _ _) n1 (fun w9 => (by cases w9)) (fun _ => Nat.lt_of_lt_of_le n2 hle) (Nat.le_trans (Nat.le_of_lt n2) hle)))
                    · refine w_aload_n C 7 dX5_reach_121 rfl rfl (by first | rfl | exact isRef_rf _) ?_
                      refine w_iload C 1 dX5_reach_122 rfl ?_
                      refine w_zald C dX5_reach_124 (hm.a fm hf9 hk9) rfl (hm.q fm hf9 (L := 600) hL9 (by omega)) (hm.b fm hf9) (hm.e fm hf9 _) ?_
                      refine w_if_ne (tgt := 131) C dX5_reach_125 (by decide) (fun c5 => ?_) (fun c5 => ?_)
                      · have hst : stk N true q = g ∨ M1 fm (stk N true q) = 1 := Or.inr ((hr (fk N q) (by omega)).1.resolve_left c5)
                        refine w_aload_n C 7 dX5_reach_131 rfl rfl (by first | rfl | exact isRef_rf _) ?_
                        refine w_iload C 0 dX5_reach_132 rfl ?_
                        refine w_iconst (v := 1) C dX5_reach_134 (by decide) ?_
                        refine m_zast (f := fm) (L := 600) C dX5_reach_135 hm hf9 hk9 hL9 rfl (by omega) (show vp_nar .boolean 1 = 1 from rfl) (fun z1 hm => ?_)
                        refine w_iconst (v := 1) C dX5_reach_136 (by decide) ?_
                        refine w_istoreB (lvq := [(4, _), (7, _), (6, _), (5, _), (0, _), (1, _), (2, _), (3, _)]) C 7 rfl rfl (by first | rfl | exact rf_cat _) dX5_reach_137 (by decide) rfl ?_
                        refine w_iincB (v := nI (q + 1)) (lvq := [(5, _), (4, _), (7, _), (6, _), (0, _), (1, _), (2, _), (3, _)]) C 3 0 rfl rfl (by first | rfl | exact rf_cat _) dX5_reach_139 rfl (nI_1 q) (by decide) rfl ?_
                        refine w_goto (tgt := 37) C dX5_reach_142 (by decide) ?_
                        first
                        | exact w_sub [0, 1, 4, 5, 6, 7] rfl (ih (q + 1) z1 M1 b (by omega) hm hk1 hr (skip hs9) hb1 hle)
                        | (obtain ⟨n1, n2⟩ := rcI_w (d := true) hr hqq (show fk N q < nN N by omega) (show tk N q < nN N by omega) hlg c3 hst
                           exact w_sub [0, 1, 4, 5, 6, 7] rfl (ih (q + 1) z1 _ true (by omega) hm (hk1.u hmem _ _) n1 (fun w9 => (by cases w9)) (fun _ => Nat.lt_of_lt_of_le n2 hle) (Nat.le_trans (Nat.le_of_lt n2) hle)))
                      · have hs9 : clq N true g fm M1 q := fun _ w9 => absurd w9 (by
                          rintro (w8 | w8)
                          · exact c4 (by rw [← w8]; rfl)
                          · have w7 : M1 fm (fk N q) = 1 := w8
                            rw [c5] at w7
                            exact absurd w7 (by decide))
                        refine w_goto (tgt := 139) C dX5_reach_128 (by decide) ?_
                        refine w_iincB (v := nI (q + 1)) (lvq := [(5, _), (7, _), (6, _), (4, _), (0, _), (1, _), (2, _), (3, _)]) C 2 3 rfl rfl (by first | rfl | exact rf_cat _) dX5_reach_139 rfl (nI_1 q) (by decide) rfl ?_
                        refine w_goto (tgt := 37) C dX5_reach_142 (by decide) ?_
                        first
                        | exact w_sub [0, 3, 4, 5, 6, 7] rfl (ih (q + 1) z1 M1 b (by omega) hm hk1 hr (skip hs9) hb1 hle)
                        | (obtain ⟨n1, n2⟩ := rcI_w (d := true) hr hqq (show fk N q < nN N by omega) (show tk N q < nN N by omega) hlg c3 hst
                           exact w_sub [0, 3, 4, 5, 6, 7] rfl (ih (q + 1) z1 _ true (by omega) hm (hk1.u hmem _ _) n1 (fun w9 => (by cases w9)) (fun _ => Nat.lt_of_lt_of_le n2 hle) (Nat.le_trans (Nat.le_of_lt n2) hle)))
      refine w_iload C 0 dX5_reach_26 rfl ?_
      refine w_if_eq (tgt := 148) C dX5_reach_28 (by decide) (fun c2 => ?_) (fun c2 => ?_)
      · exact absurd c2 (by decide)
      · refine w_iconst (v := 0) C dX5_reach_31 (by decide) ?_
        refine w_istoreB (lvq := [(4, _), (0, _), (1, _), (2, _), (3, _)]) C 4 rfl rfl (by first | rfl | exact rf_cat _) dX5_reach_32 (by decide) rfl ?_
        refine w_iconst (v := 0) C dX5_reach_34 (by decide) ?_
        refine w_istoreB (lvq := [(5, _), (4, _), (0, _), (1, _), (2, _), (3, _)]) C 0 rfl rfl (by first | rfl | exact rf_cat _) dX5_reach_35 (by decide) rfl ?_
        exact w_sub [0, 1, 2, 3, 4, 5] rfl (inner (nFL N).length 0 z0 M0 false (by omega) hm hk1 hr (fun _ k hk => (by cases hk)) (fun w9 => (by cases w9)) (by omega))
  have start : ∀ (r i : Nat) (z1 : Sto) (M1 : Nat → Nat → Int32), i + r = nN N → mR z z1 mo A I M1 → kx [fm] M M1 → (∀ j, j < i → M1 fm j = 0) → Wp p l e ({ frames := 0, cells := 0, slots := 0, locals := 0 } : Room) s m args below meth c G 8 0 0 (MQ below (cPost G (fun rv z' => rv = none ∧ ∃ M', mR z z' mo A I M' ∧ kx [fm] M M' ∧ ∀ i, i < nN N → (M' fm i = 0 ∨ M' fm i = 1) ∧ (M' fm i = 1 ↔ Rr N true g i))) args s (0) (0) (gA G)) z1 3 [(4, .int (nI i)), (0, .ref mo), (1, .int (nI g)), (2, .int 1), (3, .ref (A fm))] [] := by
    intro r
    induction r with
    | zero =>
      intro i z1 M1 hi hm hk1 h0
      have hii : i = nN N := by omega
      subst hii
      refine w_iload C 0 dX5_reach_3 rfl ?_
      refine w_aload_n C 1 dX5_reach_5 rfl rfl (by first | rfl | exact isRef_rf _) ?_
      refine w_getI (ci := 6) (k := 1) (f := 193) C rfl i6 (by decide +kernel) (by decide) (by decide) rfl rfl dX5_reach_6 hm.o ((hm.i 193).trans hv.n) ?_
      refine w_icmp_ge (tgt := 23) C dX5_reach_9 (by decide) (fun c1 => ?_) (fun c1 => ?_)
      · refine w_iconst (v := 1) C dX5_reach_23 (by decide) ?_
        refine w_istoreB (lvq := [(4, _), (0, _), (1, _), (2, _), (3, _)]) C 4 rfl rfl (by first | rfl | exact rf_cat _) dX5_reach_24 (by decide) rfl ?_
        exact w_sub [0, 1, 2, 3, 4] rfl (out _ z1 M1 rfl hm hk1 (fun j hj => by rw [h0 j hj]; exact ⟨Or.inl rfl, fun w9 => absurd w9 (by decide)⟩))
      · exact absurd (nI_le (Nat.le_refl _) (by omega)) c1
    | succ r ih =>
      intro i z1 M1 hi hm hk1 h0
      have hii : i < nN N := by omega
      refine w_iload C 0 dX5_reach_3 rfl ?_
      refine w_aload_n C 1 dX5_reach_5 rfl rfl (by first | rfl | exact isRef_rf _) ?_
      refine w_getI (ci := 6) (k := 1) (f := 193) C rfl i6 (by decide +kernel) (by decide) (by decide) rfl rfl dX5_reach_6 hm.o ((hm.i 193).trans hv.n) ?_
      refine w_icmp_ge (tgt := 23) C dX5_reach_9 (by decide) (fun c1 => ?_) (fun c1 => ?_)
      · exact absurd c1 (nI_ge hii (by omega))
      · refine w_aload_n C 4 dX5_reach_12 rfl rfl (by first | rfl | exact isRef_rf _) ?_
        refine w_iload C 0 dX5_reach_13 rfl ?_
        refine w_iconst (v := 0) C dX5_reach_15 (by decide) ?_
        refine m_zast (f := fm) (L := 600) C dX5_reach_16 hm hf9 hk9 hL9 rfl (by omega) (show vp_nar .boolean 0 = 0 from rfl) (fun z1 hm => ?_)
        refine w_iincB (v := nI (i + 1)) (lvq := [(4, _), (0, _), (1, _), (2, _), (3, _)]) C 0 4 rfl rfl (by first | rfl | exact rf_cat _) dX5_reach_17 rfl (nI_1 i) (by decide) rfl ?_
        refine w_goto (tgt := 3) C dX5_reach_20 (by decide) ?_
        exact w_sub [0, 1, 2, 3, 4] rfl (ih (i + 1) z1 _ (by omega) hm (hk1.u hmem _ _) (fun j hj => by
          by_cases e9 : j = i
          · rw [e9, u3_s]
          · rw [u3_a e9]; exact h0 j (by omega)))
  refine w_iconst (v := 0) C dX5_reach_0 (by decide) ?_
  refine w_istoreB (lvq := [(4, _), (0, _), (1, _), (2, _), (3, _)]) C 3 rfl rfl (by first | rfl | exact rf_cat _) dX5_reach_1 (by decide) rfl ?_
  exact w_sub [0, 1, 2, 3, 4] rfl (start (nN N) 0 z M (by omega) hm (kx.rf _ _) (fun j hj => (by cases hj)))
set_option maxHeartbeats 4000000 in
set_option maxRecDepth 100000 in
theorem c_reachF (l : Launch) (G : Gx) (z : Sto) {mo : Nat} {A : Nat → Nat} {I : Nat → Int32} {M : Nat → Nat → Int32} {N : NT} (h0 : mst z mo A I M) (hv : mv I M N) (hO : nOK N) {g fm : Nat} (hg : g < nN N) (hfm : fm = 205 ∨ fm = 206) : Ct l yX5_reach wsX5_reach ({ frames := 0, cells := 0, slots := 0, locals := 0 } : Room) G z [.ref mo, .int (nI g), .int 0, .ref (A fm)] (fun rv z' => rv = none ∧ ∃ M', mR z z' mo A I M' ∧ kx [fm] M M' ∧ ∀ i, i < nN N → (M' fm i = 0 ∨ M' fm i = 1) ∧ (M' fm i = 1 ↔ Rr N false g i)) := by
  refine ct_of (cc := cX5_reach) (maxL := 8) (ret := none) (lv0 := [(0, .ref mo), (1, .int (nI g)), (2, .int 0), (3, .ref (A fm))]) (by decide) rfl (by simp [lg_sl, cat_ref, cat_null, cat_int, cat_long, rf_cat]) (by simp [lv_args, cat_ref, cat_null, cat_int, cat_long, rf_cat]) ?_
  intro p e s m args below meth c C hin
  have i6 : ∀ w ∈ u_ws RX5 TX5 16, w ∈ wsX5_reach := by decide +kernel
  have hm := mR.rf h0
  have hn := hO.1
  have hl := hO.2.1
  have hf9 : aFd fm = true := by rcases hfm with rfl | rfl <;> rfl
  have hk9 : aK fm = 8 := by rcases hfm with rfl | rfl <;> rfl
  have hL9 : aLn fm = 600 := by rcases hfm with rfl | rfl <;> rfl
  have hS9 : [fm].all (fun f => decide (200 < f)) = true := by rcases hfm with rfl | rfl <;> rfl
  have hmem : fm ∈ [fm] := List.mem_cons_self
  have hv0 := hv
  have out : ∀ (u : Nat) (z1 : Sto) (M1 : Nat → Nat → Int32), unM N fm M1 = u → mR z z1 mo A I M1 → kx [fm] M M1 → rcI N false g fm M1 → Wp p l e ({ frames := 0, cells := 0, slots := 0, locals := 0 } : Room) s m args below meth c G 8 0 0 (MQ below (cPost G (fun rv z' => rv = none ∧ ∃ M', mR z z' mo A I M' ∧ kx [fm] M M' ∧ ∀ i, i < nN N → (M' fm i = 0 ∨ M' fm i = 1) ∧ (M' fm i = 1 ↔ Rr N false g i))) args s (0) (0) (gA G)) z1 26 [(4, .int 1), (0, .ref mo), (1, .int (nI g)), (2, .int 0), (3, .ref (A fm))] [] := by
    intro u
    induction u using Nat.strongRecOn with
    | _ u IH =>
      intro z0 M0 hu hm hk1 hr
      have inner : ∀ (r q : Nat) (z1 : Sto) (M1 : Nat → Nat → Int32) (b : Bool), q + r = (nFL N).length → mR z z1 mo A I M1 → kx [fm] M M1 → rcI N false g fm M1 → (b = false → ∀ k, k < q → clq N false g fm M1 k) → (b = true → unM N fm M1 < u) → unM N fm M1 ≤ u → Wp p l e ({ frames := 0, cells := 0, slots := 0, locals := 0 } : Room) s m args below meth c G 8 0 0 (MQ below (cPost G (fun rv z' => rv = none ∧ ∃ M', mR z z' mo A I M' ∧ kx [fm] M M' ∧ ∀ i, i < nN N → (M' fm i = 0 ∨ M' fm i = 1) ∧ (M' fm i = 1 ↔ Rr N false g i))) args s (0) (0) (gA G)) z1 37 [(5, .int (nI q)), (4, .int (bI b)), (0, .ref mo), (1, .int (nI g)), (2, .int 0), (3, .ref (A fm))] [] := by
        intro r
        induction r with
        | zero =>
          intro q z1 M1 b hq hm hk1 hr hb0 hb1 hle
          have hqq : q = (nFL N).length := by omega
          subst hqq
          have hv := hv0.kx hk1 hS9
          cases b with
          | false =>
            refine w_iload C 0 dX5_reach_37 rfl ?_
            refine w_aload_n C 2 dX5_reach_39 rfl rfl (by first | rfl | exact isRef_rf _) ?_
            refine w_getI (ci := 6) (k := 2) (f := 194) C rfl i6 (by decide +kernel) (by decide) (by decide) rfl rfl dX5_reach_40 hm.o ((hm.i 194).trans hv.l) ?_
            refine w_icmp_ge (tgt := 145) C dX5_reach_43 (by decide) (fun c1 => ?_) (fun c1 => ?_)
            · refine w_goto (tgt := 26) C dX5_reach_145 (by decide) ?_
              refine w_iload C 1 dX5_reach_26 rfl ?_
              refine w_if_eq (tgt := 148) C dX5_reach_28 (by decide) (fun c2 => ?_) (fun c2 => ?_)
              · exact w_vret C dX5_reach_148 ⟨rfl, M1, hm, hk1, rcI_end hO hr (hb0 rfl)⟩
              · exact absurd rfl c2
            · exact absurd (nI_le (Nat.le_refl _) (by omega)) c1
          | true =>
            refine w_iload C 0 dX5_reach_37 rfl ?_
            refine w_aload_n C 2 dX5_reach_39 rfl rfl (by first | rfl | exact isRef_rf _) ?_
            refine w_getI (ci := 6) (k := 2) (f := 194) C rfl i6 (by decide +kernel) (by decide) (by decide) rfl rfl dX5_reach_40 hm.o ((hm.i 194).trans hv.l) ?_
            refine w_icmp_ge (tgt := 145) C dX5_reach_43 (by decide) (fun c1 => ?_) (fun c1 => ?_)
            · refine w_goto (tgt := 26) C dX5_reach_145 (by decide) ?_
              exact w_sub [1, 2, 3, 4, 5] rfl (IH _ (hb1 rfl) z1 M1 rfl hm hk1 hr)
            · exact absurd (nI_le (Nat.le_refl _) (by omega)) c1
        | succ r ih =>
          intro q z1 M1 b hq hm hk1 hr hb0 hb1 hle
          have hqq : q < (nFL N).length := by omega
          have hv := hv0.kx hk1 hS9
          obtain ⟨b1, b2, b3⟩ := fl_b hO hqq
          have skip : clq N false g fm M1 q → (b = false → ∀ k, k < q + 1 → clq N false g fm M1 k) := fun h9 hb k hk => by
            by_cases e9 : k = q
            · rw [e9]; exact h9
            · exact hb0 hb k (by omega)
          refine w_iload C 0 dX5_reach_37 rfl ?_
          refine w_aload_n C 2 dX5_reach_39 rfl rfl (by first | rfl | exact isRef_rf _) ?_
          refine w_getI (ci := 6) (k := 2) (f := 194) C rfl i6 (by decide +kernel) (by decide) (by decide) rfl rfl dX5_reach_40 hm.o ((hm.i 194).trans hv.l) ?_
          refine w_icmp_ge (tgt := 145) C dX5_reach_43 (by decide) (fun c1 => ?_) (fun c1 => ?_)
          · exact absurd c1 (nI_ge hqq (by omega))
          · refine w_iload_n C 4 dX5_reach_46 rfl rfl ?_
            refine w_if_eq (tgt := 60) C dX5_reach_47 (by decide) (fun d1 => ?_) (fun d1 => ?_)
            · refine w_aload_n C 2 dX5_reach_60 rfl rfl (by first | rfl | exact isRef_rf _) ?_
              refine w_getRs (ci := 6) (k := 6) (f := 198) C rfl i6 (by decide +kernel) (by decide) (by decide) rfl rfl dX5_reach_61 hm.o (hm.r 198 rfl) ?_
              refine w_iload C 0 dX5_reach_64 rfl ?_
              refine w_iald C dX5_reach_66 (hm.a 198 rfl rfl) rfl (hm.q 198 rfl (L := 2400) rfl (by omega)) (hm.b 198 rfl) ((hm.e 198 rfl _).trans (hv.t _ (by omega))) ?_
              refine w_istoreB (lvq := [(6, _), (5, _), (4, _), (0, _), (1, _), (2, _), (3, _)]) C 0 rfl rfl (by first | rfl | exact rf_cat _) dX5_reach_67 (by decide) rfl ?_
              refine w_iload_n C 5 dX5_reach_69 rfl rfl ?_
              refine w_if_eq (tgt := 83) C dX5_reach_70 (by decide) (fun d2 => ?_) (fun d2 => ?_)
              · refine w_aload_n C 3 dX5_reach_83 rfl rfl (by first | rfl | exact isRef_rf _) ?_
                refine w_getRs (ci := 6) (k := 7) (f := 199) C rfl i6 (by decide +kernel) (by decide) (by decide) rfl rfl dX5_reach_84 hm.o (hm.r 199 rfl) ?_
                refine w_iload C 1 dX5_reach_87 rfl ?_
                refine w_iald C dX5_reach_89 (hm.a 199 rfl rfl) rfl (hm.q 199 rfl (L := 2400) rfl (by omega)) (hm.b 199 rfl) ((hm.e 199 rfl _).trans (hv.f _ (by omega))) ?_
                refine w_istoreB (lvq := [(7, _), (6, _), (5, _), (4, _), (0, _), (1, _), (2, _), (3, _)]) C 0 rfl rfl (by first | rfl | exact rf_cat _) dX5_reach_90 (by decide) rfl ?_
                refine w_aload_n C 4 dX5_reach_92 rfl rfl (by first | rfl | exact isRef_rf _) ?_
                refine w_getRs (ci := 6) (k := 4) (f := 196) C rfl i6 (by decide +kernel) (by decide) (by decide) rfl rfl dX5_reach_93 hm.o (hm.r 196 rfl) ?_
                refine w_aload_n C 4 dX5_reach_96 rfl rfl (by first | rfl | exact isRef_rf _) ?_
                refine w_getRs (ci := 6) (k := 6) (f := 198) C rfl i6 (by decide +kernel) (by decide) (by decide) rfl rfl dX5_reach_97 hm.o (hm.r 198 rfl) ?_
                refine w_iload C 2 dX5_reach_100 rfl ?_
                refine w_iald C dX5_reach_102 (hm.a 198 rfl rfl) rfl (hm.q 198 rfl (L := 2400) rfl (by omega)) (hm.b 198 rfl) ((hm.e 198 rfl _).trans (hv.t _ (by omega))) ?_
                refine w_iald C dX5_reach_103 (hm.a 196 rfl rfl) rfl (hm.q 196 rfl (L := 600) rfl (by omega)) (hm.b 196 rfl) ((hm.e 196 rfl _).trans (hv.s _ (by omega))) ?_
                refine w_iconst (v := 2) C dX5_reach_104 (by decide) ?_
                refine w_icmp_lt (tgt := 139) C dX5_reach_105 (by decide) (fun c2 => ?_) (fun c2 => ?_)
                · have hs9 : clq N false g fm M1 q := fun w9 _ => absurd ((lg_f c2).symm.trans w9) (by decide)
                  refine w_iincB (v := nI (q + 1)) (lvq := [(5, _), (7, _), (6, _), (4, _), (0, _), (1, _), (2, _), (3, _)]) C 2 3 rfl rfl (by first | rfl | exact rf_cat _) dX5_reach_139 rfl (nI_1 q) (by decide) rfl ?_
                  refine w_goto (tgt := 37) C dX5_reach_142 (by decide) ?_
                  first
                  | exact w_sub [0, 3, 4, 5, 6, 7] rfl (ih (q + 1) z1 M1 b (by omega) hm hk1 hr (skip hs9) hb1 hle)
                  | (obtain ⟨n1, n2⟩ := rcI_w (d := false) hr hqq (show tk N q < nN N by omega) (show fk N q < nN N by omega) hlg c3 hst
                     exact w_sub [0, 3, 4, 5, 6, 7] rfl (ih (q + 1) z1 _ true (by omega) hm (hk1.u hmem _ _) n1 (fun w9 => (by cases w9)) (fun _ => Nat.lt_of_lt_of_le n2 hle) (Nat.le_trans (Nat.le_of_lt n2) hle)))
                · have hlg := lg_t hO b1 c2
                  refine w_aload_n C 7 dX5_reach_108 rfl rfl (by first | rfl | exact isRef_rf _) ?_
                  refine w_iload C 0 dX5_reach_109 rfl ?_
                  refine w_zald C dX5_reach_111 (hm.a fm hf9 hk9) rfl (hm.q fm hf9 (L := 600) hL9 (by omega)) (hm.b fm hf9) (hm.e fm hf9 _) ?_
                  refine w_if_ne (tgt := 139) C dX5_reach_112 (by decide) (fun c3 => ?_) (fun c3 => ?_)
                  · have hs9 : clq N false g fm M1 q := fun _ _ => ((hr (fk N q) (by omega)).1.resolve_left c3)
                    refine w_iincB (v := nI (q + 1)) (lvq := [(5, _), (7, _), (6, _), (4, _), (0, _), (1, _), (2, _), (3, _)]) C 2 3 rfl rfl (by first | rfl | exact rf_cat _) dX5_reach_139 rfl (nI_1 q) (by decide) rfl ?_
                    refine w_goto (tgt := 37) C dX5_reach_142 (by decide) ?_
                    first
                    | exact w_sub [0, 3, 4, 5, 6, 7] rfl (ih (q + 1) z1 M1 b (by omega) hm hk1 hr (skip hs9) hb1 hle)
                    | (obtain ⟨n1, n2⟩ := rcI_w (d := false) hr hqq (show tk N q < nN N by omega) (show fk N q < nN N by omega) hlg c3 hst
                       exact w_sub [0, 3, 4, 5, 6, 7] rfl (ih (q + 1) z1 _ true (by omega) hm (hk1.u hmem _ _) n1 (fun w9 => (by cases w9)) (fun _ => Nat.lt_of_lt_of_le n2 hle) (Nat.le_trans (Nat.le_of_lt n2) hle)))
                  · refine w_iload C 1 dX5_reach_115 rfl ?_
                    refine w_iload_n C 5 dX5_reach_117 rfl rfl ?_
                    refine w_icmp_eq (tgt := 131) C dX5_reach_118 (by decide) (fun c4 => ?_) (fun c4 => ?_)
                    · have hst : stk N false q = g ∨ M1 fm (stk N false q) = 1 := Or.inl (show tk N q = g from (nI_eq (by omega) (by omega)).mp c4)
                      refine w_aload_n C 7 dX5_reach_131 rfl rfl (by first | rfl | exact isRef_rf _) ?_
                      refine w_iload C 0 dX5_reach_132 rfl ?_
                      refine w_iconst (v := 1) C dX5_reach_134 (by decide) ?_
                      refine m_zast (f := fm) (L := 600) C dX5_reach_135 hm hf9 hk9 hL9 rfl (by omega) (show vp_nar .boolean 1 = 1 from rfl) (fun z1 hm => ?_)
                      refine w_iconst (v := 1) C dX5_reach_136 (by decide) ?_
                      refine w_istoreB (lvq := [(4, _), (7, _), (6, _), (5, _), (0, _), (1, _), (2, _), (3, _)]) C 7 rfl rfl (by first | rfl | exact rf_cat _) dX5_reach_137 (by decide) rfl ?_
                      refine w_iincB (v := nI (q + 1)) (lvq := [(5, _), (4, _), (7, _), (6, _), (0, _), (1, _), (2, _), (3, _)]) C 3 0 rfl rfl (by first | rfl | exact rf_cat _) dX5_reach_139 rfl (nI_1 q) (by decide) rfl ?_
                      refine w_goto (tgt := 37) C dX5_reach_142 (by decide) ?_
                      first
                      | exact w_sub [0, 1, 4, 5, 6, 7] rfl (ih (q + 1) z1 M1 b (by omega) hm hk1 hr (skip hs9) hb1 hle)
                      | (obtain ⟨n1, n2⟩ := rcI_w (d := false) hr hqq (show tk N q < nN N by omega) (show fk N q < nN N by omega) hlg c3 hst
                         exact w_sub [0, 1, 4, 5, 6, 7] rfl (ih (q + 1) z1 _ true (by omega) hm (hk1.u hmem _ _) n1 (fun w9 => (by cases w9)) (fun _ => Nat.lt_of_lt_of_le n2 hle) (Nat.le_trans (Nat.le_of_lt n2) hle)))
                    · refine w_aload_n C 7 dX5_reach_121 rfl rfl (by first | rfl | exact isRef_rf _) ?_
                      refine w_iload C 1 dX5_reach_122 rfl ?_
                      refine w_zald C dX5_reach_124 (hm.a fm hf9 hk9) rfl (hm.q fm hf9 (L := 600) hL9 (by omega)) (hm.b fm hf9) (hm.e fm hf9 _) ?_
                      refine w_if_ne (tgt := 131) C dX5_reach_125 (by decide) (fun c5 => ?_) (fun c5 => ?_)
                      · have hst : stk N false q = g ∨ M1 fm (stk N false q) = 1 := Or.inr ((hr (tk N q) (by omega)).1.resolve_left c5)
                        refine w_aload_n C 7 dX5_reach_131 rfl rfl (by first | rfl | exact isRef_rf _) ?_
                        refine w_iload C 0 dX5_reach_132 rfl ?_
                        refine w_iconst (v := 1) C dX5_reach_134 (by decide) ?_
                        refine m_zast (f := fm) (L := 600) C dX5_reach_135 hm hf9 hk9 hL9 rfl (by omega) (show vp_nar .boolean 1 = 1 from rfl) (fun z1 hm => ?_)
                        refine w_iconst (v := 1) C dX5_reach_136 (by decide) ?_
                        refine w_istoreB (lvq := [(4, _), (7, _), (6, _), (5, _), (0, _), (1, _), (2, _), (3, _)]) C 7 rfl rfl (by first | rfl | exact rf_cat _) dX5_reach_137 (by decide) rfl ?_
                        refine w_iincB (v := nI (q + 1)) (lvq := [(5, _), (4, _), (7, _), (6, _), (0, _), (1, _), (2, _), (3, _)]) C 3 0 rfl rfl (by first | rfl | exact rf_cat _) dX5_reach_139 rfl (nI_1 q) (by decide) rfl ?_
                        refine w_goto (tgt := 37) C dX5_reach_142 (by decide) ?_
                        first
                        | exact w_sub [0, 1, 4, 5, 6, 7] rfl (ih (q + 1) z1 M1 b (by omega) hm hk1 hr (skip hs9) hb1 hle)
                        | (obtain ⟨n1, n2⟩ := rcI_w (d := false) hr hqq (show tk N q < nN N by omega) (show fk N q < nN N by omega) hlg c3 hst
                           exact w_sub [0, 1, 4, 5, 6, 7] rfl (ih (q + 1) z1 _ true (by omega) hm (hk1.u hmem _ _) n1 (fun w9 => (by cases w9)) (fun _ => Nat.lt_of_lt_of_le n2 hle) (Nat.le_trans (Nat.le_of_lt n2) hle)))
                      · have hs9 : clq N false g fm M1 q := fun _ w9 => absurd w9 (by
                          rintro (w8 | w8)
                          · exact c4 (by rw [← w8]; rfl)
                          · have w7 : M1 fm (tk N q) = 1 := w8
                            rw [c5] at w7
                            exact absurd w7 (by decide))
                        refine w_goto (tgt := 139) C dX5_reach_128 (by decide) ?_
                        refine w_iincB (v := nI (q + 1)) (lvq := [(5, _), (7, _), (6, _), (4, _), (0, _), (1, _), (2, _), (3, _)]) C 2 3 rfl rfl (by first | rfl | exact rf_cat _) dX5_reach_139 rfl (nI_1 q) (by decide) rfl ?_
                        refine w_goto (tgt := 37) C dX5_reach_142 (by decide) ?_
                        first
                        | exact w_sub [0, 3, 4, 5, 6, 7] rfl (ih (q + 1) z1 M1 b (by omega) hm hk1 hr (skip hs9) hb1 hle)
                        | (obtain ⟨n1, n2⟩ := rcI_w (d := false) hr hqq (show tk N q < nN N by omega) (show fk N q < nN N by omega) hlg c3 hst
                           exact w_sub [0, 3, 4, 5, 6, 7] rfl (ih (q + 1) z1 _ true (by omega) hm (hk1.u hmem _ _) n1 (fun w9 => (by cases w9)) (fun _ => Nat.lt_of_lt_of_le n2 hle) (Nat.le_trans (Nat.le_of_lt n2) hle)))
              · exact absurd rfl d2
            · exact absurd rfl d1
      refine w_iload C 0 dX5_reach_26 rfl ?_
      refine w_if_eq (tgt := 148) C dX5_reach_28 (by decide) (fun c2 => ?_) (fun c2 => ?_)
      · exact absurd c2 (by decide)
      · refine w_iconst (v := 0) C dX5_reach_31 (by decide) ?_
        refine w_istoreB (lvq := [(4, _), (0, _), (1, _), (2, _), (3, _)]) C 4 rfl rfl (by first | rfl | exact rf_cat _) dX5_reach_32 (by decide) rfl ?_
        refine w_iconst (v := 0) C dX5_reach_34 (by decide) ?_
        refine w_istoreB (lvq := [(5, _), (4, _), (0, _), (1, _), (2, _), (3, _)]) C 0 rfl rfl (by first | rfl | exact rf_cat _) dX5_reach_35 (by decide) rfl ?_
        exact w_sub [0, 1, 2, 3, 4, 5] rfl (inner (nFL N).length 0 z0 M0 false (by omega) hm hk1 hr (fun _ k hk => (by cases hk)) (fun w9 => (by cases w9)) (by omega))
  have start : ∀ (r i : Nat) (z1 : Sto) (M1 : Nat → Nat → Int32), i + r = nN N → mR z z1 mo A I M1 → kx [fm] M M1 → (∀ j, j < i → M1 fm j = 0) → Wp p l e ({ frames := 0, cells := 0, slots := 0, locals := 0 } : Room) s m args below meth c G 8 0 0 (MQ below (cPost G (fun rv z' => rv = none ∧ ∃ M', mR z z' mo A I M' ∧ kx [fm] M M' ∧ ∀ i, i < nN N → (M' fm i = 0 ∨ M' fm i = 1) ∧ (M' fm i = 1 ↔ Rr N false g i))) args s (0) (0) (gA G)) z1 3 [(4, .int (nI i)), (0, .ref mo), (1, .int (nI g)), (2, .int 0), (3, .ref (A fm))] [] := by
    intro r
    induction r with
    | zero =>
      intro i z1 M1 hi hm hk1 h0
      have hii : i = nN N := by omega
      subst hii
      refine w_iload C 0 dX5_reach_3 rfl ?_
      refine w_aload_n C 1 dX5_reach_5 rfl rfl (by first | rfl | exact isRef_rf _) ?_
      refine w_getI (ci := 6) (k := 1) (f := 193) C rfl i6 (by decide +kernel) (by decide) (by decide) rfl rfl dX5_reach_6 hm.o ((hm.i 193).trans hv.n) ?_
      refine w_icmp_ge (tgt := 23) C dX5_reach_9 (by decide) (fun c1 => ?_) (fun c1 => ?_)
      · refine w_iconst (v := 1) C dX5_reach_23 (by decide) ?_
        refine w_istoreB (lvq := [(4, _), (0, _), (1, _), (2, _), (3, _)]) C 4 rfl rfl (by first | rfl | exact rf_cat _) dX5_reach_24 (by decide) rfl ?_
        exact w_sub [0, 1, 2, 3, 4] rfl (out _ z1 M1 rfl hm hk1 (fun j hj => by rw [h0 j hj]; exact ⟨Or.inl rfl, fun w9 => absurd w9 (by decide)⟩))
      · exact absurd (nI_le (Nat.le_refl _) (by omega)) c1
    | succ r ih =>
      intro i z1 M1 hi hm hk1 h0
      have hii : i < nN N := by omega
      refine w_iload C 0 dX5_reach_3 rfl ?_
      refine w_aload_n C 1 dX5_reach_5 rfl rfl (by first | rfl | exact isRef_rf _) ?_
      refine w_getI (ci := 6) (k := 1) (f := 193) C rfl i6 (by decide +kernel) (by decide) (by decide) rfl rfl dX5_reach_6 hm.o ((hm.i 193).trans hv.n) ?_
      refine w_icmp_ge (tgt := 23) C dX5_reach_9 (by decide) (fun c1 => ?_) (fun c1 => ?_)
      · exact absurd c1 (nI_ge hii (by omega))
      · refine w_aload_n C 4 dX5_reach_12 rfl rfl (by first | rfl | exact isRef_rf _) ?_
        refine w_iload C 0 dX5_reach_13 rfl ?_
        refine w_iconst (v := 0) C dX5_reach_15 (by decide) ?_
        refine m_zast (f := fm) (L := 600) C dX5_reach_16 hm hf9 hk9 hL9 rfl (by omega) (show vp_nar .boolean 0 = 0 from rfl) (fun z1 hm => ?_)
        refine w_iincB (v := nI (i + 1)) (lvq := [(4, _), (0, _), (1, _), (2, _), (3, _)]) C 0 4 rfl rfl (by first | rfl | exact rf_cat _) dX5_reach_17 rfl (nI_1 i) (by decide) rfl ?_
        refine w_goto (tgt := 3) C dX5_reach_20 (by decide) ?_
        exact w_sub [0, 1, 2, 3, 4] rfl (ih (i + 1) z1 _ (by omega) hm (hk1.u hmem _ _) (fun j hj => by
          by_cases e9 : j = i
          · rw [e9, u3_s]
          · rw [u3_a e9]; exact h0 j (by omega)))
  refine w_iconst (v := 0) C dX5_reach_0 (by decide) ?_
  refine w_istoreB (lvq := [(4, _), (0, _), (1, _), (2, _), (3, _)]) C 3 rfl rfl (by first | rfl | exact rf_cat _) dX5_reach_1 (by decide) rfl ?_
  exact w_sub [0, 1, 2, 3, 4] rfl (start (nN N) 0 z M (by omega) hm (kx.rf _ _) (fun j hj => (by cases hj)))
set_option maxHeartbeats 4000000 in
set_option maxRecDepth 100000 in
theorem c_part (l : Launch) (G : Gx) (z : Sto) {mo : Nat} {A : Nat → Nat} {I : Nat → Int32} {M : Nat → Nat → Int32} {N : NT} (h0 : mst z mo A I M) (hv : mv I M N) (hO : nOK N) {g : Nat} (hg : g < nN N) : Ct l yX5_part wsX5_part ({ frames := 1, cells := 0, slots := 0, locals := 30 } : Room) G z [.ref mo, .int (nI g)] (fun rv z' => ∃ r M', rv = some (.int r) ∧ isPart (nsc (nSo N) (nFd N)) g r ∧ mR z z' mo A I M' ∧ kx [205, 206] M M') := by
  refine ct_of (cc := cX5_part) (maxL := 3) (ret := (some .int)) (lv0 := [(0, .ref mo), (1, .int (nI g))]) (by decide) rfl (by simp [lg_sl, cat_ref, cat_null, cat_int, cat_long, rf_cat]) (by simp [lv_args, cat_ref, cat_null, cat_int, cat_long, rf_cat]) ?_
  intro p e s m args below meth c C hin
  have i6 : ∀ w ∈ u_ws RX5 TX5 16, w ∈ wsX5_part := by decide +kernel
  have hm := mR.rf h0
  have hn := hO.1
  have hl := hO.2.1
  have hv0 := hv
  have loop : ∀ (z1 : Sto) (M1 : Nat → Nat → Int32), mR z z1 mo A I M1 → kx [205, 206] M M1 → rP (nsc (nSo N) (nFd N)) g g → (∀ i, i < nN N → (M1 205 i = 0 ∨ M1 205 i = 1) ∧ (M1 205 i = 1 ↔ rP (nsc (nSo N) (nFd N)) i g)) → (∀ i, i < nN N → (M1 206 i = 0 ∨ M1 206 i = 1) ∧ (M1 206 i = 1 ↔ rP (nsc (nSo N) (nFd N)) g i)) → ∀ (r h : Nat), h + r = g → (∀ w, w < h → ¬ (rP (nsc (nSo N) (nFd N)) g w ∧ rP (nsc (nSo N) (nFd N)) w g)) → Wp p l e ({ frames := 1, cells := 0, slots := 0, locals := 30 } : Room) s m args below meth c G 3 0 0 (MQ below (cPost G (fun rv z' => ∃ r M', rv = some (.int r) ∧ isPart (nsc (nSo N) (nFd N)) g r ∧ mR z z' mo A I M' ∧ kx [205, 206] M M')) args s (0) (0) (gA G)) z1 33 [(2, .int (nI h)), (0, .ref mo), (1, .int (nI g))] [] := by
    intro z1 M1 hm hk1 hgg ha hb r
    induction r with
    | zero =>
      intro h hh hlo
      have hhg : h = g := by omega
      subst hhg
      refine w_aload_n C 1 dX5_part_33 rfl rfl (by first | rfl | exact isRef_rf _) ?_
      refine w_getRs (ci := 6) (k := 13) (f := 205) C rfl i6 (by decide +kernel) (by decide) (by decide) rfl rfl dX5_part_34 hm.o (hm.r 205 rfl) ?_
      refine w_iload_n C 0 dX5_part_37 rfl rfl ?_
      refine w_zald C dX5_part_38 (hm.a 205 rfl rfl) rfl (hm.q 205 rfl (L := 600) rfl (by omega)) (hm.b 205 rfl) (hm.e 205 rfl _) ?_
      refine w_if_eq (tgt := 51) C dX5_part_39 (by decide) (fun c1 => ?_) (fun c1 => ?_)
      · exact absurd ((ha h hg).2.mpr hgg) (by rw [c1]; decide)
      · refine w_aload_n C 1 dX5_part_42 rfl rfl (by first | rfl | exact isRef_rf _) ?_
        refine w_getRs (ci := 6) (k := 14) (f := 206) C rfl i6 (by decide +kernel) (by decide) (by decide) rfl rfl dX5_part_43 hm.o (hm.r 206 rfl) ?_
        refine w_iload_n C 0 dX5_part_46 rfl rfl ?_
        refine w_zald C dX5_part_47 (hm.a 206 rfl rfl) rfl (hm.q 206 rfl (L := 600) rfl (by omega)) (hm.b 206 rfl) (hm.e 206 rfl _) ?_
        refine w_if_ne (tgt := 57) C dX5_part_48 (by decide) (fun c2 => ?_) (fun c2 => ?_)
        · refine w_iload_n C 0 dX5_part_57 rfl rfl ?_
          exact w_iret C dX5_part_58 ⟨_, M1, rfl, Or.inl ⟨hgg, h, rfl, (hb h (by omega)).2.mp ((hb h (by omega)).1.resolve_left c2), (ha h (by omega)).2.mp ((ha h (by omega)).1.resolve_left c1), fun w h1 h2 => Nat.le_of_not_lt (fun h3 => hlo w h3 ⟨h1, h2⟩)⟩, hm, hk1⟩
        · exact absurd ((hb h hg).2.mpr hgg) (by rw [c2]; decide)
    | succ r ih =>
      intro h hh hlo
      have hhn : h < nN N := by omega
      refine w_aload_n C 1 dX5_part_33 rfl rfl (by first | rfl | exact isRef_rf _) ?_
      refine w_getRs (ci := 6) (k := 13) (f := 205) C rfl i6 (by decide +kernel) (by decide) (by decide) rfl rfl dX5_part_34 hm.o (hm.r 205 rfl) ?_
      refine w_iload_n C 0 dX5_part_37 rfl rfl ?_
      refine w_zald C dX5_part_38 (hm.a 205 rfl rfl) rfl (hm.q 205 rfl (L := 600) rfl (by omega)) (hm.b 205 rfl) (hm.e 205 rfl _) ?_
      refine w_if_eq (tgt := 51) C dX5_part_39 (by decide) (fun c1 => ?_) (fun c1 => ?_)
      · have hno : ¬ (rP (nsc (nSo N) (nFd N)) g h ∧ rP (nsc (nSo N) (nFd N)) h g) := fun w9 => absurd ((ha h hhn).2.mpr w9.2) (by rw [c1]; decide)
        refine w_iincB (v := nI (h + 1)) (lvq := [(2, _), (0, _), (1, _)]) C 0 2 rfl rfl (by first | rfl | exact rf_cat _) dX5_part_51 rfl (nI_1 h) (by decide) rfl ?_
        refine w_goto (tgt := 33) C dX5_part_54 (by decide) ?_
        exact w_sub [0, 1, 2] rfl (ih (h + 1) (by omega) (fun w hw => by
          by_cases e9 : w = h
          · rw [e9]; exact hno
          · exact hlo w (by omega)))
      · refine w_aload_n C 1 dX5_part_42 rfl rfl (by first | rfl | exact isRef_rf _) ?_
        refine w_getRs (ci := 6) (k := 14) (f := 206) C rfl i6 (by decide +kernel) (by decide) (by decide) rfl rfl dX5_part_43 hm.o (hm.r 206 rfl) ?_
        refine w_iload_n C 0 dX5_part_46 rfl rfl ?_
        refine w_zald C dX5_part_47 (hm.a 206 rfl rfl) rfl (hm.q 206 rfl (L := 600) rfl (by omega)) (hm.b 206 rfl) (hm.e 206 rfl _) ?_
        refine w_if_ne (tgt := 57) C dX5_part_48 (by decide) (fun c2 => ?_) (fun c2 => ?_)
        · refine w_iload_n C 0 dX5_part_57 rfl rfl ?_
          exact w_iret C dX5_part_58 ⟨_, M1, rfl, Or.inl ⟨hgg, h, rfl, (hb h (by omega)).2.mp ((hb h (by omega)).1.resolve_left c2), (ha h (by omega)).2.mp ((ha h (by omega)).1.resolve_left c1), fun w h1 h2 => Nat.le_of_not_lt (fun h3 => hlo w h3 ⟨h1, h2⟩)⟩, hm, hk1⟩
        · have hno : ¬ (rP (nsc (nSo N) (nFd N)) g h ∧ rP (nsc (nSo N) (nFd N)) h g) := fun w9 => absurd ((hb h hhn).2.mpr w9.1) (by rw [c2]; decide)
          refine w_iincB (v := nI (h + 1)) (lvq := [(2, _), (0, _), (1, _)]) C 0 2 rfl rfl (by first | rfl | exact rf_cat _) dX5_part_51 rfl (nI_1 h) (by decide) rfl ?_
          refine w_goto (tgt := 33) C dX5_part_54 (by decide) ?_
          exact w_sub [0, 1, 2] rfl (ih (h + 1) (by omega) (fun w hw => by
            by_cases e9 : w = h
            · rw [e9]; exact hno
            · exact hlo w (by omega)))
  refine w_aload_n C 0 dX5_part_0 rfl rfl (by first | rfl | exact isRef_rf _) ?_
  refine w_iload_n C 1 dX5_part_1 rfl rfl ?_
  refine w_iconst (v := 1) C dX5_part_2 (by decide) ?_
  refine w_aload_n C 0 dX5_part_3 rfl rfl (by first | rfl | exact isRef_rf _) ?_
  refine w_getRs (ci := 6) (k := 13) (f := 205) C rfl i6 (by decide +kernel) (by decide) (by decide) rfl rfl dX5_part_4 hm.o (hm.r 205 rfl) ?_
  refine w_callV (ci := 6) (As := [.int (nI g), .int 1, .ref (A 205)]) (rest := []) C (cwV 3 C.1.2.2.2.2 gX5_part_X5_reach rfl rfl rfl (by decide +kernel) ⟨Nat.le_of_ble_eq_true rfl, Nat.le_of_ble_eq_true rfl⟩) hm.o rfl (by decide) rfl rfl (by first | decide | simp [cat_ref, cat_null, cat_int, cat_long, rf_cat]) dX5_part_7 ⟨Nat.le_of_ble_eq_true rfl, Nat.le_of_ble_eq_true rfl⟩ (c_reachT l G _ hm.2 hv hO hg (Or.inl rfl)) (fun rv z1 h9 => ?_)
  obtain ⟨rfl, M1, hm1, hk1, ha1⟩ := h9
  replace hm := hm.tr hm1
  replace hv := hv0.kx hk1 rfl
  have ha : ∀ i, i < nN N → (M1 205 i = 0 ∨ M1 205 i = 1) ∧ (M1 205 i = 1 ↔ rP (nsc (nSo N) (nFd N)) i g) := ha1
  refine w_aload_n C 0 dX5_part_10 rfl rfl (by first | rfl | exact isRef_rf _) ?_
  refine w_getRs (ci := 6) (k := 13) (f := 205) C rfl i6 (by decide +kernel) (by decide) (by decide) rfl rfl dX5_part_11 hm.o (hm.r 205 rfl) ?_
  refine w_iload_n C 1 dX5_part_14 rfl rfl ?_
  refine w_zald C dX5_part_15 (hm.a 205 rfl rfl) rfl (hm.q 205 rfl (L := 600) rfl (by omega)) (hm.b 205 rfl) (hm.e 205 rfl _) ?_
  refine w_if_ne (tgt := 21) C dX5_part_16 (by decide) (fun c1 => ?_) (fun c1 => ?_)
  · have hgg := (ha g hg).2.mp ((ha g hg).1.resolve_left c1)
    refine w_aload_n C 0 dX5_part_21 rfl rfl (by first | rfl | exact isRef_rf _) ?_
    refine w_iload_n C 1 dX5_part_22 rfl rfl ?_
    refine w_iconst (v := 0) C dX5_part_23 (by decide) ?_
    refine w_aload_n C 0 dX5_part_24 rfl rfl (by first | rfl | exact isRef_rf _) ?_
    refine w_getRs (ci := 6) (k := 14) (f := 206) C rfl i6 (by decide +kernel) (by decide) (by decide) rfl rfl dX5_part_25 hm.o (hm.r 206 rfl) ?_
    refine w_callV (ci := 6) (As := [.int (nI g), .int 0, .ref (A 206)]) (rest := []) C (cwV 3 C.1.2.2.2.2 gX5_part_X5_reach rfl rfl rfl (by decide +kernel) ⟨Nat.le_of_ble_eq_true rfl, Nat.le_of_ble_eq_true rfl⟩) hm.o rfl (by decide) rfl rfl (by first | decide | simp [cat_ref, cat_null, cat_int, cat_long, rf_cat]) dX5_part_28 ⟨Nat.le_of_ble_eq_true rfl, Nat.le_of_ble_eq_true rfl⟩ (c_reachF l G _ hm.2 hv hO hg (Or.inr rfl)) (fun rv z1 h9 => ?_)
    obtain ⟨rfl, M2, hm2, hk2, hb1⟩ := h9
    replace hm := hm.tr hm2
    have hb : ∀ i, i < nN N → (M2 206 i = 0 ∨ M2 206 i = 1) ∧ (M2 206 i = 1 ↔ rP (nsc (nSo N) (nFd N)) g i) := hb1
    refine w_iconst (v := 0) C dX5_part_31 (by decide) ?_
    refine w_istore_nB (lvq := [(2, _), (0, _), (1, _)]) C 1 rfl rfl (by first | rfl | exact rf_cat _) dX5_part_32 rfl (by decide) rfl ?_
    exact w_sub [0, 1, 2] rfl (loop z1 M2 hm ((hk1.mo (by decide)).tr (hk2.mo (by decide))) hgg (fun i hi => by rw [hk2 205 (by decide)]; exact ha i hi) hb g 0 (by omega) (fun w hw => (by cases hw)))
  · have hgg : ¬ rP (nsc (nSo N) (nFd N)) g g := fun w9 => absurd ((ha g hg).2.mpr w9) (by rw [c1]; decide)
    refine w_iconst (v := (-1)) C dX5_part_19 (by decide) ?_
    exact w_iret C dX5_part_20 ⟨_, M1, rfl, Or.inr ⟨hgg, rfl⟩, hm, hk1.mo (by decide)⟩
set_option maxHeartbeats 4000000 in
set_option maxRecDepth 100000 in
theorem c_mcycle (l : Launch) (G : Gx) (z : Sto) {mo : Nat} {A : Nat → Nat} {I : Nat → Int32} {M : Nat → Nat → Int32} {N : NT} (h0 : mst z mo A I M) (hv : mv I M N) (hO : nOK N) {i : Nat} (hi : i < nN N) : Ct l yX5_cycle wsX5_cycle ({ frames := 2, cells := 0, slots := 0, locals := 60 } : Room) G z [.ref mo, .int (nI i)] (fun rv z' => ∃ r, rv = some (.int r) ∧ ∃ I' M', mR z z' mo A I' M' ∧ I' 192 = 0 ∧ isPart (nsc (nSo N) (nFd N)) i r ∧ mv I' M' N) := by
  refine ct_of (cc := cX5_cycle) (maxL := 2) (ret := (some .int)) (lv0 := [(0, .ref mo), (1, .int (nI i))]) (by decide) rfl (by simp [lg_sl, cat_ref, cat_null, cat_int, cat_long, rf_cat]) (by simp [lv_args, cat_ref, cat_null, cat_int, cat_long, rf_cat]) ?_
  intro p e s m args below meth c C hin
  have hm := mR.rf h0
  have hn := hO.1
  have hl := hO.2.1
  refine w_aload_n C 0 dX5_cycle_0 rfl rfl (by first | rfl | exact isRef_rf _) ?_
  refine w_aload_n C 0 dX5_cycle_1 rfl rfl (by first | rfl | exact isRef_rf _) ?_
  refine w_iload_n C 1 dX5_cycle_2 rfl rfl ?_
  refine w_callV (ci := 6) (As := [.int (nI i)]) (rest := [.ref mo]) C (cwV 1 C.1.2.2.2.2 gX5_cycle_X5_isGate rfl rfl rfl (by decide +kernel) ⟨Nat.le_of_ble_eq_true rfl, Nat.le_of_ble_eq_true rfl⟩) hm.o rfl (by decide) rfl rfl (by first | decide | simp [cat_ref, cat_null, cat_int, cat_long, rf_cat]) dX5_cycle_3 ⟨Nat.le_of_ble_eq_true rfl, Nat.le_of_ble_eq_true rfl⟩ (c_isGateT l G _ hm.2 hv hO (i := i) (by omega)) (fun rv z2 h9 => ?_)
  obtain ⟨rfl, e9⟩ := h9
  replace e9 := e9.symm
  subst e9
  refine w_if_ne (tgt := 13) C dX5_cycle_6 (by decide) (fun c1 => ?_) (fun c1 => ?_)
  · refine w_iconst (v := 0) C dX5_cycle_13 (by decide) ?_
    refine w_iconst (v := 0) C dX5_cycle_14 (by decide) ?_
    refine w_callV (ci := 6) (As := [.int 0, .int 0]) (rest := []) C (cwV 2 C.1.2.2.2.2 gX5_cycle_X5_fails rfl rfl rfl (by decide +kernel) ⟨Nat.le_of_ble_eq_true rfl, Nat.le_of_ble_eq_true rfl⟩) hm.o rfl (by decide) rfl rfl (by first | decide | simp [cat_ref, cat_null, cat_int, cat_long, rf_cat]) dX5_cycle_15 ⟨Nat.le_of_ble_eq_true rfl, Nat.le_of_ble_eq_true rfl⟩ (c_fails l G _ hm.2 (Or.inr (Or.inr ⟨rfl, rfl, rfl, rfl⟩))) (fun rv z1 h9 => ?_)
    obtain ⟨rfl, hm1⟩ := h9
    replace hm := hm.tr hm1
    replace hv := hv.P (f := 192) 0 (by decide) (by decide) (by decide)
    refine w_if_eq (tgt := 23) C dX5_cycle_18 (by decide) (fun c2 => ?_) (fun c2 => ?_)
    · refine w_aload_n C 0 dX5_cycle_23 rfl rfl (by first | rfl | exact isRef_rf _) ?_
      refine w_iload_n C 1 dX5_cycle_24 rfl rfl ?_
      refine w_callV (ci := 6) (As := [.int (nI i)]) (rest := []) C (cwV 1 C.1.2.2.2.2 gX5_cycle_X5_part rfl rfl rfl (by decide +kernel) ⟨Nat.le_of_ble_eq_true rfl, Nat.le_of_ble_eq_true rfl⟩) hm.o rfl (by decide) rfl rfl (by first | decide | simp [cat_ref, cat_null, cat_int, cat_long, rf_cat]) dX5_cycle_25 ⟨Nat.le_of_ble_eq_true rfl, Nat.le_of_ble_eq_true rfl⟩ (c_part l G _ hm.2 hv hO hi) (fun rv z1 h9 => ?_)
      obtain ⟨r, M2, rfl, hp, hm2, hk2⟩ := h9
      replace hm := hm.tr hm2
      exact w_iret C dX5_cycle_28 ⟨r, rfl, _, _, hm, if_pos rfl, hp, hv.kx hk2 rfl⟩
    · exact absurd rfl c2
  · exact absurd c1 (by decide)
set_option maxHeartbeats 4000000 in
set_option maxRecDepth 100000 in
theorem x_mcycle (l : Launch) (G : Gx) (z : Sto) {mo : Nat} {A : Nat → Nat} {I : Nat → Int32} {M : Nat → Nat → Int32} {N : NT} (h0 : mst z mo A I M) (hv : mv I M N) (hO : nOK N) {j : Int32} (hj : j < 0 ∨ nI (nN N) ≤ j) : Ct l yX5_cycle wsX5_cycle ({ frames := 1, cells := 0, slots := 0, locals := 30 } : Room) G z [.ref mo, .int j] (fun rv z' => (∃ v, rv = some (.int v)) ∧ mR z z' mo A (va_up I 192 1) M) := by
  refine ct_of (cc := cX5_cycle) (maxL := 2) (ret := (some .int)) (lv0 := [(0, .ref mo), (1, .int j)]) (by decide) rfl (by simp [lg_sl, cat_ref, cat_null, cat_int, cat_long, rf_cat]) (by simp [lv_args, cat_ref, cat_null, cat_int, cat_long, rf_cat]) ?_
  intro p e s m args below meth c C hin
  have hm := mR.rf h0
  have hn := hO.1
  have hl := hO.2.1
  refine w_aload_n C 0 dX5_cycle_0 rfl rfl (by first | rfl | exact isRef_rf _) ?_
  refine w_aload_n C 0 dX5_cycle_1 rfl rfl (by first | rfl | exact isRef_rf _) ?_
  refine w_iload_n C 1 dX5_cycle_2 rfl rfl ?_
  refine w_callV (ci := 6) (As := [.int j]) (rest := [.ref mo]) C (cwV 1 C.1.2.2.2.2 gX5_cycle_X5_isGate rfl rfl rfl (by decide +kernel) ⟨Nat.le_of_ble_eq_true rfl, Nat.le_of_ble_eq_true rfl⟩) hm.o rfl (by decide) rfl rfl (by first | decide | simp [cat_ref, cat_null, cat_int, cat_long, rf_cat]) dX5_cycle_3 ⟨Nat.le_of_ble_eq_true rfl, Nat.le_of_ble_eq_true rfl⟩ (c_isGateF l G _ hm.2 hv hO hj) (fun rv z2 h9 => ?_)
  obtain ⟨rfl, e9⟩ := h9
  replace e9 := e9.symm
  subst e9
  refine w_if_ne (tgt := 13) C dX5_cycle_6 (by decide) (fun c1 => ?_) (fun c1 => ?_)
  · exact absurd rfl c1
  · refine w_iconst (v := 1) C dX5_cycle_9 (by decide) ?_
    refine w_goto (tgt := 14) C dX5_cycle_10 (by decide) ?_
    refine w_iconst (v := 0) C dX5_cycle_14 (by decide) ?_
    refine w_callV (ci := 6) (As := [.int 1, .int 0]) (rest := []) C (cwV 2 C.1.2.2.2.2 gX5_cycle_X5_fails rfl rfl rfl (by decide +kernel) ⟨Nat.le_of_ble_eq_true rfl, Nat.le_of_ble_eq_true rfl⟩) hm.o rfl (by decide) rfl rfl (by first | decide | simp [cat_ref, cat_null, cat_int, cat_long, rf_cat]) dX5_cycle_15 ⟨Nat.le_of_ble_eq_true rfl, Nat.le_of_ble_eq_true rfl⟩ (c_fails l G _ hm.2 (t := 1) (r := 1) (Or.inl ⟨rfl, rfl, rfl⟩)) (fun rv z1 h9 => ?_)
    obtain ⟨rfl, hm1⟩ := h9
    replace hm := hm.tr hm1
    refine w_if_eq (tgt := 23) C dX5_cycle_18 (by decide) (fun c2 => ?_) (fun c2 => ?_)
    · exact absurd c2 (by decide)
    · refine w_iconst (v := 0) C dX5_cycle_21 (by decide) ?_
      exact w_iret C dX5_cycle_22 ⟨⟨_, rfl⟩, hm⟩
