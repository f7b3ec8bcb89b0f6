/-! ===== the reference: the spread ===== -/
theorem lg_f {N : NT} {i : Nat} (h : nSo N i < 2) : isLog (nSo N i) = false := by
  cases q : isLog (nSo N i) with
  | false => rfl
  | true =>
    unfold isLog at q
    rw [Bool.or_eq_true, decide_eq_true_iff, decide_eq_true_iff] at q
    rcases q with q | q <;> rw [q] at h <;> exact absurd h (by decide)
theorem lg_t {N : NT} (hO : nOK N) {i : Nat} (hi : i < nN N) (h : ¬ nSo N i < 2) : isLog (nSo N i) = true := by
  rcases hO.2.2.2.1 i hi with q | q | q | q
  · rw [q] at h; exact absurd (by decide) h
  · rw [q] at h; exact absurd (by decide) h
  · rw [q]; rfl
  · rw [q]; rfl
/-- what the feeds before q give gate i after k rounds -/
def lq (N : NT) (k : Nat) : Nat → Nat → List Int32
  | 0, _ => []
  | q + 1, i => if tk N q = i then tkv (nV N k (fk N q)) (gk N q) :: lq N k q i else lq N k q i
theorem lq_mem (N : NT) (k : Nat) (x : Int32) : ∀ (q i : Nat), x ∈ lq N k q i ↔ ∃ j, j < q ∧ tk N j = i ∧ tkv (nV N k (fk N j)) (gk N j) = x := by
  intro q
  induction q with
  | zero => intro i; exact ⟨fun h => (by cases h), fun ⟨j, hj, _⟩ => (by cases hj)⟩
  | succ q ih =>
    intro i
    show x ∈ (if tk N q = i then tkv (nV N k (fk N q)) (gk N q) :: lq N k q i else lq N k q i) ↔ _
    constructor
    · intro h
      by_cases hq : tk N q = i
      · rw [if_pos hq] at h
        rcases List.mem_cons.mp h with h | h
        · exact ⟨q, by omega, hq, h.symm⟩
        · obtain ⟨j, h1, h2⟩ := (ih i).mp h
          exact ⟨j, by omega, h2⟩
      · rw [if_neg hq] at h
        obtain ⟨j, h1, h2⟩ := (ih i).mp h
        exact ⟨j, by omega, h2⟩
    · rintro ⟨j, h1, h2, h3⟩
      by_cases hjq : j = q
      · subst hjq
        rw [if_pos h2, ← h3]
        exact List.mem_cons_self
      · have := (ih i).mpr ⟨j, by omega, h2, h3⟩
        by_cases hq : tk N q = i
        · rw [if_pos hq]; exact List.mem_cons_of_mem _ this
        · rw [if_neg hq]; exact this
theorem gvf_congr {d : Int32} {L L' : List Int32} (h : ∀ x, x ∈ L ↔ x ∈ L') : gvf d L = gvf d L' := by
  unfold gvf
  by_cases h1 : d ∈ L
  · rw [if_pos h1, if_pos ((h d).mp h1)]
  · rw [if_neg h1, if_neg (fun q => h1 ((h d).mpr q))]
    by_cases h2 : (2 : Int32) ∈ L
    · rw [if_pos h2, if_pos ((h 2).mp h2)]
    · rw [if_neg h2, if_neg (fun q => h2 ((h 2).mpr q))]
theorem lq_end (N : NT) (k i : Nat) (d : Int32) : gvf d (lq N k (nFL N).length i) = gvf d ((nFd N i).map (fun x => tkv (nV N k x.1) x.2)) := by
  refine gvf_congr (fun x => ?_)
  rw [lq_mem, List.mem_map]
  constructor
  · rintro ⟨j, h1, h2, h3⟩
    exact ⟨(fk N j, gk N j), nFd_mem2.mpr ⟨j, h1, h2, rfl⟩, h3⟩
  · rintro ⟨y, h1, h2⟩
    obtain ⟨j, j1, j2, j3⟩ := nFd_mem2.mp h1
    exact ⟨j, j1, j2, by rw [← h2, ← j3]⟩
theorem gvf_cons {d v : Int32} {L : List Int32} (hd : d = 0 ∨ d = 1) (hv : v = 0 ∨ v = 1 ∨ v = 2) : gvf d (v :: L) = if gvf d L = d then d else if v = 1 - d then gvf d L else v := by
  have e1 : (d ∈ v :: L) ↔ (d = v ∨ d ∈ L) := List.mem_cons
  have e2 : ((2 : Int32) ∈ v :: L) ↔ (2 = v ∨ (2 : Int32) ∈ L) := List.mem_cons
  unfold gvf
  by_cases h1 : d ∈ L
  · rw [if_pos (e1.mpr (Or.inr h1)), if_pos h1, if_pos rfl]
  · rw [if_neg h1]
    by_cases h2 : (2 : Int32) ∈ L
    · rw [if_pos h2, if_pos (e2.mpr (Or.inr h2))]
      rcases hd with rfl | rfl <;> rcases hv with rfl | rfl | rfl
      · rw [if_pos (e1.mpr (Or.inl rfl))]; decide
      · rw [if_neg (fun q => (e1.mp q).elim (by decide) h1)]; decide
      · rw [if_neg (fun q => (e1.mp q).elim (by decide) h1)]; decide
      · rw [if_neg (fun q => (e1.mp q).elim (by decide) h1)]; decide
      · rw [if_pos (e1.mpr (Or.inl rfl))]; decide
      · rw [if_neg (fun q => (e1.mp q).elim (by decide) h1)]; decide
    · rw [if_neg h2]
      rcases hd with rfl | rfl <;> rcases hv with rfl | rfl | rfl
      · rw [if_pos (e1.mpr (Or.inl rfl))]; decide
      · rw [if_neg (fun q => (e1.mp q).elim (by decide) h1), if_neg (fun q => (e2.mp q).elim (by decide) h2)]; decide
      · rw [if_neg (fun q => (e1.mp q).elim (by decide) h1), if_pos (e2.mpr (Or.inl rfl))]; decide
      · rw [if_neg (fun q => (e1.mp q).elim (by decide) h1), if_neg (fun q => (e2.mp q).elim (by decide) h2)]; decide
      · rw [if_pos (e1.mpr (Or.inl rfl))]; decide
      · rw [if_neg (fun q => (e1.mp q).elim (by decide) h1), if_pos (e2.mpr (Or.inl rfl))]; decide
def Pad (N : NT) (k i : Nat) : Bool := decide (nV N k i = 2 ∧ ¬ nV N (k + 1) i = 2)
/-- the values behind g gates of a round's last pass -/
def anI (N : NT) (k g : Nat) (M1 : Nat → Nat → Int32) : Prop := (∀ i, i < g → M1 201 i = nV N (k + 1) i ∧ M1 203 i = nR N (k + 1) i) ∧ (∀ i, g ≤ i → i < nN N → M1 201 i = nV N k i ∧ M1 203 i = nR N k i) ∧ ∀ i, i < nN N → M1 202 i = gvf (dcd (nSo N i)) ((nFd N i).map (fun x => tkv (nV N k x.1) x.2))
theorem anI_same {N : NT} {k g : Nat} {M1 : Nat → Nat → Int32} (h : anI N k g M1) (hg : g < nN N) (he : nV N (k + 1) g = nV N k g) : anI N k (g + 1) M1 ∧ Pad N k g = false := by
  obtain ⟨h1, h2, h3⟩ := h
  refine ⟨⟨fun i hi => ?_, fun i hi => h2 i (by omega), h3⟩, ?_⟩
  · by_cases hig : i = g
    · subst hig
      rw [he, nR_keep N he]
      exact h2 i (Nat.le_refl _) hg
    · exact h1 i (by omega)
  · unfold Pad
    rw [he]
    exact decide_eq_false (fun q => q.2 q.1)
theorem anI_new {N : NT} {k g : Nat} {M1 : Nat → Nat → Int32} (h : anI N k g M1) (hg : g < nN N) (hl : isLog (nSo N g) = true) (h2' : nV N k g = 2) (hf : ¬ M1 202 g = 2) : anI N k (g + 1) (u2 (u2 M1 201 g (M1 202 g)) 203 g (nI (k + 1))) ∧ Pad N k g = true := by
  obtain ⟨h1, h2, h3⟩ := h
  have hV : nV N (k + 1) g = M1 202 g := by
    show (if isLog (nSo N g) = true ∧ nV N k g = 2 then _ else nV N k g) = _
    rw [if_pos ⟨hl, h2'⟩, h3 g hg]
  have hR : nR N (k + 1) g = nI (k + 1) := by
    show (if nV N k g = 2 ∧ ¬ nV N (k + 1) g = 2 then nI (k + 1) else nR N k g) = _
    rw [if_pos ⟨h2', by rw [hV]; exact hf⟩]
  have r1 : ∀ i, u2 (u2 M1 201 g (M1 202 g)) 203 g (nI (k + 1)) 201 i = u2 M1 201 g (M1 202 g) 201 i := fun i => by rw [u3_f (show (201 : Nat) ≠ 203 by decide)]
  refine ⟨⟨fun i hi => ?_, fun i hi hi2 => ?_, fun i hi => ?_⟩, ?_⟩
  · rw [r1]
    by_cases hig : i = g
    · subst hig
      rw [u3_s, u3_s, hV, hR]
      exact ⟨rfl, rfl⟩
    · rw [u3_a hig, u3_a hig, u3_f (show (203 : Nat) ≠ 201 by decide)]
      exact h1 i (by omega)
  · have hig : i ≠ g := by omega
    rw [r1, u3_a hig, u3_a hig, u3_f (show (203 : Nat) ≠ 201 by decide)]
    exact h2 i (by omega) hi2
  · rw [u3_f (show (202 : Nat) ≠ 203 by decide), u3_f (show (202 : Nat) ≠ 201 by decide)]
    exact h3 i hi
  · unfold Pad
    exact decide_eq_true ⟨h2', by rw [hV]; exact hf⟩
theorem bI_more {P : Nat → Bool} {g : Nat} (h : P g = true) : bI (!decide (cnt P (g + 1) = 0)) = 1 := by
  have : ¬ cnt P (g + 1) = 0 := by
    show ¬ cnt P g + (if P g then 1 else 0) = 0
    rw [h, if_pos rfl]; omega
  rw [decide_eq_false this]; rfl
theorem bI_less {P : Nat → Bool} {g : Nat} (h : P g = false) : cnt P (g + 1) = cnt P g := by
  show cnt P g + (if P g then 1 else 0) = _
  rw [h]; rfl
set_option maxHeartbeats 4000000 in
set_option maxRecDepth 100000 in
theorem c_another (l : Launch) (G : Gx) (z : Sto) {mo : Nat} {A : Nat → Nat} {I : Nat → Int32} {M : Nat → Nat → Int32} {N : NT} (h0 : mst z mo A I M) (hv : mv I M N) (hO : nOK N) {k : Nat} (hk : k ≤ 600) (h1 : ∀ i, i < nN N → M 201 i = nV N k i ∧ M 203 i = nR N k i) (h2 : I 204 = nI k) : Ct l yX5_another wsX5_another ({ frames := 1, cells := 0, slots := 0, locals := 30 } : Room) G z [.ref mo] (fun rv z' => ∃ M', rv = some (.int (bI (!decide (nAd N k = 0)))) ∧ mR z z' mo A I M' ∧ kx [201, 202, 203] M M' ∧ ∀ i, i < nN N → M' 201 i = nV N (k + 1) i ∧ M' 203 i = nR N (k + 1) i) := by
  refine ct_of (cc := cX5_another) (maxL := 5) (ret := (some .boolean)) (lv0 := [(0, .ref mo)]) (by decide) rfl (by simp [lg_sl, cat_ref, cat_null, cat_int, cat_long, rf_cat]) (by simp [lv_args, cat_ref, cat_null, cat_int, cat_long, rf_cat]) ?_
  intro p e s m args below meth c C hin
  have i6 : ∀ w ∈ u_ws RX5 TX5 16, w ∈ wsX5_another := by decide +kernel
  have hm := mR.rf h0
  have hn := hO.1
  have hl := hO.2.1
  have hv0 := hv
  have hm0 := hm
  have loop3 : ∀ (r g : Nat) (z1 : Sto) (M1 : Nat → Nat → Int32), g + r = nN N → mR z z1 mo A I M1 → kx [201, 202, 203] M M1 → anI N k g M1 → Wp p l e ({ frames := 1, cells := 0, slots := 0, locals := 30 } : Room) s m args below meth c G 5 0 0 (MQ below (cPost G (fun rv z' => ∃ M', rv = some (.int (bI (!decide (nAd N k = 0)))) ∧ mR z z' mo A I M' ∧ kx [201, 202, 203] M M' ∧ ∀ i, i < nN N → M' 201 i = nV N (k + 1) i ∧ M' 203 i = nR N (k + 1) i)) args s (0) (0) (gA G)) z1 128 [(2, .int (nI g)), (1, .int (bI (!decide (cnt (Pad N k) g = 0)))), (0, .ref mo)] [] := by
    intro r
    induction r with
    | zero =>
      intro g z1 M1 hg hm hk3 ha
      have hgg : g = nN N := by omega
      subst hgg
      refine w_iload_n C 0 dX5_another_128 rfl rfl ?_
      refine w_aload_n C 2 dX5_another_129 rfl rfl (by first | rfl | exact isRef_rf _) ?_
      refine w_getI (ci := 6) (k := 1) (f := 193) C rfl i6 (by decide +kernel) (by decide) (by decide) rfl rfl dX5_another_130 hm.o ((hm.i 193).trans hv.n) ?_
      refine w_icmp_ge (tgt := 201) C dX5_another_133 (by decide) (fun c1 => ?_) (fun c1 => ?_)
      · refine w_iload_n C 1 dX5_another_201 rfl rfl ?_
        exact w_zret C dX5_another_202 (bI_nar _) ⟨M1, rfl, hm, hk3, ha.1⟩
      · exact absurd (nI_le (Nat.le_refl _) (by omega)) c1
    | succ r ih =>
      intro g z1 M1 hg hm hk3 ha
      have hgg : g < nN N := by omega
      have hv := hv0.kx hk3 rfl
      have hx1 := (ha.2.1 g (Nat.le_refl _) hgg).1
      have hx2 := ha.2.2 g hgg
      refine w_iload_n C 0 dX5_another_128 rfl rfl ?_
      refine w_aload_n C 2 dX5_another_129 rfl rfl (by first | rfl | exact isRef_rf _) ?_
      refine w_getI (ci := 6) (k := 1) (f := 193) C rfl i6 (by decide +kernel) (by decide) (by decide) rfl rfl dX5_another_130 hm.o ((hm.i 193).trans hv.n) ?_
      refine w_icmp_ge (tgt := 201) C dX5_another_133 (by decide) (fun c1 => ?_) (fun c1 => ?_)
      · exact absurd c1 (nI_ge hgg (by omega))
      · refine w_aload_n C 2 dX5_another_136 rfl rfl (by first | rfl | exact isRef_rf _) ?_
        refine w_getRs (ci := 6) (k := 4) (f := 196) C rfl i6 (by decide +kernel) (by decide) (by decide) rfl rfl dX5_another_137 hm.o (hm.r 196 rfl) ?_
        refine w_iload_n C 0 dX5_another_140 rfl rfl ?_
        refine w_iald C dX5_another_141 (hm.a 196 rfl rfl) rfl (hm.q 196 rfl (L := 600) rfl (by omega)) (hm.b 196 rfl) ((hm.e 196 rfl _).trans (hv.s _ (by omega))) ?_
        refine w_iconst (v := 2) C dX5_another_142 (by decide) ?_
        refine w_icmp_lt (tgt := 195) C dX5_another_143 (by decide) (fun c2 => ?_) (fun c2 => ?_)
        · have hs9 : nV N (k + 1) g = nV N k g := by
            show (if isLog (nSo N g) = true ∧ nV N k g = 2 then _ else nV N k g) = _
            rw [lg_f c2, if_neg (fun q9 => Bool.false_ne_true q9.1)]
          refine w_iincB (v := nI (g + 1)) (lvq := [(2, _), (1, _), (0, _)]) C 0 1 rfl rfl (by first | rfl | exact rf_cat _) dX5_another_195 rfl (nI_1 g) (by decide) rfl ?_
          refine w_goto (tgt := 128) C dX5_another_198 (by decide) ?_
          first
          | (obtain ⟨ha9, hp9⟩ := anI_same ha hgg hs9
             have h9 := ih (g + 1) z1 M1 (by omega) hm hk3 ha9
             rw [bI_less hp9] at h9
             exact w_sub [0, 1, 2] rfl h9)
          | (have h9 := ih (g + 1) z1 _ (by omega) hm ((hk3.u (by decide) _ _).u (by decide) _ _) ha9
             rw [bI_more hp9] at h9
             exact w_sub [0, 1, 2] rfl h9)
        · have hlg := lg_t hO hgg c2
          refine w_aload_n C 2 dX5_another_146 rfl rfl (by first | rfl | exact isRef_rf _) ?_
          refine w_getRs (ci := 6) (k := 9) (f := 201) C rfl i6 (by decide +kernel) (by decide) (by decide) rfl rfl dX5_another_147 hm.o (hm.r 201 rfl) ?_
          refine w_iload_n C 0 dX5_another_150 rfl rfl ?_
          refine w_iald C dX5_another_151 (hm.a 201 rfl rfl) rfl (hm.q 201 rfl (L := 600) rfl (by omega)) (hm.b 201 rfl) ((hm.e 201 rfl _).trans hx1) ?_
          refine w_iconst (v := 2) C dX5_another_152 (by decide) ?_
          refine w_icmp_ne (tgt := 195) C dX5_another_153 (by decide) (fun c3 => ?_) (fun c3 => ?_)
          · have hs9 : nV N (k + 1) g = nV N k g := nV_keep N c3
            refine w_iincB (v := nI (g + 1)) (lvq := [(2, _), (1, _), (0, _)]) C 0 1 rfl rfl (by first | rfl | exact rf_cat _) dX5_another_195 rfl (nI_1 g) (by decide) rfl ?_
            refine w_goto (tgt := 128) C dX5_another_198 (by decide) ?_
            first
            | (obtain ⟨ha9, hp9⟩ := anI_same ha hgg hs9
               have h9 := ih (g + 1) z1 M1 (by omega) hm hk3 ha9
               rw [bI_less hp9] at h9
               exact w_sub [0, 1, 2] rfl h9)
            | (have h9 := ih (g + 1) z1 _ (by omega) hm ((hk3.u (by decide) _ _).u (by decide) _ _) ha9
               rw [bI_more hp9] at h9
               exact w_sub [0, 1, 2] rfl h9)
          · refine w_aload_n C 2 dX5_another_156 rfl rfl (by first | rfl | exact isRef_rf _) ?_
            refine w_getRs (ci := 6) (k := 10) (f := 202) C rfl i6 (by decide +kernel) (by decide) (by decide) rfl rfl dX5_another_157 hm.o (hm.r 202 rfl) ?_
            refine w_iload_n C 0 dX5_another_160 rfl rfl ?_
            refine w_iald C dX5_another_161 (hm.a 202 rfl rfl) rfl (hm.q 202 rfl (L := 600) rfl (by omega)) (hm.b 202 rfl) (hm.e 202 rfl _) ?_
            refine w_iconst (v := 2) C dX5_another_162 (by decide) ?_
            refine w_icmp_ne (tgt := 169) C dX5_another_163 (by decide) (fun c4 => ?_) (fun c4 => ?_)
            · obtain ⟨ha9, hp9⟩ := anI_new ha hgg hlg c3 c4
              refine w_iconst (v := 1) C dX5_another_169 (by decide) ?_
              refine w_istore_nB (lvq := [(1, _), (2, _), (0, _)]) C 2 rfl rfl (by first | rfl | exact rf_cat _) dX5_another_170 rfl (by decide) rfl ?_
              refine w_aload_n C 2 dX5_another_171 rfl rfl (by first | rfl | exact isRef_rf _) ?_
              refine w_getRs (ci := 6) (k := 9) (f := 201) C rfl i6 (by decide +kernel) (by decide) (by decide) rfl rfl dX5_another_172 hm.o (hm.r 201 rfl) ?_
              refine w_iload_n C 1 dX5_another_175 rfl rfl ?_
              refine w_aload_n C 2 dX5_another_176 rfl rfl (by first | rfl | exact isRef_rf _) ?_
              refine w_getRs (ci := 6) (k := 10) (f := 202) C rfl i6 (by decide +kernel) (by decide) (by decide) rfl rfl dX5_another_177 hm.o (hm.r 202 rfl) ?_
              refine w_iload_n C 1 dX5_another_180 rfl rfl ?_
              refine w_iald C dX5_another_181 (hm.a 202 rfl rfl) rfl (hm.q 202 rfl (L := 600) rfl (by omega)) (hm.b 202 rfl) (hm.e 202 rfl _) ?_
              refine m_iast (f := 201) (L := 600) C dX5_another_182 hm rfl rfl rfl rfl (by omega) (fun z1 hm => ?_)
              refine w_aload_n C 2 dX5_another_183 rfl rfl (by first | rfl | exact isRef_rf _) ?_
              refine w_getRs (ci := 6) (k := 11) (f := 203) C rfl i6 (by decide +kernel) (by decide) (by decide) rfl rfl dX5_another_184 hm.o (hm.r 203 rfl) ?_
              refine w_iload_n C 1 dX5_another_187 rfl rfl ?_
              refine w_aload_n C 2 dX5_another_188 rfl rfl (by first | rfl | exact isRef_rf _) ?_
              refine w_getI (ci := 6) (k := 12) (f := 204) C rfl i6 (by decide +kernel) (by decide) (by decide) rfl rfl dX5_another_189 hm.o ((hm.i 204).trans h2) ?_
              refine w_iconst (v := 1) C dX5_another_192 (by decide) ?_
              refine w_iadd C dX5_another_193 ?_
              refine w_inti (nI_1 _) ?_
              refine m_iast (f := 203) (L := 600) C dX5_another_194 hm rfl rfl rfl rfl (by omega) (fun z1 hm => ?_)
              refine w_iincB (v := nI (g + 1)) (lvq := [(2, _), (1, _), (0, _)]) C 1 0 rfl rfl (by first | rfl | exact rf_cat _) dX5_another_195 rfl (nI_1 g) (by decide) rfl ?_
              refine w_goto (tgt := 128) C dX5_another_198 (by decide) ?_
              first
              | (obtain ⟨ha9, hp9⟩ := anI_same ha hgg hs9
                 have h9 := ih (g + 1) z1 M1 (by omega) hm hk3 ha9
                 rw [bI_less hp9] at h9
                 exact w_sub [0, 1, 2] rfl h9)
              | (have h9 := ih (g + 1) z1 _ (by omega) hm ((hk3.u (by decide) _ _).u (by decide) _ _) ha9
                 rw [bI_more hp9] at h9
                 exact w_sub [0, 1, 2] rfl h9)
            · have hs9 : nV N (k + 1) g = nV N k g := by
                show (if isLog (nSo N g) = true ∧ nV N k g = 2 then _ else nV N k g) = _
                rw [if_pos ⟨hlg, c3⟩, ← hx2, c4, c3]
              refine w_goto (tgt := 195) C dX5_another_166 (by decide) ?_
              refine w_iincB (v := nI (g + 1)) (lvq := [(2, _), (1, _), (0, _)]) C 0 1 rfl rfl (by first | rfl | exact rf_cat _) dX5_another_195 rfl (nI_1 g) (by decide) rfl ?_
              refine w_goto (tgt := 128) C dX5_another_198 (by decide) ?_
              first
              | (obtain ⟨ha9, hp9⟩ := anI_same ha hgg hs9
                 have h9 := ih (g + 1) z1 M1 (by omega) hm hk3 ha9
                 rw [bI_less hp9] at h9
                 exact w_sub [0, 1, 2] rfl h9)
              | (have h9 := ih (g + 1) z1 _ (by omega) hm ((hk3.u (by decide) _ _).u (by decide) _ _) ha9
                 rw [bI_more hp9] at h9
                 exact w_sub [0, 1, 2] rfl h9)
  have loop2 : ∀ (r q : Nat) (z1 : Sto) (M1 : Nat → Nat → Int32), q + r = (nFL N).length → mR z z1 mo A I M1 → kx [202] M M1 → (∀ i, i < nN N → M1 202 i = gvf (dcd (nSo N i)) (lq N k q i)) → Wp p l e ({ frames := 1, cells := 0, slots := 0, locals := 30 } : Room) s m args below meth c G 5 0 0 (MQ below (cPost G (fun rv z' => ∃ M', rv = some (.int (bI (!decide (nAd N k = 0)))) ∧ mR z z' mo A I M' ∧ kx [201, 202, 203] M M' ∧ ∀ i, i < nN N → M' 201 i = nV N (k + 1) i ∧ M' 203 i = nR N (k + 1) i)) args s (0) (0) (gA G)) z1 39 [(1, .int (nI q)), (0, .ref mo)] [] := by
    intro r
    induction r with
    | zero =>
      intro q z1 M1 hq hm hk1 hL
      have hqq : q = (nFL N).length := by omega
      subst hqq
      have hv := hv0.kx hk1 rfl
      refine w_iload_n C 0 dX5_another_39 rfl rfl ?_
      refine w_aload_n C 1 dX5_another_40 rfl rfl (by first | rfl | exact isRef_rf _) ?_
      refine w_getI (ci := 6) (k := 2) (f := 194) C rfl i6 (by decide +kernel) (by decide) (by decide) rfl rfl dX5_another_41 hm.o ((hm.i 194).trans hv.l) ?_
      refine w_icmp_ge (tgt := 124) C dX5_another_44 (by decide) (fun c1 => ?_) (fun c1 => ?_)
      · refine w_iconst (v := 0) C dX5_another_124 (by decide) ?_
        refine w_istore_nB (lvq := [(1, _), (0, _)]) C 1 rfl rfl (by first | rfl | exact rf_cat _) dX5_another_125 rfl (by decide) rfl ?_
        refine w_iconst (v := 0) C dX5_another_126 (by decide) ?_
        refine w_istore_nB (lvq := [(2, _), (1, _), (0, _)]) C 0 rfl rfl (by first | rfl | exact rf_cat _) dX5_another_127 rfl (by decide) rfl ?_
        exact w_sub [0, 1, 2] rfl (loop3 (nN N) 0 z1 M1 (by omega) hm (hk1.mo (by decide)) ⟨fun i hi => (by cases hi), fun i _ hi => by rw [hk1 201 (by decide), hk1 203 (by decide)]; exact h1 i hi, fun i hi => (hL i hi).trans (lq_end N k i _)⟩)
      · exact absurd (nI_le (Nat.le_refl _) (by omega)) c1
    | succ r ih =>
      intro q z1 M1 hq hm hk1 hL
      have hqq : q < (nFL N).length := by omega
      have hv := hv0.kx hk1 rfl
      obtain ⟨b1, b2, b3⟩ := fl_b hO hqq
      have hx1 : M1 201 (fk N q) = nV N k (fk N q) := by rw [hk1 201 (by decide)]; exact (h1 _ b2).1
      have hv3 := tkv_3 (nV_3 hO k _ b2) b3
      have hgc := gvf_cons (L := lq N k q (tk N q)) (dcd_01 (nSo N (tk N q))) hv3
      have hlo : ∀ i, ¬ i = tk N q → lq N k (q + 1) i = lq N k q i := fun i hi => if_neg (fun e9 => hi e9.symm)
      have hls : lq N k (q + 1) (tk N q) = tkv (nV N k (fk N q)) (gk N q) :: lq N k q (tk N q) := if_pos rfl
      have same : gvf (dcd (nSo N (tk N q))) (lq N k (q + 1) (tk N q)) = gvf (dcd (nSo N (tk N q))) (lq N k q (tk N q)) → ∀ i, i < nN N → M1 202 i = gvf (dcd (nSo N i)) (lq N k (q + 1) i) := by
        intro h9 i hi
        by_cases e9 : i = tk N q
        · rw [e9, h9, ← e9]; exact hL i hi
        · rw [hlo i e9]; exact hL i hi
      have k90 : Wp p l e ({ frames := 1, cells := 0, slots := 0, locals := 30 } : Room) s m args below meth c G 5 0 0 (MQ below (cPost G (fun rv z' => ∃ M', rv = some (.int (bI (!decide (nAd N k = 0)))) ∧ mR z z' mo A I M' ∧ kx [201, 202, 203] M M' ∧ ∀ i, i < nN N → M' 201 i = nV N (k + 1) i ∧ M' 203 i = nR N (k + 1) i)) args s (0) (0) (gA G)) z1 90 [(3, .int (tkv (nV N k (fk N q)) (gk N q))), (2, .int (nI (tk N q))), (1, .int (nI q)), (0, .ref mo)] [.int (dcd (nSo N (tk N q)))] := by
        refine w_istoreB (lvq := [(4, _), (3, _), (2, _), (1, _), (0, _)]) C 0 rfl rfl (by first | rfl | exact rf_cat _) dX5_another_90 (by decide) rfl ?_
        refine w_aload_n C 4 dX5_another_92 rfl rfl (by first | rfl | exact isRef_rf _) ?_
        refine w_getRs (ci := 6) (k := 10) (f := 202) C rfl i6 (by decide +kernel) (by decide) (by decide) rfl rfl dX5_another_93 hm.o (hm.r 202 rfl) ?_
        refine w_iload_n C 2 dX5_another_96 rfl rfl ?_
        refine w_iald C dX5_another_97 (hm.a 202 rfl rfl) rfl (hm.q 202 rfl (L := 600) rfl (by omega)) (hm.b 202 rfl) ((hm.e 202 rfl _).trans (hL _ b1)) ?_
        refine w_iload C 0 dX5_another_98 rfl ?_
        refine w_icmp_eq (tgt := 118) C dX5_another_100 (by decide) (fun c3 => ?_) (fun c3 => ?_)
        · have hs9 := same (by rw [hls, hgc, if_pos c3, c3])
          refine w_iincB (v := nI (q + 1)) (lvq := [(1, _), (4, _), (3, _), (2, _), (0, _)]) C 3 4 rfl rfl (by first | rfl | exact rf_cat _) dX5_another_118 rfl (nI_1 q) (by decide) rfl ?_
          refine w_goto (tgt := 39) C dX5_another_121 (by decide) ?_
          first
          | exact w_sub [0, 4] rfl (ih (q + 1) z1 M1 (by omega) hm hk1 hs9)
          | exact w_sub [0, 4] rfl (ih (q + 1) z1 _ (by omega) hm (hk1.u (by decide) _ _) (fun i hi => by
              by_cases e9 : i = tk N q
              · rw [e9, u3_s, hn9]
              · rw [u3_a e9, hlo i e9]; exact hL i hi))
        · refine w_iload_n C 1 dX5_another_103 rfl rfl ?_
          refine w_iconst (v := 1) C dX5_another_104 (by decide) ?_
          refine w_iload C 0 dX5_another_105 rfl ?_
          refine w_isub C dX5_another_107 ?_
          refine w_icmp_eq (tgt := 118) C dX5_another_108 (by decide) (fun c4 => ?_) (fun c4 => ?_)
          · have hs9 := same (by rw [hls, hgc, if_neg c3, if_pos c4])
            refine w_iincB (v := nI (q + 1)) (lvq := [(1, _), (4, _), (3, _), (2, _), (0, _)]) C 3 4 rfl rfl (by first | rfl | exact rf_cat _) dX5_another_118 rfl (nI_1 q) (by decide) rfl ?_
            refine w_goto (tgt := 39) C dX5_another_121 (by decide) ?_
            first
            | exact w_sub [0, 4] rfl (ih (q + 1) z1 M1 (by omega) hm hk1 hs9)
            | exact w_sub [0, 4] rfl (ih (q + 1) z1 _ (by omega) hm (hk1.u (by decide) _ _) (fun i hi => by
                by_cases e9 : i = tk N q
                · rw [e9, u3_s, hn9]
                · rw [u3_a e9, hlo i e9]; exact hL i hi))
          · have hn9 : gvf (dcd (nSo N (tk N q))) (lq N k (q + 1) (tk N q)) = tkv (nV N k (fk N q)) (gk N q) := by rw [hls, hgc, if_neg c3, if_neg c4]
            refine w_aload_n C 4 dX5_another_111 rfl rfl (by first | rfl | exact isRef_rf _) ?_
            refine w_getRs (ci := 6) (k := 10) (f := 202) C rfl i6 (by decide +kernel) (by decide) (by decide) rfl rfl dX5_another_112 hm.o (hm.r 202 rfl) ?_
            refine w_iload_n C 2 dX5_another_115 rfl rfl ?_
            refine w_iload_n C 1 dX5_another_116 rfl rfl ?_
            refine m_iast (f := 202) (L := 600) C dX5_another_117 hm rfl rfl rfl rfl (by omega) (fun z1 hm => ?_)
            refine w_iincB (v := nI (q + 1)) (lvq := [(1, _), (4, _), (3, _), (2, _), (0, _)]) C 3 4 rfl rfl (by first | rfl | exact rf_cat _) dX5_another_118 rfl (nI_1 q) (by decide) rfl ?_
            refine w_goto (tgt := 39) C dX5_another_121 (by decide) ?_
            first
            | exact w_sub [0, 4] rfl (ih (q + 1) z1 M1 (by omega) hm hk1 hs9)
            | exact w_sub [0, 4] rfl (ih (q + 1) z1 _ (by omega) hm (hk1.u (by decide) _ _) (fun i hi => by
                by_cases e9 : i = tk N q
                · rw [e9, u3_s, hn9]
                · rw [u3_a e9, hlo i e9]; exact hL i hi))
      refine w_iload_n C 0 dX5_another_39 rfl rfl ?_
      refine w_aload_n C 1 dX5_another_40 rfl rfl (by first | rfl | exact isRef_rf _) ?_
      refine w_getI (ci := 6) (k := 2) (f := 194) C rfl i6 (by decide +kernel) (by decide) (by decide) rfl rfl dX5_another_41 hm.o ((hm.i 194).trans hv.l) ?_
      refine w_icmp_ge (tgt := 124) C dX5_another_44 (by decide) (fun c1 => ?_) (fun c1 => ?_)
      · exact absurd c1 (nI_ge hqq (by omega))
      · refine w_aload_n C 1 dX5_another_47 rfl rfl (by first | rfl | exact isRef_rf _) ?_
        refine w_getRs (ci := 6) (k := 6) (f := 198) C rfl i6 (by decide +kernel) (by decide) (by decide) rfl rfl dX5_another_48 hm.o (hm.r 198 rfl) ?_
        refine w_iload_n C 0 dX5_another_51 rfl rfl ?_
        refine w_iald C dX5_another_52 (hm.a 198 rfl rfl) rfl (hm.q 198 rfl (L := 2400) rfl (by omega)) (hm.b 198 rfl) ((hm.e 198 rfl _).trans (hv.t _ (by omega))) ?_
        refine w_istore_nB (lvq := [(2, _), (1, _), (0, _)]) C 0 rfl rfl (by first | rfl | exact rf_cat _) dX5_another_53 rfl (by decide) rfl ?_
        refine w_aload_n C 2 dX5_another_54 rfl rfl (by first | rfl | exact isRef_rf _) ?_
        refine w_getRs (ci := 6) (k := 9) (f := 201) C rfl i6 (by decide +kernel) (by decide) (by decide) rfl rfl dX5_another_55 hm.o (hm.r 201 rfl) ?_
        refine w_aload_n C 2 dX5_another_58 rfl rfl (by first | rfl | exact isRef_rf _) ?_
        refine w_getRs (ci := 6) (k := 7) (f := 199) C rfl i6 (by decide +kernel) (by decide) (by decide) rfl rfl dX5_another_59 hm.o (hm.r 199 rfl) ?_
        refine w_iload_n C 1 dX5_another_62 rfl rfl ?_
        refine w_iald C dX5_another_63 (hm.a 199 rfl rfl) rfl (hm.q 199 rfl (L := 2400) rfl (by omega)) (hm.b 199 rfl) ((hm.e 199 rfl _).trans (hv.f _ (by omega))) ?_
        refine w_iald C dX5_another_64 (hm.a 201 rfl rfl) rfl (hm.q 201 rfl (L := 600) rfl (by omega)) (hm.b 201 rfl) ((hm.e 201 rfl _).trans hx1) ?_
        refine w_aload_n C 2 dX5_another_65 rfl rfl (by first | rfl | exact isRef_rf _) ?_
        refine w_getRs (ci := 6) (k := 8) (f := 200) C rfl i6 (by decide +kernel) (by decide) (by decide) rfl rfl dX5_another_66 hm.o (hm.r 200 rfl) ?_
        refine w_iload_n C 1 dX5_another_69 rfl rfl ?_
        refine w_zald C dX5_another_70 (hm.a 200 rfl rfl) rfl (hm.q 200 rfl (L := 2400) rfl (by omega)) (hm.b 200 rfl) ((hm.e 200 rfl _).trans (hv.g _ (by omega))) ?_
        refine w_callS (As := [.int (nV N k (fk N q)), .int (gk N q)]) (rest := []) C (va_cwS 2 C.1.2.2.2.2 gX5_another_X5_taken rfl rfl rfl (by decide +kernel) ⟨Nat.le_of_ble_eq_true rfl, Nat.le_of_ble_eq_true rfl⟩) rfl rfl (by first | decide | simp [cat_ref, cat_null, cat_int, cat_long, rf_cat]) dX5_another_71 ⟨Nat.le_of_ble_eq_true rfl, Nat.le_of_ble_eq_true rfl⟩ (c_taken l G _) (fun rv z2 h9 => ?_)
        obtain ⟨rfl, e9⟩ := h9
        replace e9 := e9.symm
        subst e9
        refine w_istore_nB (lvq := [(3, _), (2, _), (1, _), (0, _)]) C 0 rfl rfl (by first | rfl | exact rf_cat _) dX5_another_74 rfl (by decide) rfl ?_
        refine w_aload_n C 3 dX5_another_75 rfl rfl (by first | rfl | exact isRef_rf _) ?_
        refine w_getRs (ci := 6) (k := 4) (f := 196) C rfl i6 (by decide +kernel) (by decide) (by decide) rfl rfl dX5_another_76 hm.o (hm.r 196 rfl) ?_
        refine w_iload_n C 1 dX5_another_79 rfl rfl ?_
        refine w_iald C dX5_another_80 (hm.a 196 rfl rfl) rfl (hm.q 196 rfl (L := 600) rfl (by omega)) (hm.b 196 rfl) ((hm.e 196 rfl _).trans (hv.s _ (by omega))) ?_
        refine w_iconst (v := 2) C dX5_another_81 (by decide) ?_
        refine w_icmp_ne (tgt := 89) C dX5_another_82 (by decide) (fun c2 => ?_) (fun c2 => ?_)
        · refine w_iconst (v := 1) C dX5_another_89 (by decide) ?_
          first
          | exact w_sub [0, 1, 2, 3] rfl (by have h9 := k90; rw [show dcd (nSo N (tk N q)) = 1 from if_neg c2] at h9; exact h9)
          | exact w_sub [0, 1, 2, 3] rfl (by have h9 := k90; rw [show dcd (nSo N (tk N q)) = 0 from if_pos c2] at h9; exact h9)
        · refine w_iconst (v := 0) C dX5_another_85 (by decide) ?_
          refine w_goto (tgt := 90) C dX5_another_86 (by decide) ?_
          first
          | exact w_sub [0, 1, 2, 3] rfl (by have h9 := k90; rw [show dcd (nSo N (tk N q)) = 1 from if_neg c2] at h9; exact h9)
          | exact w_sub [0, 1, 2, 3] rfl (by have h9 := k90; rw [show dcd (nSo N (tk N q)) = 0 from if_pos c2] at h9; exact h9)
  have loop1 : ∀ (r g : Nat) (z1 : Sto) (M1 : Nat → Nat → Int32), g + r = nN N → mR z z1 mo A I M1 → kx [202] M M1 → (∀ i, i < g → M1 202 i = gvf (dcd (nSo N i)) []) → Wp p l e ({ frames := 1, cells := 0, slots := 0, locals := 30 } : Room) s m args below meth c G 5 0 0 (MQ below (cPost G (fun rv z' => ∃ M', rv = some (.int (bI (!decide (nAd N k = 0)))) ∧ mR z z' mo A I M' ∧ kx [201, 202, 203] M M' ∧ ∀ i, i < nN N → M' 201 i = nV N (k + 1) i ∧ M' 203 i = nR N (k + 1) i)) args s (0) (0) (gA G)) z1 2 [(1, .int (nI g)), (0, .ref mo)] [] := by
    intro r
    induction r with
    | zero =>
      intro g z1 M1 hg hm hk1 hL
      have hgg : g = nN N := by omega
      subst hgg
      refine w_iload_n C 0 dX5_another_2 rfl rfl ?_
      refine w_aload_n C 1 dX5_another_3 rfl rfl (by first | rfl | exact isRef_rf _) ?_
      refine w_getI (ci := 6) (k := 1) (f := 193) C rfl i6 (by decide +kernel) (by decide) (by decide) rfl rfl dX5_another_4 hm.o ((hm.i 193).trans hv.n) ?_
      refine w_icmp_ge (tgt := 37) C dX5_another_7 (by decide) (fun c1 => ?_) (fun c1 => ?_)
      · refine w_iconst (v := 0) C dX5_another_37 (by decide) ?_
        refine w_istore_nB (lvq := [(1, _), (0, _)]) C 1 rfl rfl (by first | rfl | exact rf_cat _) dX5_another_38 rfl (by decide) rfl ?_
        exact w_sub [0, 1] rfl (loop2 (nFL N).length 0 z1 M1 (by omega) hm hk1 hL)
      · exact absurd (nI_le (Nat.le_refl _) (by omega)) c1
    | succ r ih =>
      intro g z1 M1 hg hm hk1 hL
      have hgg : g < nN N := by omega
      have hv := hv0.kx hk1 rfl
      refine w_iload_n C 0 dX5_another_2 rfl rfl ?_
      refine w_aload_n C 1 dX5_another_3 rfl rfl (by first | rfl | exact isRef_rf _) ?_
      refine w_getI (ci := 6) (k := 1) (f := 193) C rfl i6 (by decide +kernel) (by decide) (by decide) rfl rfl dX5_another_4 hm.o ((hm.i 193).trans hv.n) ?_
      refine w_icmp_ge (tgt := 37) C dX5_another_7 (by decide) (fun c1 => ?_) (fun c1 => ?_)
      · exact absurd c1 (nI_ge hgg (by omega))
      · refine w_aload_n C 1 dX5_another_10 rfl rfl (by first | rfl | exact isRef_rf _) ?_
        refine w_getRs (ci := 6) (k := 10) (f := 202) C rfl i6 (by decide +kernel) (by decide) (by decide) rfl rfl dX5_another_11 hm.o (hm.r 202 rfl) ?_
        refine w_iload_n C 0 dX5_another_14 rfl rfl ?_
        refine w_aload_n C 1 dX5_another_15 rfl rfl (by first | rfl | exact isRef_rf _) ?_
        refine w_getRs (ci := 6) (k := 4) (f := 196) C rfl i6 (by decide +kernel) (by decide) (by decide) rfl rfl dX5_another_16 hm.o (hm.r 196 rfl) ?_
        refine w_iload_n C 0 dX5_another_19 rfl rfl ?_
        refine w_iald C dX5_another_20 (hm.a 196 rfl rfl) rfl (hm.q 196 rfl (L := 600) rfl (by omega)) (hm.b 196 rfl) ((hm.e 196 rfl _).trans (hv.s _ (by omega))) ?_
        refine w_iconst (v := 2) C dX5_another_21 (by decide) ?_
        refine w_icmp_ne (tgt := 29) C dX5_another_22 (by decide) (fun c2 => ?_) (fun c2 => ?_)
        · refine w_iconst (v := 0) C dX5_another_29 (by decide) ?_
          refine m_iast (f := 202) (L := 600) C dX5_another_30 hm rfl rfl rfl rfl (by omega) (fun z1 hm => ?_)
          refine w_iincB (v := nI (g + 1)) (lvq := [(1, _), (0, _)]) C 0 1 rfl rfl (by first | rfl | exact rf_cat _) dX5_another_31 rfl (nI_1 g) (by decide) rfl ?_
          refine w_goto (tgt := 2) C dX5_another_34 (by decide) ?_
          exact w_sub [0, 1] rfl (ih (g + 1) z1 _ (by omega) hm (hk1.u (by decide) _ _) (fun i hi => by
            by_cases e9 : i = g
            · subst e9
              rw [u3_s]
              unfold dcd
              first | (rw [if_neg c2]; rfl) | (rw [if_pos c2]; rfl)
            · rw [u3_a e9]; exact hL i (by omega)))
        · refine w_iconst (v := 1) C dX5_another_25 (by decide) ?_
          refine w_goto (tgt := 30) C dX5_another_26 (by decide) ?_
          refine m_iast (f := 202) (L := 600) C dX5_another_30 hm rfl rfl rfl rfl (by omega) (fun z1 hm => ?_)
          refine w_iincB (v := nI (g + 1)) (lvq := [(1, _), (0, _)]) C 0 1 rfl rfl (by first | rfl | exact rf_cat _) dX5_another_31 rfl (nI_1 g) (by decide) rfl ?_
          refine w_goto (tgt := 2) C dX5_another_34 (by decide) ?_
          exact w_sub [0, 1] rfl (ih (g + 1) z1 _ (by omega) hm (hk1.u (by decide) _ _) (fun i hi => by
            by_cases e9 : i = g
            · subst e9
              rw [u3_s]
              unfold dcd
              first | (rw [if_neg c2]; rfl) | (rw [if_pos c2]; rfl)
            · rw [u3_a e9]; exact hL i (by omega)))
  refine w_iconst (v := 0) C dX5_another_0 (by decide) ?_
  refine w_istore_nB (lvq := [(1, _), (0, _)]) C 0 rfl rfl (by first | rfl | exact rf_cat _) dX5_another_1 rfl (by decide) rfl ?_
  exact w_sub [0, 1] rfl (loop1 (nN N) 0 z M (by omega) hm (kx.rf _ _) (fun i hi => (by cases hi)))
set_option maxHeartbeats 4000000 in
set_option maxRecDepth 100000 in
theorem c_unknown (l : Launch) (G : Gx) (z : Sto) {mo : Nat} {A : Nat → Nat} {I : Nat → Int32} {M : Nat → Nat → Int32} {N : NT} (h0 : mst z mo A I M) (hv : mv I M N) (hO : nOK N) {k : Nat} (h1 : ∀ i, i < nN N → M 201 i = nV N k i) : Ct l yX5_unknown wsX5_unknown ({ frames := 0, cells := 0, slots := 0, locals := 0 } : Room) G z [.ref mo] (fun rv z' => rv = some (.int (nI (nUn N k))) ∧ z' = z) := by
  refine ct_of (cc := cX5_unknown) (maxL := 3) (ret := (some .int)) (lv0 := [(0, .ref mo)]) (by decide) rfl (by simp [lg_sl, cat_ref, cat_null, cat_int, cat_long, rf_cat]) (by simp [lv_args, cat_ref, cat_null, cat_int, cat_long, rf_cat]) ?_
  intro p e s m args below meth c C hin
  have i6 : ∀ w ∈ u_ws RX5 TX5 16, w ∈ wsX5_unknown := by decide +kernel
  have hm := mR.rf h0
  have hn := hO.1
  have hl := hO.2.1
  have loop : ∀ (r g : Nat), g + r = nN N → Wp p l e ({ frames := 0, cells := 0, slots := 0, locals := 0 } : Room) s m args below meth c G 3 0 0 (MQ below (cPost G (fun rv z' => rv = some (.int (nI (nUn N k))) ∧ z' = z)) args s (0) (0) (gA G)) z 4 [(2, .int (nI g)), (1, .int (nI (cnt (fun i => decide (nV N k i = 2)) g))), (0, .ref mo)] [] := by
    intro r
    induction r with
    | zero =>
      intro g hg
      have hgg : g = nN N := by omega
      subst hgg
      refine w_iload_n C 0 dX5_unknown_4 rfl rfl ?_
      refine w_aload_n C 2 dX5_unknown_5 rfl rfl (by first | rfl | exact isRef_rf _) ?_
      refine w_getI (ci := 6) (k := 1) (f := 193) C rfl i6 (by decide +kernel) (by decide) (by decide) rfl rfl dX5_unknown_6 hm.o ((hm.i 193).trans hv.n) ?_
      refine w_icmp_ge (tgt := 36) C dX5_unknown_9 (by decide) (fun c1 => ?_) (fun c1 => ?_)
      · refine w_iload_n C 1 dX5_unknown_36 rfl rfl ?_
        exact w_iret C dX5_unknown_37 ⟨rfl, rfl⟩
      · exact absurd (nI_le (Nat.le_refl _) (by omega)) c1
    | succ r ih =>
      intro g hg
      have hgg : g < nN N := by omega
      have hcs : cnt (fun i => decide (nV N k i = 2)) (g + 1) = cnt (fun i => decide (nV N k i = 2)) g + (if decide (nV N k g = 2) then 1 else 0) := rfl
      refine w_iload_n C 0 dX5_unknown_4 rfl rfl ?_
      refine w_aload_n C 2 dX5_unknown_5 rfl rfl (by first | rfl | exact isRef_rf _) ?_
      refine w_getI (ci := 6) (k := 1) (f := 193) C rfl i6 (by decide +kernel) (by decide) (by decide) rfl rfl dX5_unknown_6 hm.o ((hm.i 193).trans hv.n) ?_
      refine w_icmp_ge (tgt := 36) C dX5_unknown_9 (by decide) (fun c1 => ?_) (fun c1 => ?_)
      · exact absurd c1 (nI_ge hgg (by omega))
      · refine w_iload_n C 1 dX5_unknown_12 rfl rfl ?_
        refine w_aload_n C 2 dX5_unknown_13 rfl rfl (by first | rfl | exact isRef_rf _) ?_
        refine w_getRs (ci := 6) (k := 9) (f := 201) C rfl i6 (by decide +kernel) (by decide) (by decide) rfl rfl dX5_unknown_14 hm.o (hm.r 201 rfl) ?_
        refine w_iload_n C 0 dX5_unknown_17 rfl rfl ?_
        refine w_iald C dX5_unknown_18 (hm.a 201 rfl rfl) rfl (hm.q 201 rfl (L := 600) rfl (by omega)) (hm.b 201 rfl) ((hm.e 201 rfl _).trans (h1 g hgg)) ?_
        refine w_iconst (v := 2) C dX5_unknown_19 (by decide) ?_
        refine w_icmp_ne (tgt := 27) C dX5_unknown_20 (by decide) (fun c2 => ?_) (fun c2 => ?_)
        · rw [decide_eq_false c2] at hcs
          simp only [Bool.false_eq_true, if_false, Nat.add_zero] at hcs
          refine w_iconst (v := 0) C dX5_unknown_27 (by decide) ?_
          refine w_iadd C dX5_unknown_28 ?_
          first
          | refine w_inti (nI_1 _) ?_
          | refine w_inti (Int32.add_zero _) ?_
          refine w_istore_nB (lvq := [(1, _), (2, _), (0, _)]) C 2 rfl rfl (by first | rfl | exact rf_cat _) dX5_unknown_29 rfl (by decide) rfl ?_
          refine w_iincB (v := nI (g + 1)) (lvq := [(2, _), (1, _), (0, _)]) C 1 0 rfl rfl (by first | rfl | exact rf_cat _) dX5_unknown_30 rfl (nI_1 g) (by decide) rfl ?_
          refine w_goto (tgt := 4) C dX5_unknown_33 (by decide) ?_
          exact w_sub [0, 1, 2] rfl (hcs ▸ ih (g + 1) (by omega))
        · rw [decide_eq_true c2] at hcs
          simp only [if_true] at hcs
          refine w_iconst (v := 1) C dX5_unknown_23 (by decide) ?_
          refine w_goto (tgt := 28) C dX5_unknown_24 (by decide) ?_
          refine w_iadd C dX5_unknown_28 ?_
          first
          | refine w_inti (nI_1 _) ?_
          | refine w_inti (Int32.add_zero _) ?_
          refine w_istore_nB (lvq := [(1, _), (2, _), (0, _)]) C 2 rfl rfl (by first | rfl | exact rf_cat _) dX5_unknown_29 rfl (by decide) rfl ?_
          refine w_iincB (v := nI (g + 1)) (lvq := [(2, _), (1, _), (0, _)]) C 1 0 rfl rfl (by first | rfl | exact rf_cat _) dX5_unknown_30 rfl (nI_1 g) (by decide) rfl ?_
          refine w_goto (tgt := 4) C dX5_unknown_33 (by decide) ?_
          exact w_sub [0, 1, 2] rfl (hcs ▸ ih (g + 1) (by omega))
  refine w_iconst (v := 0) C dX5_unknown_0 (by decide) ?_
  refine w_istore_nB (lvq := [(1, _), (0, _)]) C 0 rfl rfl (by first | rfl | exact rf_cat _) dX5_unknown_1 rfl (by decide) rfl ?_
  refine w_iconst (v := 0) C dX5_unknown_2 (by decide) ?_
  refine w_istore_nB (lvq := [(2, _), (1, _), (0, _)]) C 0 rfl rfl (by first | rfl | exact rf_cat _) dX5_unknown_3 rfl (by decide) rfl ?_
  exact w_sub [0, 1, 2] rfl (loop (nN N) 0 (by omega))
set_option maxHeartbeats 4000000 in
set_option maxRecDepth 100000 in
theorem c_mspread (l : Launch) (G : Gx) (z : Sto) {mo : Nat} {A : Nat → Nat} {I : Nat → Int32} {M : Nat → Nat → Int32} {N : NT} (h0 : mst z mo A I M) (hv : mv I M N) (hO : nOK N) : Ct l yX5_spread wsX5_spread ({ frames := 2, cells := 0, slots := 0, locals := 60 } : Room) G z [.ref mo] (fun rv z' => ∃ I' M', rv = some (.int (bI (decide (nUn N (nRC N) = 0)))) ∧ mR z z' mo A I' M' ∧ kx [201, 202, 203] M M' ∧ (∀ f, ¬ f = 204 → I' f = I f) ∧ (∀ i, i < nN N → M' 201 i = nV N (nRC N) i ∧ M' 203 i = nR N (nRC N) i) ∧ I' 204 = nI (nRC N)) := by
  refine ct_of (cc := cX5_spread) (maxL := 2) (ret := (some .boolean)) (lv0 := [(0, .ref mo)]) (by decide) rfl (by simp [lg_sl, cat_ref, cat_null, cat_int, cat_long, rf_cat]) (by simp [lv_args, cat_ref, cat_null, cat_int, cat_long, rf_cat]) ?_
  intro p e s m args below meth c C hin
  have i6 : ∀ w ∈ u_ws RX5 TX5 16, w ∈ wsX5_spread := by decide +kernel
  have hm := mR.rf h0
  have hn := hO.1
  have hl := hO.2.1
  have hv0 := hv
  have loop2 : ∀ (f k : Nat) (z1 : Sto) (I1 : Nat → Int32) (M1 : Nat → Nat → Int32), k + f = 600 → nUn N k ≤ f → rcf N f k = nRC N → mR z z1 mo A I1 M1 → kx [201, 202, 203] M M1 → (∀ f, ¬ f = 204 → I1 f = I f) → (∀ i, i < nN N → M1 201 i = nV N k i ∧ M1 203 i = nR N k i) → I1 204 = nI k → Wp p l e ({ frames := 2, cells := 0, slots := 0, locals := 60 } : Room) s m args below meth c G 2 0 0 (MQ below (cPost G (fun rv z' => ∃ I' M', rv = some (.int (bI (decide (nUn N (nRC N) = 0)))) ∧ mR z z' mo A I' M' ∧ kx [201, 202, 203] M M' ∧ (∀ f, ¬ f = 204 → I' f = I f) ∧ (∀ i, i < nN N → M' 201 i = nV N (nRC N) i ∧ M' 203 i = nR N (nRC N) i) ∧ I' 204 = nI (nRC N))) args s (0) (0) (gA G)) z1 68 [(0, .ref mo)] [] := by
    intro f
    induction f with
    | zero =>
      intro k z1 I1 M1 hkf hun hrc hm hk3 hI h1 h2
      have hv1 : mv I1 M1 N := by
        have h9 := hv0.kx hk3 rfl
        exact ⟨⟨(hI 193 (by decide)).trans h9.n, (hI 194 (by decide)).trans h9.l, (hI 195 (by decide)).trans h9.u⟩, h9.2⟩
      have hz : nAd N k = 0 := by have := nUn_succ N k; omega
      have hkr : k = nRC N := hrc
      refine w_aload_n C 0 dX5_spread_68 rfl rfl (by first | rfl | exact isRef_rf _) ?_
      refine w_callV (ci := 6) (As := []) (rest := []) C (cwV 0 C.1.2.2.2.2 gX5_spread_X5_another rfl rfl rfl (by decide +kernel) ⟨Nat.le_of_ble_eq_true rfl, Nat.le_of_ble_eq_true rfl⟩) hm.o rfl (by decide) rfl rfl (by first | decide | simp [cat_ref, cat_null, cat_int, cat_long, rf_cat]) dX5_spread_69 ⟨Nat.le_of_ble_eq_true rfl, Nat.le_of_ble_eq_true rfl⟩ (c_another l G _ hm.2 hv1 hO (by omega) h1 h2) (fun rv z1 h9 => ?_)
      obtain ⟨M2, rfl, hm2, hk2, h3⟩ := h9
      replace hm := hm.tr hm2
      have hv2 := hv1.kx hk2 rfl
      refine w_if_eq (tgt := 88) C dX5_spread_72 (by decide) (fun c1 => ?_) (fun c1 => ?_)
      · have hVR : ∀ i, i < nN N → M2 201 i = nV N (nRC N) i ∧ M2 203 i = nR N (nRC N) i := by
          intro i hi
          have e9 := nAd_zero hz hi
          rw [← hkr, ← e9, ← nR_keep N e9]
          exact h3 i hi
        have hV : ∀ i, i < nN N → M2 201 i = nV N (nRC N) i := fun i hi => (hVR i hi).1
        refine w_aload_n C 0 dX5_spread_88 rfl rfl (by first | rfl | exact isRef_rf _) ?_
        refine w_callV (ci := 6) (As := []) (rest := []) C (cwV 0 C.1.2.2.2.2 gX5_spread_X5_unknown rfl rfl rfl (by decide +kernel) ⟨Nat.le_of_ble_eq_true rfl, Nat.le_of_ble_eq_true rfl⟩) hm.o rfl (by decide) rfl rfl (by first | decide | simp [cat_ref, cat_null, cat_int, cat_long, rf_cat]) dX5_spread_89 ⟨Nat.le_of_ble_eq_true rfl, Nat.le_of_ble_eq_true rfl⟩ (c_unknown l G _ hm.2 hv2 hO (k := nRC N) hV) (fun rv z2 h9 => ?_)
        obtain ⟨rfl, e9⟩ := h9
        replace e9 := e9.symm
        subst e9
        refine w_if_ne (tgt := 99) C dX5_spread_92 (by decide) (fun c2 => ?_) (fun c2 => ?_)
        · have hd9 : decide (nUn N (nRC N) = 0) = false := decide_eq_false (fun e9 => c2 (by rw [e9]; rfl))
          refine w_iconst (v := 0) C dX5_spread_99 (by decide) ?_
          exact w_zret C dX5_spread_100 (by first | rfl | assumption) ⟨I1, M2, by rw [hd9]; rfl, hm, hk3.tr hk2, hI, hVR, h2.trans (by rw [hkr])⟩
        · have hd9 : decide (nUn N (nRC N) = 0) = true := decide_eq_true ((nI_eq (b := 0) (by have := cnt_le (fun i => decide (nV N (nRC N) i = 2)) (nN N); unfold nUn; omega) (by omega)).mp c2)
          refine w_iconst (v := 1) C dX5_spread_95 (by decide) ?_
          refine w_goto (tgt := 100) C dX5_spread_96 (by decide) ?_
          exact w_zret C dX5_spread_100 (by first | rfl | assumption) ⟨I1, M2, by rw [hd9]; rfl, hm, hk3.tr hk2, hI, hVR, h2.trans (by rw [hkr])⟩
      · exact absurd (by rw [hz]; rfl) c1
    | succ f ih =>
      intro k z1 I1 M1 hkf hun hrc hm hk3 hI h1 h2
      have hv1 : mv I1 M1 N := by
        have h9 := hv0.kx hk3 rfl
        exact ⟨⟨(hI 193 (by decide)).trans h9.n, (hI 194 (by decide)).trans h9.l, (hI 195 (by decide)).trans h9.u⟩, h9.2⟩
      have hrc' : (if nAd N k = 0 then k else rcf N f (k + 1)) = nRC N := hrc
      refine w_aload_n C 0 dX5_spread_68 rfl rfl (by first | rfl | exact isRef_rf _) ?_
      refine w_callV (ci := 6) (As := []) (rest := []) C (cwV 0 C.1.2.2.2.2 gX5_spread_X5_another rfl rfl rfl (by decide +kernel) ⟨Nat.le_of_ble_eq_true rfl, Nat.le_of_ble_eq_true rfl⟩) hm.o rfl (by decide) rfl rfl (by first | decide | simp [cat_ref, cat_null, cat_int, cat_long, rf_cat]) dX5_spread_69 ⟨Nat.le_of_ble_eq_true rfl, Nat.le_of_ble_eq_true rfl⟩ (c_another l G _ hm.2 hv1 hO (by omega) h1 h2) (fun rv z1 h9 => ?_)
      obtain ⟨M2, rfl, hm2, hk2, h3⟩ := h9
      replace hm := hm.tr hm2
      have hv2 := hv1.kx hk2 rfl
      refine w_if_eq (tgt := 88) C dX5_spread_72 (by decide) (fun c1 => ?_) (fun c1 => ?_)
      · have hz : nAd N k = 0 := Decidable.byContradiction fun q9 => by rw [decide_eq_false q9] at c1; exact absurd c1 (by decide)
        have hkr : k = nRC N := by rw [if_pos hz] at hrc'; exact hrc'
        have hVR : ∀ i, i < nN N → M2 201 i = nV N (nRC N) i ∧ M2 203 i = nR N (nRC N) i := by
          intro i hi
          have e9 := nAd_zero hz hi
          rw [← hkr, ← e9, ← nR_keep N e9]
          exact h3 i hi
        have hV : ∀ i, i < nN N → M2 201 i = nV N (nRC N) i := fun i hi => (hVR i hi).1
        refine w_aload_n C 0 dX5_spread_88 rfl rfl (by first | rfl | exact isRef_rf _) ?_
        refine w_callV (ci := 6) (As := []) (rest := []) C (cwV 0 C.1.2.2.2.2 gX5_spread_X5_unknown rfl rfl rfl (by decide +kernel) ⟨Nat.le_of_ble_eq_true rfl, Nat.le_of_ble_eq_true rfl⟩) hm.o rfl (by decide) rfl rfl (by first | decide | simp [cat_ref, cat_null, cat_int, cat_long, rf_cat]) dX5_spread_89 ⟨Nat.le_of_ble_eq_true rfl, Nat.le_of_ble_eq_true rfl⟩ (c_unknown l G _ hm.2 hv2 hO (k := nRC N) hV) (fun rv z2 h9 => ?_)
        obtain ⟨rfl, e9⟩ := h9
        replace e9 := e9.symm
        subst e9
        refine w_if_ne (tgt := 99) C dX5_spread_92 (by decide) (fun c2 => ?_) (fun c2 => ?_)
        · have hd9 : decide (nUn N (nRC N) = 0) = false := decide_eq_false (fun e9 => c2 (by rw [e9]; rfl))
          refine w_iconst (v := 0) C dX5_spread_99 (by decide) ?_
          exact w_zret C dX5_spread_100 (by first | rfl | assumption) ⟨I1, M2, by rw [hd9]; rfl, hm, hk3.tr hk2, hI, hVR, h2.trans (by rw [hkr])⟩
        · have hd9 : decide (nUn N (nRC N) = 0) = true := decide_eq_true ((nI_eq (b := 0) (by have := cnt_le (fun i => decide (nV N (nRC N) i = 2)) (nN N); unfold nUn; omega) (by omega)).mp c2)
          refine w_iconst (v := 1) C dX5_spread_95 (by decide) ?_
          refine w_goto (tgt := 100) C dX5_spread_96 (by decide) ?_
          exact w_zret C dX5_spread_100 (by first | rfl | assumption) ⟨I1, M2, by rw [hd9]; rfl, hm, hk3.tr hk2, hI, hVR, h2.trans (by rw [hkr])⟩
      · have hz : ¬ nAd N k = 0 := fun q9 => c1 (by rw [decide_eq_true q9]; rfl)
        rw [if_neg hz] at hrc'
        refine w_aload_n C 0 dX5_spread_75 rfl rfl (by first | rfl | exact isRef_rf _) ?_
        refine w_dup C dX5_spread_76 (by first | rfl | exact rf_cat _) ?_
        refine w_getI (ci := 6) (k := 12) (f := 204) C rfl i6 (by decide +kernel) (by decide) (by decide) rfl rfl dX5_spread_77 hm.o ((hm.i 204).trans h2) ?_
        refine w_iconst (v := 1) C dX5_spread_80 (by decide) ?_
        refine w_iadd C dX5_spread_81 ?_
        refine w_putI (ci := 6) (k := 12) (f := 204) C rfl i6 (by decide +kernel) (by decide) (by decide) rfl rfl tyX5 tyX5_ok nmX5 rfl rfl rfl dX5_spread_82 hm.o ?_
        refine m_kI hm (by decide) (fun z1 hm => ?_)
        refine w_goto (tgt := 68) C dX5_spread_85 (by decide) ?_
        exact w_sub [0] rfl (ih (k + 1) z1 _ M2 (by omega) (by have := nUn_succ N k; omega) hrc' hm (hk3.tr hk2) (fun g hg => (if_neg hg).trans (hI g hg)) h3 ((if_pos rfl).trans (nI_1 k)))
  have loop1 : ∀ (r g : Nat) (z1 : Sto) (M1 : Nat → Nat → Int32), g + r = nN N → mR z z1 mo A I M1 → kx [201, 202, 203] M M1 → (∀ i, i < g → M1 201 i = nV N 0 i ∧ M1 203 i = nR N 0 i) → Wp p l e ({ frames := 2, cells := 0, slots := 0, locals := 60 } : Room) s m args below meth c G 2 0 0 (MQ below (cPost G (fun rv z' => ∃ I' M', rv = some (.int (bI (decide (nUn N (nRC N) = 0)))) ∧ mR z z' mo A I' M' ∧ kx [201, 202, 203] M M' ∧ (∀ f, ¬ f = 204 → I' f = I f) ∧ (∀ i, i < nN N → M' 201 i = nV N (nRC N) i ∧ M' 203 i = nR N (nRC N) i) ∧ I' 204 = nI (nRC N))) args s (0) (0) (gA G)) z1 2 [(1, .int (nI g)), (0, .ref mo)] [] := by
    intro r
    induction r with
    | zero =>
      intro g z1 M1 hg hm hk3 hL
      have hgg : g = nN N := by omega
      subst hgg
      refine w_iload_n C 0 dX5_spread_2 rfl rfl ?_
      refine w_aload_n C 1 dX5_spread_3 rfl rfl (by first | rfl | exact isRef_rf _) ?_
      refine w_getI (ci := 6) (k := 1) (f := 193) C rfl i6 (by decide +kernel) (by decide) (by decide) rfl rfl dX5_spread_4 hm.o ((hm.i 193).trans hv.n) ?_
      refine w_icmp_ge (tgt := 63) C dX5_spread_7 (by decide) (fun c1 => ?_) (fun c1 => ?_)
      · refine w_aload_n C 1 dX5_spread_63 rfl rfl (by first | rfl | exact isRef_rf _) ?_
        refine w_iconst (v := 0) C dX5_spread_64 (by decide) ?_
        refine w_putI (ci := 6) (k := 12) (f := 204) C rfl i6 (by decide +kernel) (by decide) (by decide) rfl rfl tyX5 tyX5_ok nmX5 rfl rfl rfl dX5_spread_65 hm.o ?_
        refine m_kI hm (by decide) (fun z1 hm => ?_)
        exact w_sub [1] rfl (loop2 600 0 z1 _ M1 (by omega) (Nat.le_trans (cnt_le _ _) hn) rfl hm hk3 (fun g hg => if_neg hg) hL (if_pos rfl))
      · exact absurd (nI_le (Nat.le_refl _) (by omega)) c1
    | succ r ih =>
      intro g z1 M1 hg hm hk3 hL
      have hgg : g < nN N := by omega
      have hv := hv0.kx hk3 rfl
      have k35 : Wp p l e ({ frames := 2, cells := 0, slots := 0, locals := 60 } : Room) s m args below meth c G 2 0 0 (MQ below (cPost G (fun rv z' => ∃ I' M', rv = some (.int (bI (decide (nUn N (nRC N) = 0)))) ∧ mR z z' mo A I' M' ∧ kx [201, 202, 203] M M' ∧ (∀ f, ¬ f = 204 → I' f = I f) ∧ (∀ i, i < nN N → M' 201 i = nV N (nRC N) i ∧ M' 203 i = nR N (nRC N) i) ∧ I' 204 = nI (nRC N))) args s (0) (0) (gA G)) z1 35 [(1, .int (nI g)), (0, .ref mo)] [.int (nV N 0 g), .int (nI g), .ref (A 201)] := by
        refine m_iast (f := 201) (L := 600) C dX5_spread_35 hm rfl rfl rfl rfl (by omega) (fun z1 hm => ?_)
        refine w_aload_n C 1 dX5_spread_36 rfl rfl (by first | rfl | exact isRef_rf _) ?_
        refine w_getRs (ci := 6) (k := 11) (f := 203) C rfl i6 (by decide +kernel) (by decide) (by decide) rfl rfl dX5_spread_37 hm.o (hm.r 203 rfl) ?_
        refine w_iload_n C 0 dX5_spread_40 rfl rfl ?_
        refine w_aload_n C 1 dX5_spread_41 rfl rfl (by first | rfl | exact isRef_rf _) ?_
        refine w_getRs (ci := 6) (k := 9) (f := 201) C rfl i6 (by decide +kernel) (by decide) (by decide) rfl rfl dX5_spread_42 hm.o (hm.r 201 rfl) ?_
        refine w_iload_n C 0 dX5_spread_45 rfl rfl ?_
        refine w_iald C dX5_spread_46 (hm.a 201 rfl rfl) rfl (hm.q 201 rfl (L := 600) rfl (by omega)) (hm.b 201 rfl) ((hm.e 201 rfl _).trans (u3_s _ _ _ _)) ?_
        refine w_iconst (v := 2) C dX5_spread_47 (by decide) ?_
        refine w_icmp_ne (tgt := 55) C dX5_spread_48 (by decide) (fun c2 => ?_) (fun c2 => ?_)
        · have hr9 : nR N 0 g = 0 := if_neg c2
          refine w_iconst (v := 0) C dX5_spread_55 (by decide) ?_
          refine m_iast (f := 203) (L := 600) C dX5_spread_56 hm rfl rfl rfl rfl (by omega) (fun z1 hm => ?_)
          refine w_iincB (v := nI (g + 1)) (lvq := [(1, _), (0, _)]) C 0 1 rfl rfl (by first | rfl | exact rf_cat _) dX5_spread_57 rfl (nI_1 g) (by decide) rfl ?_
          refine w_goto (tgt := 2) C dX5_spread_60 (by decide) ?_
          exact w_sub [0, 1] rfl (ih (g + 1) z1 _ (by omega) hm ((hk3.u (by decide) _ _).u (by decide) _ _) (fun i hi => by
            rw [u3_f (show (201 : Nat) ≠ 203 by decide)]
            by_cases e9 : i = g
            · subst e9
              rw [u3_s, u3_s, hr9]
              exact ⟨rfl, rfl⟩
            · rw [u3_a e9, u3_a e9, u3_f (show (203 : Nat) ≠ 201 by decide)]; exact hL i (by omega)))
        · have hr9 : nR N 0 g = -1 := if_pos c2
          refine w_iconst (v := (-1)) C dX5_spread_51 (by decide) ?_
          refine w_goto (tgt := 56) C dX5_spread_52 (by decide) ?_
          refine m_iast (f := 203) (L := 600) C dX5_spread_56 hm rfl rfl rfl rfl (by omega) (fun z1 hm => ?_)
          refine w_iincB (v := nI (g + 1)) (lvq := [(1, _), (0, _)]) C 0 1 rfl rfl (by first | rfl | exact rf_cat _) dX5_spread_57 rfl (nI_1 g) (by decide) rfl ?_
          refine w_goto (tgt := 2) C dX5_spread_60 (by decide) ?_
          exact w_sub [0, 1] rfl (ih (g + 1) z1 _ (by omega) hm ((hk3.u (by decide) _ _).u (by decide) _ _) (fun i hi => by
            rw [u3_f (show (201 : Nat) ≠ 203 by decide)]
            by_cases e9 : i = g
            · subst e9
              rw [u3_s, u3_s, hr9]
              exact ⟨rfl, rfl⟩
            · rw [u3_a e9, u3_a e9, u3_f (show (203 : Nat) ≠ 201 by decide)]; exact hL i (by omega)))
      refine w_iload_n C 0 dX5_spread_2 rfl rfl ?_
      refine w_aload_n C 1 dX5_spread_3 rfl rfl (by first | rfl | exact isRef_rf _) ?_
      refine w_getI (ci := 6) (k := 1) (f := 193) C rfl i6 (by decide +kernel) (by decide) (by decide) rfl rfl dX5_spread_4 hm.o ((hm.i 193).trans hv.n) ?_
      refine w_icmp_ge (tgt := 63) C dX5_spread_7 (by decide) (fun c1 => ?_) (fun c1 => ?_)
      · exact absurd c1 (nI_ge hgg (by omega))
      · refine w_aload_n C 1 dX5_spread_10 rfl rfl (by first | rfl | exact isRef_rf _) ?_
        refine w_getRs (ci := 6) (k := 9) (f := 201) C rfl i6 (by decide +kernel) (by decide) (by decide) rfl rfl dX5_spread_11 hm.o (hm.r 201 rfl) ?_
        refine w_iload_n C 0 dX5_spread_14 rfl rfl ?_
        refine w_aload_n C 1 dX5_spread_15 rfl rfl (by first | rfl | exact isRef_rf _) ?_
        refine w_getRs (ci := 6) (k := 4) (f := 196) C rfl i6 (by decide +kernel) (by decide) (by decide) rfl rfl dX5_spread_16 hm.o (hm.r 196 rfl) ?_
        refine w_iload_n C 0 dX5_spread_19 rfl rfl ?_
        refine w_iald C dX5_spread_20 (hm.a 196 rfl rfl) rfl (hm.q 196 rfl (L := 600) rfl (by omega)) (hm.b 196 rfl) ((hm.e 196 rfl _).trans (hv.s _ (by omega))) ?_
        refine w_iconst (v := 2) C dX5_spread_21 (by decide) ?_
        refine w_icmp_ge (tgt := 34) C dX5_spread_22 (by decide) (fun c2 => ?_) (fun c2 => ?_)
        · have hn0 : nV N 0 g = 2 := if_pos (lg_t hO hgg (Int32.not_lt.mpr c2))
          refine w_iconst (v := 2) C dX5_spread_34 (by decide) ?_
          exact w_sub [0, 1] rfl (hn0 ▸ k35)
        · have hn0 : nV N 0 g = nHd N g := if_neg (by rw [lg_f (Int32.not_le.mp c2)]; decide)
          refine w_aload_n C 1 dX5_spread_25 rfl rfl (by first | rfl | exact isRef_rf _) ?_
          refine w_getRs (ci := 6) (k := 5) (f := 197) C rfl i6 (by decide +kernel) (by decide) (by decide) rfl rfl dX5_spread_26 hm.o (hm.r 197 rfl) ?_
          refine w_iload_n C 0 dX5_spread_29 rfl rfl ?_
          refine w_iald C dX5_spread_30 (hm.a 197 rfl rfl) rfl (hm.q 197 rfl (L := 600) rfl (by omega)) (hm.b 197 rfl) ((hm.e 197 rfl _).trans (hv.h _ (by omega))) ?_
          refine w_goto (tgt := 35) C dX5_spread_31 (by decide) ?_
          exact w_sub [0, 1] rfl (hn0 ▸ k35)
  refine w_iconst (v := 0) C dX5_spread_0 (by decide) ?_
  refine w_istore_nB (lvq := [(1, _), (0, _)]) C 0 rfl rfl (by first | rfl | exact rf_cat _) dX5_spread_1 rfl (by decide) rfl ?_
  exact w_sub [0, 1] rfl (loop1 (nN N) 0 z M (by omega) hm (kx.rf _ _) (fun i hi => (by cases hi)))
theorem mv_sp {I I' : Nat → Int32} {M M' : Nat → Nat → Int32} {N : NT} (h : mv I M N) (hk : kx [201, 202, 203] M M') (hI : ∀ f, ¬ f = 204 → I' f = I f) : mv I' M' N := by
  have h9 := h.kx hk rfl
  exact ⟨⟨(hI 193 (by decide)).trans h9.n, (hI 194 (by decide)).trans h9.l, (hI 195 (by decide)).trans h9.u⟩, h9.2⟩
set_option maxHeartbeats 4000000 in
set_option maxRecDepth 100000 in
theorem c_mvalue (l : Launch) (G : Gx) (z : Sto) {mo : Nat} {A : Nat → Nat} {I : Nat → Int32} {M : Nat → Nat → Int32} {N : NT} (h0 : mst z mo A I M) (hv : mv I M N) (hO : nOK N) {i : Nat} (hi : i < nN N) : Ct l yX5_value wsX5_value ({ frames := 3, cells := 0, slots := 0, locals := 90 } : Room) G z [.ref mo, .int (nI i)] (fun rv z' => ∃ I' M', mR z z' mo A I' M' ∧ I' 192 = 0 ∧ rv = some (.int (nV N (nRC N) i)) ∧ mv I' M' N) := by
  refine ct_of (cc := cX5_value) (maxL := 2) (ret := (some .int)) (lv0 := [(0, .ref mo), (1, .int (nI i))]) (by decide) rfl (by simp [lg_sl, cat_ref, cat_null, cat_int, cat_long, rf_cat]) (by simp [lv_args, cat_ref, cat_null, cat_int, cat_long, rf_cat]) ?_
  intro p e s m args below meth c C hin
  have i6 : ∀ w ∈ u_ws RX5 TX5 16, w ∈ wsX5_value := by decide +kernel
  have hm := mR.rf h0
  have hn := hO.1
  have hl := hO.2.1
  refine w_aload_n C 0 dX5_value_0 rfl rfl (by first | rfl | exact isRef_rf _) ?_
  refine w_aload_n C 0 dX5_value_1 rfl rfl (by first | rfl | exact isRef_rf _) ?_
  refine w_iload_n C 1 dX5_value_2 rfl rfl ?_
  refine w_callV (ci := 6) (As := [.int (nI i)]) (rest := [.ref mo]) C (cwV 1 C.1.2.2.2.2 gX5_value_X5_isGate rfl rfl rfl (by decide +kernel) ⟨Nat.le_of_ble_eq_true rfl, Nat.le_of_ble_eq_true rfl⟩) hm.o rfl (by decide) rfl rfl (by first | decide | simp [cat_ref, cat_null, cat_int, cat_long, rf_cat]) dX5_value_3 ⟨Nat.le_of_ble_eq_true rfl, Nat.le_of_ble_eq_true rfl⟩ (c_isGateT l G _ hm.2 hv hO (i := i) (by omega)) (fun rv z2 h9 => ?_)
  obtain ⟨rfl, e9⟩ := h9
  replace e9 := e9.symm
  subst e9
  refine w_if_ne (tgt := 13) C dX5_value_6 (by decide) (fun c1 => ?_) (fun c1 => ?_)
  · refine w_iconst (v := 0) C dX5_value_13 (by decide) ?_
    refine w_iconst (v := 0) C dX5_value_14 (by decide) ?_
    refine w_callV (ci := 6) (As := [.int 0, .int 0]) (rest := []) C (cwV 2 C.1.2.2.2.2 gX5_value_X5_fails rfl rfl rfl (by decide +kernel) ⟨Nat.le_of_ble_eq_true rfl, Nat.le_of_ble_eq_true rfl⟩) hm.o rfl (by decide) rfl rfl (by first | decide | simp [cat_ref, cat_null, cat_int, cat_long, rf_cat]) dX5_value_15 ⟨Nat.le_of_ble_eq_true rfl, Nat.le_of_ble_eq_true rfl⟩ (c_fails l G _ hm.2 (Or.inr (Or.inr ⟨rfl, rfl, rfl, rfl⟩))) (fun rv z1 h9 => ?_)
    obtain ⟨rfl, hm1⟩ := h9
    replace hm := hm.tr hm1
    replace hv := hv.P (f := 192) 0 (by decide) (by decide) (by decide)
    refine w_if_eq (tgt := 23) C dX5_value_18 (by decide) (fun c2 => ?_) (fun c2 => ?_)
    · refine w_aload_n C 0 dX5_value_23 rfl rfl (by first | rfl | exact isRef_rf _) ?_
      refine w_callV (ci := 6) (As := []) (rest := []) C (cwV 0 C.1.2.2.2.2 gX5_value_X5_spread rfl rfl rfl (by decide +kernel) ⟨Nat.le_of_ble_eq_true rfl, Nat.le_of_ble_eq_true rfl⟩) hm.o rfl (by decide) rfl rfl (by first | decide | simp [cat_ref, cat_null, cat_int, cat_long, rf_cat]) dX5_value_24 ⟨Nat.le_of_ble_eq_true rfl, Nat.le_of_ble_eq_true rfl⟩ (c_mspread l G _ hm.2 hv hO) (fun rv z1 h9 => ?_)
      obtain ⟨I2, M2, rfl, hm2, hk2, hI2, hVR, h204⟩ := h9
      replace hm := hm.tr hm2
      replace hv := mv_sp hv hk2 hI2
      refine w_pop C dX5_value_27 (by first | rfl | exact rf_cat _) ?_
      refine w_aload_n C 0 dX5_value_28 rfl rfl (by first | rfl | exact isRef_rf _) ?_
      refine w_getRs (ci := 6) (k := 9) (f := 201) C rfl i6 (by decide +kernel) (by decide) (by decide) rfl rfl dX5_value_29 hm.o (hm.r 201 rfl) ?_
      refine w_iload_n C 1 dX5_value_32 rfl rfl ?_
      refine w_iald C dX5_value_33 (hm.a 201 rfl rfl) rfl (hm.q 201 rfl (L := 600) rfl (by omega)) (hm.b 201 rfl) ((hm.e 201 rfl _).trans (hVR _ hi).1) ?_
      exact w_iret C dX5_value_34 ⟨_, _, hm, (hI2 192 (by decide)).trans (if_pos rfl), rfl, hv⟩
    · exact absurd rfl c2
  · exact absurd c1 (by decide)
set_option maxHeartbeats 4000000 in
set_option maxRecDepth 100000 in
theorem x_mvalue (l : Launch) (G : Gx) (z : Sto) {mo : Nat} {A : Nat → Nat} {I : Nat → Int32} {M : Nat → Nat → Int32} {N : NT} (h0 : mst z mo A I M) (hv : mv I M N) (hO : nOK N) {j : Int32} (hj : j < 0 ∨ nI (nN N) ≤ j) : Ct l yX5_value wsX5_value ({ frames := 1, cells := 0, slots := 0, locals := 30 } : Room) G z [.ref mo, .int j] (fun rv z' => (∃ v, rv = some (.int v)) ∧ mR z z' mo A (va_up I 192 1) M) := by
  refine ct_of (cc := cX5_value) (maxL := 2) (ret := (some .int)) (lv0 := [(0, .ref mo), (1, .int j)]) (by decide) rfl (by simp [lg_sl, cat_ref, cat_null, cat_int, cat_long, rf_cat]) (by simp [lv_args, cat_ref, cat_null, cat_int, cat_long, rf_cat]) ?_
  intro p e s m args below meth c C hin
  have i6 : ∀ w ∈ u_ws RX5 TX5 16, w ∈ wsX5_value := by decide +kernel
  have hm := mR.rf h0
  have hn := hO.1
  have hl := hO.2.1
  refine w_aload_n C 0 dX5_value_0 rfl rfl (by first | rfl | exact isRef_rf _) ?_
  refine w_aload_n C 0 dX5_value_1 rfl rfl (by first | rfl | exact isRef_rf _) ?_
  refine w_iload_n C 1 dX5_value_2 rfl rfl ?_
  refine w_callV (ci := 6) (As := [.int j]) (rest := [.ref mo]) C (cwV 1 C.1.2.2.2.2 gX5_value_X5_isGate rfl rfl rfl (by decide +kernel) ⟨Nat.le_of_ble_eq_true rfl, Nat.le_of_ble_eq_true rfl⟩) hm.o rfl (by decide) rfl rfl (by first | decide | simp [cat_ref, cat_null, cat_int, cat_long, rf_cat]) dX5_value_3 ⟨Nat.le_of_ble_eq_true rfl, Nat.le_of_ble_eq_true rfl⟩ (c_isGateF l G _ hm.2 hv hO hj) (fun rv z2 h9 => ?_)
  obtain ⟨rfl, e9⟩ := h9
  replace e9 := e9.symm
  subst e9
  refine w_if_ne (tgt := 13) C dX5_value_6 (by decide) (fun c1 => ?_) (fun c1 => ?_)
  · exact absurd rfl c1
  · refine w_iconst (v := 1) C dX5_value_9 (by decide) ?_
    refine w_goto (tgt := 14) C dX5_value_10 (by decide) ?_
    refine w_iconst (v := 0) C dX5_value_14 (by decide) ?_
    refine w_callV (ci := 6) (As := [.int 1, .int 0]) (rest := []) C (cwV 2 C.1.2.2.2.2 gX5_value_X5_fails rfl rfl rfl (by decide +kernel) ⟨Nat.le_of_ble_eq_true rfl, Nat.le_of_ble_eq_true rfl⟩) hm.o rfl (by decide) rfl rfl (by first | decide | simp [cat_ref, cat_null, cat_int, cat_long, rf_cat]) dX5_value_15 ⟨Nat.le_of_ble_eq_true rfl, Nat.le_of_ble_eq_true rfl⟩ (c_fails l G _ hm.2 (t := 1) (r := 1) (Or.inl ⟨rfl, rfl, rfl⟩)) (fun rv z1 h9 => ?_)
    obtain ⟨rfl, hm1⟩ := h9
    replace hm := hm.tr hm1
    refine w_if_eq (tgt := 23) C dX5_value_18 (by decide) (fun c2 => ?_) (fun c2 => ?_)
    · exact absurd c2 (by decide)
    · refine w_iconst (v := 0) C dX5_value_21 (by decide) ?_
      exact w_iret C dX5_value_22 ⟨⟨_, rfl⟩, hm⟩
set_option maxHeartbeats 4000000 in
set_option maxRecDepth 100000 in
theorem c_mround (l : Launch) (G : Gx) (z : Sto) {mo : Nat} {A : Nat → Nat} {I : Nat → Int32} {M : Nat → Nat → Int32} {N : NT} (h0 : mst z mo A I M) (hv : mv I M N) (hO : nOK N) {i : Nat} (hi : i < nN N) : Ct l yX5_round wsX5_round ({ frames := 3, cells := 0, slots := 0, locals := 90 } : Room) G z [.ref mo, .int (nI i)] (fun rv z' => ∃ I' M', mR z z' mo A I' M' ∧ I' 192 = 0 ∧ rv = some (.int (nR N (nRC N) i)) ∧ mv I' M' N) := by
  refine ct_of (cc := cX5_round) (maxL := 2) (ret := (some .int)) (lv0 := [(0, .ref mo), (1, .int (nI i))]) (by decide) rfl (by simp [lg_sl, cat_ref, cat_null, cat_int, cat_long, rf_cat]) (by simp [lv_args, cat_ref, cat_null, cat_int, cat_long, rf_cat]) ?_
  intro p e s m args below meth c C hin
  have i6 : ∀ w ∈ u_ws RX5 TX5 16, w ∈ wsX5_round := by decide +kernel
  have hm := mR.rf h0
  have hn := hO.1
  have hl := hO.2.1
  refine w_aload_n C 0 dX5_round_0 rfl rfl (by first | rfl | exact isRef_rf _) ?_
  refine w_aload_n C 0 dX5_round_1 rfl rfl (by first | rfl | exact isRef_rf _) ?_
  refine w_iload_n C 1 dX5_round_2 rfl rfl ?_
  refine w_callV (ci := 6) (As := [.int (nI i)]) (rest := [.ref mo]) C (cwV 1 C.1.2.2.2.2 gX5_round_X5_isGate rfl rfl rfl (by decide +kernel) ⟨Nat.le_of_ble_eq_true rfl, Nat.le_of_ble_eq_true rfl⟩) hm.o rfl (by decide) rfl rfl (by first | decide | simp [cat_ref, cat_null, cat_int, cat_long, rf_cat]) dX5_round_3 ⟨Nat.le_of_ble_eq_true rfl, Nat.le_of_ble_eq_true rfl⟩ (c_isGateT l G _ hm.2 hv hO (i := i) (by omega)) (fun rv z2 h9 => ?_)
  obtain ⟨rfl, e9⟩ := h9
  replace e9 := e9.symm
  subst e9
  refine w_if_ne (tgt := 13) C dX5_round_6 (by decide) (fun c1 => ?_) (fun c1 => ?_)
  · refine w_iconst (v := 0) C dX5_round_13 (by decide) ?_
    refine w_iconst (v := 0) C dX5_round_14 (by decide) ?_
    refine w_callV (ci := 6) (As := [.int 0, .int 0]) (rest := []) C (cwV 2 C.1.2.2.2.2 gX5_round_X5_fails rfl rfl rfl (by decide +kernel) ⟨Nat.le_of_ble_eq_true rfl, Nat.le_of_ble_eq_true rfl⟩) hm.o rfl (by decide) rfl rfl (by first | decide | simp [cat_ref, cat_null, cat_int, cat_long, rf_cat]) dX5_round_15 ⟨Nat.le_of_ble_eq_true rfl, Nat.le_of_ble_eq_true rfl⟩ (c_fails l G _ hm.2 (Or.inr (Or.inr ⟨rfl, rfl, rfl, rfl⟩))) (fun rv z1 h9 => ?_)
    obtain ⟨rfl, hm1⟩ := h9
    replace hm := hm.tr hm1
    replace hv := hv.P (f := 192) 0 (by decide) (by decide) (by decide)
    refine w_if_eq (tgt := 23) C dX5_round_18 (by decide) (fun c2 => ?_) (fun c2 => ?_)
    · refine w_aload_n C 0 dX5_round_23 rfl rfl (by first | rfl | exact isRef_rf _) ?_
      refine w_callV (ci := 6) (As := []) (rest := []) C (cwV 0 C.1.2.2.2.2 gX5_round_X5_spread rfl rfl rfl (by decide +kernel) ⟨Nat.le_of_ble_eq_true rfl, Nat.le_of_ble_eq_true rfl⟩) hm.o rfl (by decide) rfl rfl (by first | decide | simp [cat_ref, cat_null, cat_int, cat_long, rf_cat]) dX5_round_24 ⟨Nat.le_of_ble_eq_true rfl, Nat.le_of_ble_eq_true rfl⟩ (c_mspread l G _ hm.2 hv hO) (fun rv z1 h9 => ?_)
      obtain ⟨I2, M2, rfl, hm2, hk2, hI2, hVR, h204⟩ := h9
      replace hm := hm.tr hm2
      replace hv := mv_sp hv hk2 hI2
      refine w_pop C dX5_round_27 (by first | rfl | exact rf_cat _) ?_
      refine w_aload_n C 0 dX5_round_28 rfl rfl (by first | rfl | exact isRef_rf _) ?_
      refine w_getRs (ci := 6) (k := 11) (f := 203) C rfl i6 (by decide +kernel) (by decide) (by decide) rfl rfl dX5_round_29 hm.o (hm.r 203 rfl) ?_
      refine w_iload_n C 1 dX5_round_32 rfl rfl ?_
      refine w_iald C dX5_round_33 (hm.a 203 rfl rfl) rfl (hm.q 203 rfl (L := 600) rfl (by omega)) (hm.b 203 rfl) ((hm.e 203 rfl _).trans (hVR _ hi).2) ?_
      exact w_iret C dX5_round_34 ⟨_, _, hm, (hI2 192 (by decide)).trans (if_pos rfl), rfl, hv⟩
    · exact absurd rfl c2
  · exact absurd c1 (by decide)
set_option maxHeartbeats 4000000 in
set_option maxRecDepth 100000 in
theorem x_mround (l : Launch) (G : Gx) (z : Sto) {mo : Nat} {A : Nat → Nat} {I : Nat → Int32} {M : Nat → Nat → Int32} {N : NT} (h0 : mst z mo A I M) (hv : mv I M N) (hO : nOK N) {j : Int32} (hj : j < 0 ∨ nI (nN N) ≤ j) : Ct l yX5_round wsX5_round ({ frames := 1, cells := 0, slots := 0, locals := 30 } : Room) G z [.ref mo, .int j] (fun rv z' => (∃ v, rv = some (.int v)) ∧ mR z z' mo A (va_up I 192 1) M) := by
  refine ct_of (cc := cX5_round) (maxL := 2) (ret := (some .int)) (lv0 := [(0, .ref mo), (1, .int j)]) (by decide) rfl (by simp [lg_sl, cat_ref, cat_null, cat_int, cat_long, rf_cat]) (by simp [lv_args, cat_ref, cat_null, cat_int, cat_long, rf_cat]) ?_
  intro p e s m args below meth c C hin
  have i6 : ∀ w ∈ u_ws RX5 TX5 16, w ∈ wsX5_round := by decide +kernel
  have hm := mR.rf h0
  have hn := hO.1
  have hl := hO.2.1
  refine w_aload_n C 0 dX5_round_0 rfl rfl (by first | rfl | exact isRef_rf _) ?_
  refine w_aload_n C 0 dX5_round_1 rfl rfl (by first | rfl | exact isRef_rf _) ?_
  refine w_iload_n C 1 dX5_round_2 rfl rfl ?_
  refine w_callV (ci := 6) (As := [.int j]) (rest := [.ref mo]) C (cwV 1 C.1.2.2.2.2 gX5_round_X5_isGate rfl rfl rfl (by decide +kernel) ⟨Nat.le_of_ble_eq_true rfl, Nat.le_of_ble_eq_true rfl⟩) hm.o rfl (by decide) rfl rfl (by first | decide | simp [cat_ref, cat_null, cat_int, cat_long, rf_cat]) dX5_round_3 ⟨Nat.le_of_ble_eq_true rfl, Nat.le_of_ble_eq_true rfl⟩ (c_isGateF l G _ hm.2 hv hO hj) (fun rv z2 h9 => ?_)
  obtain ⟨rfl, e9⟩ := h9
  replace e9 := e9.symm
  subst e9
  refine w_if_ne (tgt := 13) C dX5_round_6 (by decide) (fun c1 => ?_) (fun c1 => ?_)
  · exact absurd rfl c1
  · refine w_iconst (v := 1) C dX5_round_9 (by decide) ?_
    refine w_goto (tgt := 14) C dX5_round_10 (by decide) ?_
    refine w_iconst (v := 0) C dX5_round_14 (by decide) ?_
    refine w_callV (ci := 6) (As := [.int 1, .int 0]) (rest := []) C (cwV 2 C.1.2.2.2.2 gX5_round_X5_fails rfl rfl rfl (by decide +kernel) ⟨Nat.le_of_ble_eq_true rfl, Nat.le_of_ble_eq_true rfl⟩) hm.o rfl (by decide) rfl rfl (by first | decide | simp [cat_ref, cat_null, cat_int, cat_long, rf_cat]) dX5_round_15 ⟨Nat.le_of_ble_eq_true rfl, Nat.le_of_ble_eq_true rfl⟩ (c_fails l G _ hm.2 (t := 1) (r := 1) (Or.inl ⟨rfl, rfl, rfl⟩)) (fun rv z1 h9 => ?_)
    obtain ⟨rfl, hm1⟩ := h9
    replace hm := hm.tr hm1
    refine w_if_eq (tgt := 23) C dX5_round_18 (by decide) (fun c2 => ?_) (fun c2 => ?_)
    · exact absurd c2 (by decide)
    · refine w_iconst (v := 0) C dX5_round_21 (by decide) ?_
      exact w_iret C dX5_round_22 ⟨⟨_, rfl⟩, hm⟩
