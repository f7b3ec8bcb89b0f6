/-! ===== Long.bitCount; lanes on numbers ===== -/
theorem m3_b : m3 8 = 3689348814741910323 := by decide +kernel
theorem m5_b : m5 8 < 2 ^ 64 := by decide +kernel
theorem m15_b : m15 8 < 2 ^ 64 := by decide +kernel
set_option maxHeartbeats 4000000 in
set_option maxRecDepth 100000 in
theorem c_bitCount (l : Launch) (G : Gx) (z : Sto) {x : Int64} : Ct l yJ13_bitCount_95d88 wsJ13_bitCount_95d88 ({ frames := 0, cells := 0, slots := 0, locals := 0 } : Room) G z [.long x] (fun rv z' => rv = some (.int (nI (cnt (fun b => tb x b) 64))) ∧ z' = z) := by
  refine ct_of (cc := cJ13_bitCount_95d88) (maxL := 2) (ret := (some .int)) (lv0 := [(0, .long x)]) (by decide) rfl (by simp [lg_sl, cat_ref, cat_null, cat_int, cat_long, rf_cat]) (by simp [lv_args, cat_ref, cat_null, cat_int, cat_long, rf_cat]) ?_
  intro p e s m args below meth c C hin
  obtain ⟨n, hn, rfl⟩ := wb_of x
  have hq := pop_end n hn
  have b1 : g1 8 n ≤ n := Nat.sub_le _ _
  have b2 : g2 8 (g1 8 n) ≤ 2 * m3 8 := by
    unfold g2
    have h1 : (g1 8 n &&& m3 8) ≤ m3 8 := Nat.and_le_right
    have h2 : ((g1 8 n / 4) &&& m3 8) ≤ m3 8 := Nat.and_le_right
    omega
  have c3 := m3_b
  have ms := m5_b
  have m15s := m15_b
  obtain ⟨n1, e1⟩ : ∃ n1, n1 = g1 8 n := ⟨_, rfl⟩
  obtain ⟨n2, e2⟩ : ∃ n2, n2 = g2 8 n1 := ⟨_, rfl⟩
  obtain ⟨n3, e3⟩ : ∃ n3, n3 = g3 8 n2 := ⟨_, rfl⟩
  obtain ⟨n4, e4⟩ : ∃ n4, n4 = n3 + n3 / 256 := ⟨_, rfl⟩
  obtain ⟨n5, e5⟩ : ∃ n5, n5 = n4 + n4 / 65536 := ⟨_, rfl⟩
  obtain ⟨n6, e6⟩ : ∃ n6, n6 = n5 + n5 / 4294967296 := ⟨_, rfl⟩
  rw [← e1, ← e2, ← e3] at hq
  have hfin := hq.2 n3 rfl n4 e4 n5 e5 n6 e6
  have hb3 := hq.1
  rw [← e1, ← e2] at b2
  rw [← e1] at b1
  have hcnt : cnt (fun b => tb (lN n) b) 64 = cnt (fun b => n.testBit b) 64 := cnt_congr (fun b hb => tb_lN n hb)
  refine w_lload_n C 0 dJ13_bitCount_95d88_0 rfl rfl ?_
  refine w_lload_n C 0 dJ13_bitCount_95d88_1 rfl rfl ?_
  refine w_iconst (v := nI 1) C dJ13_bitCount_95d88_2 (by decide) ?_
  refine w_lushr C dJ13_bitCount_95d88_3 (wb_shr (n := n) (k := 1) (by omega) (by decide)) ?_
  refine w_ldc2 (v := lN (m5 8)) C dJ13_bitCount_95d88_4 (by decide +kernel) ?_
  refine w_land C dJ13_bitCount_95d88_7 ?_
  refine w_lsub C dJ13_bitCount_95d88_8 ?_
  refine w_eq (st' := [.long (lN n1)]) (by rw [Nat.pow_one, wb_and (by omega) ms, lN_sub (Nat.le_trans Nat.and_le_left (Nat.div_le_self _ _)), e1]; rfl) ?_
  refine w_lstore_n (lvq := [(0, _)]) C dJ13_bitCount_95d88_9 rfl (by decide) rfl ?_
  refine w_lload_n C 0 dJ13_bitCount_95d88_10 rfl rfl ?_
  refine w_ldc2 (v := lN (m3 8)) C dJ13_bitCount_95d88_11 (by decide +kernel) ?_
  refine w_land C dJ13_bitCount_95d88_14 ?_
  refine w_lload_n C 0 dJ13_bitCount_95d88_15 rfl rfl ?_
  refine w_iconst (v := nI 2) C dJ13_bitCount_95d88_16 (by decide) ?_
  refine w_lushr C dJ13_bitCount_95d88_17 (wb_shr (n := n1) (k := 2) (by omega) (by decide)) ?_
  refine w_ldc2 (v := lN (m3 8)) C dJ13_bitCount_95d88_18 (by decide +kernel) ?_
  refine w_land C dJ13_bitCount_95d88_21 ?_
  refine w_ladd C dJ13_bitCount_95d88_22 ?_
  refine w_eq (st' := [.long (lN n2)]) (by rw [wb_and (by omega) (by omega), wb_and (by omega) (by omega), lN_add, e2]; rfl) ?_
  refine w_lstore_n (lvq := [(0, _)]) C dJ13_bitCount_95d88_23 rfl (by decide) rfl ?_
  refine w_lload_n C 0 dJ13_bitCount_95d88_24 rfl rfl ?_
  refine w_lload_n C 0 dJ13_bitCount_95d88_25 rfl rfl ?_
  refine w_iconst (v := nI 4) C dJ13_bitCount_95d88_26 (by decide) ?_
  refine w_lushr C dJ13_bitCount_95d88_27 (wb_shr (n := n2) (k := 4) (by omega) (by decide)) ?_
  refine w_ladd C dJ13_bitCount_95d88_28 ?_
  refine w_ldc2 (v := lN (m15 8)) C dJ13_bitCount_95d88_29 (by decide +kernel) ?_
  refine w_land C dJ13_bitCount_95d88_32 ?_
  refine w_eq (st' := [.long (lN n3)]) (by rw [lN_add, wb_and (by omega) m15s, e3]; rfl) ?_
  refine w_lstore_n (lvq := [(0, _)]) C dJ13_bitCount_95d88_33 rfl (by decide) rfl ?_
  refine w_lload_n C 0 dJ13_bitCount_95d88_34 rfl rfl ?_
  refine w_lload_n C 0 dJ13_bitCount_95d88_35 rfl rfl ?_
  refine w_bipush (v := nI 8) C dJ13_bitCount_95d88_36 (by decide) ?_
  refine w_lushr C dJ13_bitCount_95d88_38 (wb_shr (n := n3) (k := 8) (by omega) (by decide)) ?_
  refine w_ladd C dJ13_bitCount_95d88_39 ?_
  refine w_eq (st' := [.long (lN n4)]) (by rw [lN_add, e4]) ?_
  refine w_lstore_n (lvq := [(0, _)]) C dJ13_bitCount_95d88_40 rfl (by decide) rfl ?_
  refine w_lload_n C 0 dJ13_bitCount_95d88_41 rfl rfl ?_
  refine w_lload_n C 0 dJ13_bitCount_95d88_42 rfl rfl ?_
  refine w_bipush (v := nI 16) C dJ13_bitCount_95d88_43 (by decide) ?_
  refine w_lushr C dJ13_bitCount_95d88_45 (wb_shr (n := n4) (k := 16) (by omega) (by decide)) ?_
  refine w_ladd C dJ13_bitCount_95d88_46 ?_
  refine w_eq (st' := [.long (lN n5)]) (by rw [lN_add, e5]) ?_
  refine w_lstore_n (lvq := [(0, _)]) C dJ13_bitCount_95d88_47 rfl (by decide) rfl ?_
  refine w_lload_n C 0 dJ13_bitCount_95d88_48 rfl rfl ?_
  refine w_lload_n C 0 dJ13_bitCount_95d88_49 rfl rfl ?_
  refine w_bipush (v := nI 32) C dJ13_bitCount_95d88_50 (by decide) ?_
  refine w_lushr C dJ13_bitCount_95d88_52 (wb_shr (n := n5) (k := 32) (by omega) (by decide)) ?_
  refine w_ladd C dJ13_bitCount_95d88_53 ?_
  refine w_eq (st' := [.long (lN n6)]) (by rw [lN_add, e6]) ?_
  refine w_lstore_n (lvq := [(0, _)]) C dJ13_bitCount_95d88_54 rfl (by decide) rfl ?_
  refine w_lload_n C 0 dJ13_bitCount_95d88_55 rfl rfl ?_
  refine w_l2i C dJ13_bitCount_95d88_56 (lN_i n6) ?_
  refine w_bipush (v := nI 127) C dJ13_bitCount_95d88_57 (by decide) ?_
  refine w_iand C dJ13_bitCount_95d88_59 ?_
  exact w_iret C dJ13_bitCount_95d88_60 ⟨by rw [nx_and, Nat.and_two_pow_sub_one_eq_mod n6 7, hcnt, ← hfin], rfl⟩
/-! ===== what is known grows ===== -/
def le2 (a b : Int32) : Prop := a = 2 ∨ a = b
theorem le2.tr {a b c : Int32} (h1 : le2 a b) (h2 : le2 b c) : le2 a c := by
  rcases h1 with rfl | rfl
  · exact Or.inl rfl
  · exact h2
def gvN (N : NT) (w : Nat → Int32) (i : Nat) : Int32 := gvf (dcd (nSo N i)) ((nFd N i).map (fun x => tkv (w x.1) x.2))
theorem tkv_2 (g : Int32) : tkv 2 g = 2 := rfl
theorem gvf_mono {dec : Int32} (hd : dec ≠ 2) (L : List (Nat × Int32)) (w v : Nat → Int32) (h : ∀ x ∈ L, le2 (w x.1) (v x.1)) : le2 (gvf dec (L.map (fun x => tkv (w x.1) x.2))) (gvf dec (L.map (fun x => tkv (v x.1) x.2))) := by
  unfold gvf
  by_cases h1 : dec ∈ L.map (fun x => tkv (w x.1) x.2)
  · rw [if_pos h1]
    obtain ⟨x, hx, e⟩ := List.mem_map.mp h1
    rcases h x hx with q | q
    · rw [q, tkv_2] at e; exact absurd e.symm hd
    · rw [q] at e
      rw [if_pos (List.mem_map.mpr ⟨x, hx, e⟩)]
      exact Or.inr rfl
  · rw [if_neg h1]
    by_cases h2 : (2 : Int32) ∈ L.map (fun x => tkv (w x.1) x.2)
    · rw [if_pos h2]; exact Or.inl rfl
    · have e : L.map (fun x => tkv (v x.1) x.2) = L.map (fun x => tkv (w x.1) x.2) := List.map_congr_left (fun x hx => by
        rcases h x hx with q | q
        · exact absurd (List.mem_map.mpr ⟨x, hx, by rw [q, tkv_2]⟩) h2
        · rw [q])
      rw [e, if_neg h1, if_neg h2]
      exact Or.inr rfl
theorem gvN_mono (N : NT) {i : Nat} {w v : Nat → Int32} (h : ∀ x ∈ nFd N i, le2 (w x.1) (v x.1)) : le2 (gvN N w i) (gvN N v i) := gvf_mono (dcd_ne _) _ w v h
theorem nV_log {N : NT} {k i : Nat} (h : isLog (nSo N i) = true) (h2 : nV N k i = 2) : nV N (k + 1) i = gvN N (nV N k) i := by
  show (if isLog (nSo N i) = true ∧ nV N k i = 2 then gvf _ _ else _) = _
  rw [if_pos ⟨h, h2⟩]
  rfl
theorem nV_le (N : NT) (k i : Nat) : le2 (nV N k i) (nV N (k + 1) i) := by
  by_cases h : nV N k i = 2
  · exact Or.inl h
  · exact Or.inr (nV_keep N h).symm
theorem nV_gv (N : NT) {i : Nat} (hl : isLog (nSo N i) = true) : ∀ k, le2 (nV N k i) (gvN N (nV N k) i) := by
  intro k
  induction k with
  | zero => left; show (if isLog (nSo N i) then (2 : Int32) else nHd N i) = 2; rw [hl]; rfl
  | succ k ih =>
    have hm := gvN_mono N (i := i) (w := nV N k) (v := nV N (k + 1)) (fun x _ => nV_le N k x.1)
    by_cases h : nV N k i = 2
    · rw [nV_log hl h]; exact hm
    · rw [nV_keep N h]; exact ih.tr hm
theorem rc_ad (N : NT) : ∀ (f k : Nat), nUn N k ≤ f → nAd N (rcf N f k) = 0 := by
  intro f
  induction f with
  | zero =>
    intro k h
    have := nUn_succ N k
    show nAd N k = 0
    omega
  | succ f ih =>
    intro k h
    show nAd N (if nAd N k = 0 then k else rcf N f (k + 1)) = 0
    by_cases h0 : nAd N k = 0
    · rw [if_pos h0]; exact h0
    · rw [if_neg h0]
      have := nUn_succ N k
      exact ih (k + 1) (by omega)
theorem nV_fix {N : NT} (hO : nOK N) {i : Nat} (hi : i < nN N) (hl : isLog (nSo N i) = true) : nV N (nRC N) i = gvN N (nV N (nRC N)) i := by
  have h0 : nAd N (nRC N) = 0 := rc_ad N 600 0 (by have := cnt_le (fun i => decide (nV N 0 i = 2)) (nN N); have := hO.1; unfold nUn; omega)
  by_cases h : nV N (nRC N) i = 2
  · rw [← nV_log hl h]
    exact (nAd_zero h0 hi).symm
  · exact (nV_gv N hl (nRC N)).resolve_left h
/-- a fixed point under what spreads in the end is it -/
theorem fix_all {N : NT} (hO : nOK N) {w : Nat → Int32} (h1 : ∀ i, i < nN N → le2 (w i) (nV N (nRC N) i)) (h2 : ∀ i, i < nN N → isLog (nSo N i) = true → w i = gvN N w i) (h3 : ∀ i, i < nN N → isLog (nSo N i) = false → w i = nV N (nRC N) i) : ∀ i, i < nN N → w i = nV N (nRC N) i := by
  have key : ∀ k i, i < nN N → le2 (nV N k i) (w i) := by
    intro k
    induction k with
    | zero =>
      intro i hi
      cases hl : isLog (nSo N i) with
      | true => left; show (if isLog (nSo N i) then (2 : Int32) else nHd N i) = 2; rw [hl]; rfl
      | false => right; rw [h3 i hi hl, nV_noLog hl, nV_noLog hl]
    | succ k ih =>
      intro i hi
      cases hl : isLog (nSo N i) with
      | true =>
        by_cases h : nV N k i = 2
        · rw [nV_log hl h, h2 i hi hl]
          exact gvN_mono N (fun x hx => ih x.1 (hO.2.2.1 _ (nFd_mem hx)).2.1)
        · rw [nV_keep N h]; exact ih i hi
      | false => right; rw [h3 i hi hl, nV_noLog hl, nV_noLog hl]
  intro i hi
  rcases h1 i hi with q | q
  · rcases key (nRC N) i hi with r | r
    · rw [q, r]
    · exact r.symm
  · exact q
/-! ===== lanes ===== -/
abbrev Wt : Type := Nat → Nat → Int32
def LInv (N : NT) (Vi W : Wt) : Prop := ∀ b, b < 64 → (∀ i, i < nN N → le2 (W b i) (Vi b i)) ∧ (∀ i, i < nN N → isLog (nSo N i) = true → le2 (W b i) (gvN N (W b) i)) ∧ (∀ i, i < nN N → isLog (nSo N i) = false → W b i = Vi b i)
def Vfix (N : NT) (Vi : Wt) : Prop := ∀ b, b < 64 → ∀ i, i < nN N → isLog (nSo N i) = true → Vi b i = gvN N (Vi b) i
def updW (N : NT) (W : Wt) (i : Nat) : Wt := fun b => va_up (W b) i (gvN N (W b) i)
def unW (N : NT) (W : Wt) : Nat := sumN (fun b => cnt (fun i => decide (W b i = 2)) (nN N)) 64
theorem upd_le {N : NT} {W : Wt} {Vi : Wt} (h : LInv N Vi W) {i : Nat} (hi : i < nN N) (hl : isLog (nSo N i) = true) {b : Nat} (hb : b < 64) (j : Nat) (hj : j < nN N) : le2 (W b j) (updW N W i b j) := by
  by_cases hji : j = i
  · subst hji
    show le2 _ (va_up (W b) j (gvN N (W b) j) j)
    rw [va_up_self]
    exact (h b hb).2.1 j hj hl
  · show le2 _ (va_up (W b) i (gvN N (W b) i) j)
    rw [va_up_ne _ _ hji]
    exact Or.inr rfl
theorem LInv_upd {N : NT} (hO : nOK N) {W Vi : Wt} (hV : Vfix N Vi) (h : LInv N Vi W) {i : Nat} (hi : i < nN N) (hl : isLog (nSo N i) = true) : LInv N Vi (updW N W i) := by
  intro b hb
  obtain ⟨a1, a2, a3⟩ := h b hb
  have hfd : ∀ j, ∀ x ∈ nFd N j, x.1 < nN N := fun j x hx => (hO.2.2.1 _ (nFd_mem hx)).2.1
  have un : updW N W i b i = gvN N (W b) i := va_up_self _ _ _
  have uo : ∀ j, j ≠ i → updW N W i b j = W b j := fun j hj => va_up_ne _ _ hj
  have mono : ∀ j, le2 (gvN N (W b) j) (gvN N (updW N W i b) j) := fun j => gvN_mono N (fun x hx => upd_le h hi hl hb x.1 (hfd j x hx))
  refine ⟨fun j hj => ?_, fun j hj hlj => ?_, fun j hj hlj => ?_⟩
  · by_cases hji : j = i
    · subst hji
      rw [un, hV b hb j hj hl]
      exact gvN_mono N (fun x hx => a1 x.1 (hfd j x hx))
    · rw [uo j hji]; exact a1 j hj
  · by_cases hji : j = i
    · subst hji
      rw [un]; exact mono j
    · rw [uo j hji]; exact (a2 j hj hlj).tr (mono j)
  · have hji : j ≠ i := fun e => by rw [e, hl] at hlj; cases hlj
    rw [uo j hji]; exact a3 j hj hlj
theorem cnt_mono {P Q : Nat → Bool} {n : Nat} (h : ∀ i, i < n → P i = true → Q i = true) : cnt P n ≤ cnt Q n := by
  induction n with
  | zero => exact Nat.le_refl _
  | succ n ih =>
    unfold cnt
    have h1 := ih (fun i hi => h i (by omega))
    have h2 := h n (by omega)
    cases hP : P n with
    | true => rw [h2 hP]; simp; exact h1
    | false => simp; omega
theorem sumN_lt {f g : Nat → Nat} {n k : Nat} (hk : k < n) (h : ∀ i, i < n → f i ≤ g i) (hlt : f k < g k) : sumN f n < sumN g n := by
  induction n with
  | zero => omega
  | succ n ih =>
    unfold sumN
    have hn := h n (by omega)
    by_cases hkn : k = n
    · subst hkn
      have := sumN_le (f := f) (g := g) (n := k) (fun i hi => h i (by omega))
      omega
    · have := ih (by omega) (fun i hi => h i (by omega))
      omega
theorem unW_lt {N : NT} {W Vi : Wt} (h : LInv N Vi W) {i : Nat} (hi : i < nN N) (hl : isLog (nSo N i) = true) {b0 : Nat} (hb0 : b0 < 64) (hne : ¬ gvN N (W b0) i = W b0 i) : unW N (updW N W i) < unW N W := by
  have le : ∀ b, b < 64 → ∀ j, j < nN N → updW N W i b j = 2 → W b j = 2 := fun b hb j hj e => by
    rcases upd_le h hi hl hb j hj with q | q
    · exact q
    · exact q.trans e
  refine sumN_lt (k := b0) hb0 (fun b hb => cnt_mono (fun j hj q => decide_eq_true (le b hb j hj (of_decide_eq_true q)))) ?_
  have h2 : W b0 i = 2 := ((h b0 hb0).2.1 i hi hl).resolve_right (fun q => hne q.symm)
  have un : updW N W i b0 i = gvN N (W b0) i := va_up_self _ _ _
  have hn2 : ¬ updW N W i b0 i = 2 := fun e => hne (by rw [← un, e, h2])
  have := cnt_add (P := fun j => decide (updW N W i b0 j = 2)) (Q := fun j => decide (W b0 j = 2)) hi (decide_eq_false hn2) (decide_eq_true h2) (fun j hj hji => by
    have uo : updW N W i b0 j = W b0 j := va_up_ne _ _ hji
    rw [uo])
  omega
theorem lanes_done {N : NT} (hO : nOK N) {hd : Nat → Nat → Int32} (hOb : ∀ b, b < 64 → nOK (nN N, nSo N, hd b, nFL N)) {W : Wt} (h : LInv N (fun b => nV (nN N, nSo N, hd b, nFL N) (nRC (nN N, nSo N, hd b, nFL N))) W) (hs : ∀ b, b < 64 → ∀ i, i < nN N → isLog (nSo N i) = true → W b i = gvN N (W b) i) : ∀ b, b < 64 → ∀ i, i < nN N → W b i = nV (nN N, nSo N, hd b, nFL N) (nRC (nN N, nSo N, hd b, nFL N)) i := by
  intro b hb
  exact fix_all (hOb b hb) (h b hb).1 (hs b hb) (h b hb).2.2
theorem lanes_fix {N : NT} {hd : Nat → Nat → Int32} (hOb : ∀ b, b < 64 → nOK (nN N, nSo N, hd b, nFL N)) : Vfix N (fun b => nV (nN N, nSo N, hd b, nFL N) (nRC (nN N, nSo N, hd b, nFL N))) := fun b hb i hi hl => nV_fix (hOb b hb) hi hl
theorem lanes_start {N : NT} (hd : Nat → Nat → Int32) : LInv N (fun b => nV (nN N, nSo N, hd b, nFL N) (nRC (nN N, nSo N, hd b, nFL N))) (fun b => nV (nN N, nSo N, hd b, nFL N) 0) := by
  intro b hb
  refine ⟨fun i hi => ?_, fun i hi hl => nV_gv (nN N, nSo N, hd b, nFL N) hl 0, fun i hi hl => ?_⟩
  · have : ∀ k, le2 (nV (nN N, nSo N, hd b, nFL N) 0 i) (nV (nN N, nSo N, hd b, nFL N) k i) := by
      intro k
      induction k with
      | zero => exact Or.inr rfl
      | succ k ih => exact ih.tr (nV_le _ k i)
    exact this _
  · exact (nV_noLog (N := (nN N, nSo N, hd b, nFL N)) hl 0).trans (nV_noLog (N := (nN N, nSo N, hd b, nFL N)) hl _).symm

