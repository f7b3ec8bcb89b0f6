/-! ===== TernaryNet: cut, feed ===== -/
def nCut (N : NT) (i : Nat) : NT := (nN N, nSo N, nHd N, (nFL N).filter (fun t => !decide (t.1 = i)))
def nFeed (N : NT) (t f : Nat) (g : Int32) : NT := (nN N, nSo N, nHd N, nFL N ++ [(t, f, g)])
theorem nFd_cut (N : NT) (i j : Nat) : nFd (nCut N i) j = if j = i then [] else nFd N j := by
  have e : nFd (nCut N i) j = (((((nFL N).filter (fun t => !decide (t.1 = i))).filter (fun t => decide (t.1 = j))).reverse).map (fun t => t.2)) := rfl
  rw [e, List.filter_filter]
  by_cases h : j = i
  · rw [if_pos h]
    have : (nFL N).filter (fun t => decide (t.1 = j) && !decide (t.1 = i)) = [] := List.filter_eq_nil_iff.mpr (fun t _ => by rw [h]; simp)
    rw [this]; rfl
  · rw [if_neg h]
    unfold nFd
    congr 2
    refine List.filter_congr (fun t _ => ?_)
    by_cases ht : t.1 = j
    · have : ¬ t.1 = i := fun e => h (ht.symm.trans e)
      simp [ht, h]
    · simp [ht]
theorem nFd_feed (N : NT) (t f : Nat) (g : Int32) (j : Nat) : nFd (nFeed N t f g) j = if j = t then (f, g) :: nFd N j else nFd N j := by
  have e : nFd (nFeed N t f g) j = ((((nFL N ++ [(t, f, g)]).filter (fun t => decide (t.1 = j))).reverse).map (fun t => t.2)) := rfl
  rw [e, List.filter_append]
  by_cases h : j = t
  · rw [if_pos h]
    have : [(t, f, g)].filter (fun t => decide (t.1 = j)) = [(t, f, g)] := by simp [h]
    rw [this, List.reverse_append, List.map_append]
    rfl
  · rw [if_neg h]
    have : [(t, f, g)].filter (fun t => decide (t.1 = j)) = [] := by
      have h2 : ¬ t = j := fun q => h q.symm
      simp [h2]
    rw [this, List.append_nil]
    rfl
theorem flt_len (L : List (Nat × Nat × Int32)) (p : Nat × Nat × Int32 → Bool) : L.length = (L.filter (fun t => !p t)).length + (L.filter p).length := by
  induction L with
  | nil => rfl
  | cons t L ih =>
    rw [List.filter_cons, List.filter_cons, List.length_cons]
    cases p t with
    | true => simp; omega
    | false => simp; omega
theorem cut_len (N : NT) (i : Nat) : (nFL N).length = (nFL (nCut N i)).length + (nFd N i).length := by
  rw [nFd_len]
  exact flt_len _ _
theorem nOK_cut {N : NT} (hO : nOK N) (i : Nat) : nOK (nCut N i) := by
  obtain ⟨a1, a2, a3, a4, a5, a6, a7, a8⟩ := hO
  refine ⟨a1, by have := cut_len N i; omega, fun t ht => a3 t (List.mem_filter.mp ht).1, a4, a5, a6, fun j hj hs => ?_, fun j hj hs => ?_⟩
  · rw [nFd_cut]
    split
    · exact Nat.zero_le _
    · exact a7 j hj hs
  · rw [nFd_cut]
    split
    · rfl
    · exact a8 j hj hs
theorem nOK_feed {N : NT} (hO : nOK N) {t f : Nat} {g : Int32} (ht : t < nN N) (hf : f < nN N) (hg : g = 0 ∨ g = 1) (hl : (nFL N).length < 2400) (hc : isLog (nSo N t) = true ∨ (nSo N t = 1 ∧ (nFd N t).length = 0)) : nOK (nFeed N t f g) := by
  obtain ⟨a1, a2, a3, a4, a5, a6, a7, a8⟩ := hO
  refine ⟨a1, ?_, fun y hy => ?_, a4, a5, a6, fun j hj hs => ?_, fun j hj hs => ?_⟩
  · show (nFL N ++ [(t, f, g)]).length ≤ 2400
    rw [List.length_append, List.length_singleton]; omega
  · rcases List.mem_append.mp hy with q | q
    · exact a3 y q
    · rw [List.mem_singleton.mp q]; exact ⟨ht, hf, hg⟩
  · rw [nFd_feed]
    have hs' : nSo N j = 1 := hs
    split
    · next e =>
      subst e
      rcases hc with q | q
      · rw [log_1 hs'] at q; cases q
      · rw [List.length_cons, q.2]; omega
    · exact a7 j hj hs
  · rw [nFd_feed]
    have hs' : nSo N j = 0 := hs
    split
    · next e =>
      subst e
      rcases hc with q | q
      · rw [log_0 hs'] at q; cases q
      · rw [hs'] at q; exact absurd q.1 (by decide)
    · exact a8 j hj hs
theorem lst_R {G : Gx} {z : Sto} {a m cap f b : Nat} {g : Nat → Nat} {v : Option Nat} (h : lst G z a m g cap) (hf : f ≠ 1) : lst G (putR z f b v) a m g cap :=
  lst_ext (z := z) (z' := putR z f b v) h (fun _ _ q => q) rfl (rR_Rf (fun e => hf e.symm) rfl) (fun _ _ _ => ⟨rfl, rfl⟩)
theorem rsep_of {z z' : Sto} {gl ol : Nat} (h : rsep z gl ol) (hL : sL z' = sL z) (hK : sK z' = sK z) (h1 : sR z' 1 gl = sR z 1 gl) (h2 : sR z' 1 ol = sR z 1 ol) : rsep z' gl ol :=
  ⟨h.1, fun d hd hi => by rw [h1] at hd; rw [h2]; exact h.2 d hd ⟨by rw [← hL]; exact hi.1, by rw [← hK]; exact hi.2⟩⟩
/-- old cells are as they were -/
def oF (z z' : Sto) : Prop := (∀ b k, is z b k → is z' b k) ∧ (∀ f b, b ∈ sL z → sI z' f b = sI z f b ∧ sJ z' f b = sJ z f b ∧ sR z' f b = sR z f b) ∧ ∀ b, b ∈ sL z → sN z' b = sN z b ∧ sE z' b = sE z b ∧ sF z' b = sF z b ∧ sQ z' b = sQ z b
theorem oF.tr {z z1 z2 : Sto} (h1 : oF z z1) (h2 : oF z1 z2) : oF z z2 := by
  obtain ⟨a1, a2, a3⟩ := h1
  obtain ⟨b1, b2, b3⟩ := h2
  have hL : ∀ b, b ∈ sL z → b ∈ sL z1 := fun b hb => (a1 b (sK z b) ⟨hb, rfl⟩).1
  refine ⟨fun b k h => b1 b k (a1 b k h), fun f b hb => ?_, fun b hb => ?_⟩
  · obtain ⟨c1, c2, c3⟩ := a2 f b hb
    obtain ⟨d1, d2, d3⟩ := b2 f b (hL b hb)
    exact ⟨d1.trans c1, d2.trans c2, d3.trans c3⟩
  · obtain ⟨c1, c2, c3, c4⟩ := a3 b hb
    obtain ⟨d1, d2, d3, d4⟩ := b3 b (hL b hb)
    exact ⟨d1.trans c1, d2.trans c2, d3.trans c3, d4.trans c4⟩
theorem oF_new {z : Sto} {q k : Nat} (h : q ∉ sL z) : oF z (newO z q k) := by
  have hne : ∀ b, b ∈ sL z → b ≠ q := fun b hb e => h (e ▸ hb)
  exact ⟨fun b k' hb => is_newO hb h, fun f b hb => ⟨by rw [I_nO, if_neg (hne b hb)], by rw [J_nO, if_neg (hne b hb)], by rw [R_nO, if_neg (hne b hb)]⟩, fun _ _ => ⟨rfl, rfl, rfl, rfl⟩⟩
theorem oF_I {z z' : Sto} {q f : Nat} {v : Int32} (h : oF z z') (hq : q ∉ sL z) : oF z (putI z' f q v) :=
  ⟨fun b k hb => h.1 b k hb, fun g b hb => ⟨rI_Ia (fun e => hq (e ▸ hb)) (h.2.1 g b hb).1, (h.2.1 g b hb).2⟩, fun b hb => h.2.2 b hb⟩
theorem oF_J {z z' : Sto} {q f : Nat} {v : Int64} (h : oF z z') (hq : q ∉ sL z) : oF z (putJ z' f q v) :=
  ⟨fun b k hb => h.1 b k hb, fun g b hb => ⟨(h.2.1 g b hb).1, rJ_Ja (fun e => hq (e ▸ hb)) (h.2.1 g b hb).2.1, (h.2.1 g b hb).2.2⟩, fun b hb => h.2.2 b hb⟩
theorem oF_R {z z' : Sto} {q f : Nat} {v : Option Nat} (h : oF z z') (hq : q ∉ sL z) : oF z (putR z' f q v) :=
  ⟨fun b k hb => h.1 b k hb, fun g b hb => ⟨(h.2.1 g b hb).1, (h.2.1 g b hb).2.1, rR_Ra (fun e => hq (e ▸ hb)) (h.2.1 g b hb).2.2⟩, fun b hb => h.2.2 b hb⟩
theorem oF.chn {z z' : Sto} (h : oF z z') : ∀ {L : List (Nat × Int32)} {r : Option Nat}, chn z r L → chn z' r L := by
  intro L
  induction L with
  | nil => intro r h; exact h
  | cons y tl ih =>
    intro r hc
    obtain ⟨a, e1, e2, e3, e4, e5, e6⟩ := hc
    exact ⟨a, e1, h.1 _ _ e2, (h.2.1 32 a e2.1).2.2.trans e3, h.1 _ _ e4, (h.2.1 33 a e2.1).1.trans e5, by rw [(h.2.1 34 a e2.1).2.2]; exact ih e6⟩
theorem oF.lst {z z' : Sto} (h : oF z z') {G : Gx} {a n cap : Nat} {f : Nat → Nat} (hl : lst G z a n f cap) : lst G z' a n f cap :=
  lst_ext hl h.1 (h.2.1 2 a hl.1.1).1 (h.2.1 1 a hl.1.1).2.2 (fun d _ hi => ⟨(h.2.2 d hi.1).1, (h.2.2 d hi.1).2.2.2⟩)
theorem oF.kfr {z z' : Sto} (h : oF z z') : kfr z z' := ⟨h.1, fun f b _ hb => (h.2.1 f b hb).1, fun f b _ hb => (h.2.1 f b hb).2.2, fun b hb => ⟨(h.2.2 b hb).1, (h.2.2 b hb).2.1, (h.2.2 b hb).2.2.1⟩⟩
/-- behind cut -/
def cuS (z : Sto) (x a : Nat) (d : Int32) : Sto := putI (putI (putI (putI (putR z 66 a none) 67 a 0) 162 x d) 167 x 1) 168 x 1
theorem netI_cut {G : Gx} {z : Sto} {x gl pt ol : Nat} {ga : Nat → Nat} {N : NT} {i : Nat} (h : netI G z x gl pt ol ga N) (hi : i < nN N) : netI G (cuS z x (ga i) (nI (nFL N).length - nI (nFd N i).length)) x gl pt ol ga (nCut N i) := by
  obtain ⟨hO, ⟨⟨a1, a2, a3⟩, ⟨b1, b2, b3⟩, ⟨cg, c1, c2⟩, ⟨no, fo, cap, d1, d2⟩, e1, e2, f1, f2, f3⟩, -, -⟩ := h
  have hl : ∀ {a m cap : Nat} {g : Nat → Nat}, lst G z a m g cap → lst G (cuS z x (ga i) (nI (nFL N).length - nI (nFd N i).length)) a m g cap := fun hl => lst_I (lst_I (lst_I (lst_I (lst_R hl (by decide)) (by decide)) (by decide)) (by decide)) (by decide)
  have I : ∀ f b, f ≠ 67 → f ≠ 162 → f ≠ 167 → f ≠ 168 → sI (cuS z x (ga i) (nI (nFL N).length - nI (nFd N i).length)) f b = sI z f b := fun f b h1 h2 h3 h4 => rI_If h4 (rI_If h3 (rI_If h2 (rI_If h1 rfl)))
  have R : ∀ f b, f ≠ 66 → sR (cuS z x (ga i) (nI (nFL N).length - nI (nFd N i).length)) f b = sR z f b := fun f b h1 => (rR_Rf h1 rfl : sR (putR z 66 (ga i) none) f b = sR z f b)
  have hch : ∀ {L : List (Nat × Int32)} {r : Option Nat}, chn z r L → chn (cuS z x (ga i) (nI (nFL N).length - nI (nFd N i).length)) r L := fun hc => chn_ext (z := z) (z' := cuS z x (ga i) (nI (nFL N).length - nI (nFd N i).length)) (fun _ _ q => q) (fun b => R 32 b (by decide)) (fun b => I 33 b (by decide) (by decide) (by decide) (by decide)) (fun b => R 34 b (by decide)) hc
  refine ⟨nOK_cut hO i, ⟨⟨a1, (R _ _ (by decide)).trans a2, (R _ _ (by decide)).trans a3⟩, ⟨b1, (R _ _ (by decide)).trans b2, rsep_of b3 rfl rfl (R _ _ (by decide)) (R _ _ (by decide))⟩, ⟨cg, hl c1, c2⟩, ⟨no, fo, cap, hl d1, d2⟩, ⟨fun j hj => ?_, e1.2⟩, fun j hj => ⟨?_, (I _ _ (by decide) (by decide) (by decide) (by decide)).trans (e2 j hj).2⟩, ?_, (I _ _ (by decide) (by decide) (by decide) (by decide)).trans f2, (I _ _ (by decide) (by decide) (by decide) (by decide)).trans f3⟩, ⟨true, rI_If (by decide) rI_Is, fun q => by cases q⟩, ⟨true, rI_Is, fun q => by cases q⟩⟩
  · obtain ⟨g1, g2, g3, g4, g5⟩ := e1.1 j hj
    refine ⟨g1, (I _ _ (by decide) (by decide) (by decide) (by decide)).trans g2, (I _ _ (by decide) (by decide) (by decide) (by decide)).trans g3, ?_, ?_⟩
    · rw [nFd_cut]
      by_cases hji : j = i
      · subst hji
        rw [if_pos rfl]
        exact (rR_Rs : sR (putR z 66 (ga j) none) 66 (ga j) = none)
      · rw [if_neg hji]
        have e66 : sR (cuS z x (ga i) (nI (nFL N).length - nI (nFd N i).length)) 66 (ga j) = sR z 66 (ga j) := (rR_Ra (fun e9 => hji (e1.2 j i hj hi e9)) rfl : sR (putR z 66 (ga i) none) 66 (ga j) = sR z 66 (ga j))
        rw [e66]
        exact hch g4
    · rw [nFd_cut]
      split
      · intro y hy; cases hy
      · exact g5
  · rw [nFd_cut]
    by_cases hji : j = i
    · subst hji
      rw [if_pos rfl]
      exact rI_If (by decide) (rI_If (by decide) (rI_If (by decide) rI_Is))
    · rw [if_neg hji]
      exact rI_If (by decide) (rI_If (by decide) (rI_If (by decide) (rI_Ia (fun e9 => hji (e1.2 j i hj hi e9)) (e2 j hj).1)))
  · refine rI_If (by decide) (rI_If (by decide) (rI_Is.trans ?_))
    rw [cut_len N i]
    exact nI_sub

set_option maxHeartbeats 4000000 in
set_option maxRecDepth 100000 in
theorem c_cut (l : Launch) (G : Gx) (z : Sto) {x gl pt ol : Nat} {ga : Nat → Nat} {N : NT} {i : Nat} (h : netI G z x gl pt ol ga N) (hi : i < nN N) : Ct l yX4_cut wsX4_cut ({ frames := 4, cells := 0, slots := 0, locals := 100 } : Room) G z [.ref x, .int (nI i)] (fun rv z' => rv = some (.int (nI (nFd N i).length)) ∧ kfr z z' ∧ netI G z' x gl pt ol ga (nCut N i)) := by
  refine ct_of (cc := cX4_cut) (maxL := 3) (ret := (some .int)) (lv0 := [(0, .ref x), (1, .int (nI i))]) (by decide) rfl (by simp [lg_sl, cat_ref, cat_null, cat_int, cat_long, rf_cat]) (by simp [lv_args, cat_ref, cat_null, cat_int, cat_long, rf_cat]) ?_
  intro p e s m args below meth c C hin
  have i5 : ∀ w ∈ u_ws RX4 TX4 9, w ∈ wsX4_cut := by decide +kernel
  have hG := h.2.1
  obtain ⟨capg, hgl, hgc⟩ := hG.2.2.1
  have hgi := lst_is hgl hi
  refine w_aload_n C 0 dX4_cut_0 rfl rfl (by first | rfl | exact isRef_rf _) ?_
  refine w_iload_n C 1 dX4_cut_1 rfl rfl ?_
  refine w_callV (ci := 5) (As := [.int (nI i)]) (rest := []) C (cwV 1 C.1.2.2.2.2 gX4_cut_X4_gateAt rfl rfl rfl (by decide +kernel) ⟨Nat.le_of_ble_eq_true rfl, Nat.le_of_ble_eq_true rfl⟩) hG.1.1 rfl (by decide) rfl rfl (by first | decide | simp [cat_ref, cat_null, cat_int, cat_long, rf_cat]) dX4_cut_2 ⟨Nat.le_of_ble_eq_true rfl, Nat.le_of_ble_eq_true rfl⟩ (c_gateAt l G z hG.1.1 hG.1.2.1 hgl hi) (fun rv z1 h9 => ?_)
  obtain ⟨rfl, e9⟩ := h9
  replace e9 := e9.symm
  subst e9
  refine w_callV (ci := 2) (As := []) (rest := []) C (cwV 0 C.1.2.2.2.2 gX4_cut_X1_dropFeeds rfl rfl rfl (by decide +kernel) ⟨Nat.le_of_ble_eq_true rfl, Nat.le_of_ble_eq_true rfl⟩) hgi rfl (by decide) rfl rfl (by first | decide | simp [cat_ref, cat_null, cat_int, cat_long, rf_cat]) dX4_cut_5 ⟨Nat.le_of_ble_eq_true rfl, Nat.le_of_ble_eq_true rfl⟩ (c_dropFeeds l G z hgi) (fun rv z1 h9 => ?_)
  obtain ⟨rfl, e9⟩ := h9
  replace e9 := e9.symm
  subst e9
  rw [(hG.2.2.2.2.2.1 i hi).1]
  refine w_istore_nB (lvq := [(2, _), (0, _), (1, _)]) C 1 rfl rfl (by first | rfl | exact rf_cat _) dX4_cut_8 rfl (by decide) rfl ?_
  refine w_aload_n C 1 dX4_cut_9 rfl rfl (by first | rfl | exact isRef_rf _) ?_
  refine w_dup C dX4_cut_10 (by first | rfl | exact rf_cat _) ?_
  refine w_getI (ci := 5) (k := 2) (f := 162) C rfl i5 (by decide +kernel) (by decide) (by decide) rfl rfl dX4_cut_11 (is_I (is_R hG.1.1)) (rI_If (by decide) (rI_R hG.2.2.2.2.2.2.1)) ?_
  refine w_iload_n C 0 dX4_cut_14 rfl rfl ?_
  refine w_isub C dX4_cut_15 ?_
  refine w_putI (ci := 5) (k := 2) (f := 162) C rfl i5 (by decide +kernel) (by decide) (by decide) rfl rfl tyX4 tyX4_ok nmX4 rfl rfl rfl dX4_cut_16 (is_I (is_R hG.1.1)) ?_
  refine w_aload_n C 1 dX4_cut_19 rfl rfl (by first | rfl | exact isRef_rf _) ?_
  refine w_callV (ci := 5) (As := []) (rest := []) C (cwV 0 C.1.2.2.2.2 gX4_cut_X4_forgetAll rfl rfl rfl (by decide +kernel) ⟨Nat.le_of_ble_eq_true rfl, Nat.le_of_ble_eq_true rfl⟩) (is_I (is_I (is_R hG.1.1))) rfl (by decide) rfl rfl (by first | decide | simp [cat_ref, cat_null, cat_int, cat_long, rf_cat]) dX4_cut_20 ⟨Nat.le_of_ble_eq_true rfl, Nat.le_of_ble_eq_true rfl⟩ (c_forgetAll l G _ hG.1.1) (fun rv z1 h9 => ?_)
  obtain ⟨rfl, e9⟩ := h9
  replace e9 := e9.symm
  subst e9
  refine w_iload_n C 0 dX4_cut_23 rfl rfl ?_
  exact w_iret C dX4_cut_24 ⟨rfl, ((((kfr_R z (ga i) none (by decide)).tr (kfr_I _ _ _ (by decide))).tr (kfr_I _ _ _ (by decide))).tr (kfr_I _ _ _ (by decide))).tr (kfr_I _ _ _ (by decide)), netI_cut h hi⟩
/-- behind feed -/
def feS (z : Sto) (q x a g : Nat) (ng m d : Int32) : Sto := putI (putI (putI (putI (putR (putR (putI (putR (newO z q 1) 32 q (some g)) 33 q ng) 34 q (sR z 66 a)) 66 a (some q)) 67 a m) 162 x d) 167 x 1) 168 x 1
theorem netI_feed {G : Gx} {z : Sto} {x gl pt ol : Nat} {ga : Nat → Nat} {N : NT} {t f q : Nat} {ng : Int32} (h : netI G z x gl pt ol ga N) (ht : t < nN N) (hf : f < nN N) (hg : ng = 0 ∨ ng = 1) (hl : (nFL N).length < 2400) (hc : isLog (nSo N t) = true ∨ (nSo N t = 1 ∧ (nFd N t).length = 0)) (hq : q ∉ sL z) :
    netI G (feS z q x (ga t) (ga f) ng (nI (nFd N t).length + 1) (nI (nFL N).length + 1)) x gl pt ol ga (nFeed N t f ng) ∧ kfr z (feS z q x (ga t) (ga f) ng (nI (nFd N t).length + 1) (nI (nFL N).length + 1)) := by
  obtain ⟨hO, ⟨⟨a1, a2, a3⟩, ⟨b1, b2, b3⟩, ⟨cg, c1, c2⟩, ⟨no, fo, cap, d1, d2⟩, e1, e2, f1, f2, f3⟩, -, -⟩ := h
  obtain ⟨zA, hA⟩ : ∃ zA, zA = putR (putI (putR (newO z q 1) 32 q (some (ga f))) 33 q ng) 34 q (sR z 66 (ga t)) := ⟨_, rfl⟩
  have oA : oF z zA := by rw [hA]; exact oF_R (oF_I (oF_R (oF_new hq) hq) hq) hq
  have iq : is zA q 1 := by rw [hA]; exact is_newO_self z q 1
  have q32 : sR zA 32 q = some (ga f) := by rw [hA]; exact rR_Rf (by decide) (rR_I rR_Rs)
  have q33 : sI zA 33 q = ng := by rw [hA]; exact rI_R rI_Is
  have q34 : sR zA 34 q = sR z 66 (ga t) := by rw [hA]; exact rR_Rs
  obtain ⟨zB, hB⟩ : ∃ zB, zB = feS z q x (ga t) (ga f) ng (nI (nFd N t).length + 1) (nI (nFL N).length + 1) := ⟨_, rfl⟩
  have hB2 : zB = putI (putI (putI (putI (putR zA 66 (ga t) (some q)) 67 (ga t) (nI (nFd N t).length + 1)) 162 x (nI (nFL N).length + 1)) 167 x 1) 168 x 1 := by rw [hB, hA]; rfl
  rw [← hB]
  have IA : ∀ g b, g ≠ 67 → g ≠ 162 → g ≠ 167 → g ≠ 168 → sI zB g b = sI zA g b := fun g b h1 h2 h3 h4 => by rw [hB2]; exact rI_If h4 (rI_If h3 (rI_If h2 (rI_If h1 rfl)))
  have RA : ∀ g b, g ≠ 66 → sR zB g b = sR zA g b := fun g b h1 => by rw [hB2]; exact (rR_Rf h1 rfl : sR (putR zA 66 (ga t) (some q)) g b = sR zA g b)
  have isB : ∀ b k, is zA b k → is zB b k := fun b k hb => by rw [hB2]; exact hb
  have his : ∀ b k, is z b k → is zB b k := fun b k hb => isB b k (oA.1 b k hb)
  have hl9 : ∀ {a m cap : Nat} {g : Nat → Nat}, lst G z a m g cap → lst G zB a m g cap := fun hl => by rw [hB2]; exact lst_I (lst_I (lst_I (lst_I (lst_R (oA.lst hl) (by decide)) (by decide)) (by decide)) (by decide)) (by decide)
  have hch : ∀ {L : List (Nat × Int32)} {r : Option Nat}, chn z r L → chn zB r L := fun hc => chn_ext isB (fun b => RA 32 b (by decide)) (fun b => IA 33 b (by decide) (by decide) (by decide) (by decide)) (fun b => RA 34 b (by decide)) (oA.chn hc)
  have gin : ∀ j, j < nN N → ga j ∈ sL z := fun j hj => (e1.1 j hj).1.1
  have xin := a1.1
  have gx : ∀ j, j < nN N → ga j ≠ x := fun j hj => is_ne (e1.1 j hj).1 a1 (by decide)
  refine ⟨⟨nOK_feed hO ht hf hg hl hc, ⟨⟨his _ _ a1, (RA _ _ (by decide)).trans ((oA.2.1 _ _ xin).2.2.trans a2), (RA _ _ (by decide)).trans ((oA.2.1 _ _ xin).2.2.trans a3)⟩, ⟨his _ _ b1, (RA _ _ (by decide)).trans ((oA.2.1 _ _ b1.1).2.2.trans b2), b3.1, fun d hd hi => ?_⟩, ⟨cg, hl9 c1, c2⟩, ⟨no, fo, cap, hl9 d1, d2⟩, ⟨fun j hj => ?_, e1.2⟩, fun j hj => ⟨?_, (IA _ _ (by decide) (by decide) (by decide) (by decide)).trans ((oA.2.1 _ _ (gin j hj)).1.trans (e2 j hj).2)⟩, ?_, (IA _ _ (by decide) (by decide) (by decide) (by decide)).trans ((oA.2.1 _ _ xin).1.trans f2), (IA _ _ (by decide) (by decide) (by decide) (by decide)).trans ((oA.2.1 _ _ xin).1.trans f3)⟩, ⟨true, by rw [hB2]; exact rI_If (by decide) rI_Is, fun q => by cases q⟩, ⟨true, by rw [hB2]; exact rI_Is, fun q => by cases q⟩⟩, ?_⟩
  · rw [RA _ _ (by decide), (oA.2.1 1 gl c1.1.1).2.2] at hd
    rw [RA _ _ (by decide), (oA.2.1 1 ol d1.1.1).2.2]
    refine b3.2 d hd ?_
    rcases c1.2.2.2.2 with ⟨-, q2⟩ | ⟨-, d9, q1, q2, -⟩
    · have hz : is zA d 9 := by rw [hB2] at hi; exact hi
      have hdq : d ≠ q := fun e9 => by rw [e9] at hz; exact absurd (iq.2.symm.trans hz.2) (by decide)
      have : d ∈ sL z ∧ sK zA d = sK z d := by
        rw [hA] at hz
        have h1 : d ∈ sL z ++ [q] := hz.1
        rcases List.mem_append.mp h1 with h1 | h1
        · exact ⟨h1, (oA.1 d (sK z d) ⟨h1, rfl⟩).2⟩
        · exact absurd (List.mem_singleton.mp h1) hdq
      exact ⟨this.1, this.2.symm.trans hz.2⟩
    · cases hd.symm.trans q1; exact q2
  · obtain ⟨g1, g2, g3, g4, g5⟩ := e1.1 j hj
    refine ⟨his _ _ g1, (IA _ _ (by decide) (by decide) (by decide) (by decide)).trans ((oA.2.1 _ _ (gin j hj)).1.trans g2), (IA _ _ (by decide) (by decide) (by decide) (by decide)).trans ((oA.2.1 _ _ (gin j hj)).1.trans g3), ?_, ?_⟩
    · rw [nFd_feed]
      by_cases hjt : j = t
      · subst hjt
        rw [if_pos rfl]
        have e66 : sR zB 66 (ga j) = some q := by rw [hB2]; exact (rR_Rs : sR (putR zA 66 (ga j) (some q)) 66 (ga j) = some q)
        rw [e66]
        exact ⟨q, rfl, isB _ _ iq, (RA _ _ (by decide)).trans q32, his _ _ (e1.1 f hf).1, (IA _ _ (by decide) (by decide) (by decide) (by decide)).trans q33, by rw [RA _ _ (by decide), q34]; exact hch g4⟩
      · rw [if_neg hjt]
        have e66 : sR zB 66 (ga j) = sR z 66 (ga j) := by rw [hB2]; exact (rR_Ra (fun e9 => hjt (e1.2 j t hj ht e9)) (oA.2.1 _ _ (gin j hj)).2.2 : sR (putR zA 66 (ga t) (some q)) 66 (ga j) = sR z 66 (ga j))
        rw [e66]
        exact hch g4
    · rw [nFd_feed]
      split
      · intro y hy
        rcases List.mem_cons.mp hy with rfl | hy
        · exact hf
        · exact g5 y hy
      · exact g5
  · rw [nFd_feed]
    by_cases hjt : j = t
    · subst hjt
      rw [if_pos rfl, List.length_cons, hB2]
      exact rI_If (by decide) (rI_If (by decide) (rI_If (by decide) (rI_Is.trans (nI_1 _))))
    · rw [if_neg hjt, hB2]
      exact rI_If (by decide) (rI_If (by decide) (rI_If (by decide) (rI_Ia (fun e9 => hjt (e1.2 j t hj ht e9)) ((oA.2.1 _ _ (gin j hj)).1.trans (e2 j hj).1))))
  · have : (nFL (nFeed N t f ng)).length = (nFL N).length + 1 := by show (nFL N ++ [(t, f, ng)]).length = _; rw [List.length_append, List.length_singleton]
    rw [this, hB2]
    exact rI_If (by decide) (rI_If (by decide) (rI_Is.trans (nI_1 _)))
  · rw [hB2]
    exact ((((oA.kfr.tr (kfr_R _ _ _ (by decide))).tr (kfr_I _ _ _ (by decide))).tr (kfr_I _ _ _ (by decide))).tr (kfr_I _ _ _ (by decide))).tr (kfr_I _ _ _ (by decide))
def nCan (N : NT) (t : Nat) : Prop := isLog (nSo N t) = true ∨ (nSo N t = 1 ∧ (nFd N t).length = 0)
theorem can_B {N : NT} (hO : nOK N) {t : Nat} (ht : t < nN N) {b : Int32} (hb : b = nI (nFd N t).length) : (isLog (nSo N t) || (decide (nSo N t = 1) && decide (b = 0))) = true ↔ nCan N t := by
  have hlen : (nFd N t).length ≤ 2400 := by rw [nFd_len]; exact Nat.le_trans (List.length_filter_le _ _) hO.2.1
  have : b = 0 ↔ (nFd N t).length = 0 := by
    rw [hb]
    exact nI_eq (b := 0) (by omega) (by omega)
  unfold nCan
  rw [Bool.or_eq_true, Bool.and_eq_true, decide_eq_true_iff, decide_eq_true_iff, this]

set_option maxHeartbeats 4000000 in
set_option maxRecDepth 100000 in
theorem c_feed (l : Launch) (G : Gx) (z : Sto) {x gl pt ol : Nat} {ga : Nat → Nat} {N : NT} {t f : Nat} {ng : Int32} (h : netI G z x gl pt ol ga N) (ht : t < nN N) (hf : f < nN N) (hng : ng = 0 ∨ ng = 1) (hc : nCan N t) : Ct l yX4_feed wsX4_feed ({ frames := 4, cells := 1, slots := 3, locals := 100 } : Room) G z [.ref x, .int (nI t), .int (nI f), .int ng] (fun rv z' => ((nFL N).length = 2400 ∧ rv = some (.int (-1)) ∧ z' = z) ∨ ((nFL N).length < 2400 ∧ rv = some (.int (nI (nFd (nFeed N t f ng) t).length)) ∧ kfr z z' ∧ netI G z' x gl pt ol ga (nFeed N t f ng))) := by
  refine ct_of (cc := cX4_feed) (maxL := 6) (ret := (some .int)) (lv0 := [(0, .ref x), (1, .int (nI t)), (2, .int (nI f)), (3, .int ng)]) (by decide) rfl (by simp [lg_sl, cat_ref, cat_null, cat_int, cat_long, rf_cat]) (by simp [lv_args, cat_ref, cat_null, cat_int, cat_long, rf_cat]) ?_
  intro p e s m args below meth c C hin
  have i2 : ∀ w ∈ u_ws RX1 TX1 17, w ∈ wsX4_feed := by decide +kernel
  have i5 : ∀ w ∈ u_ws RX4 TX4 9, w ∈ wsX4_feed := by decide +kernel
  have hG := h.2.1
  obtain ⟨capg, hgl, hgc⟩ := hG.2.2.1
  have hgt := lst_is hgl ht
  have hgf := lst_is hgl hf
  have e65 := (hG.2.2.2.2.1.1 t ht).2.2.1
  have e67 := (hG.2.2.2.2.2.1 t ht).1
  refine w_aload_n C 0 dX4_feed_0 rfl rfl (by first | rfl | exact isRef_rf _) ?_
  refine w_iload_n C 1 dX4_feed_1 rfl rfl ?_
  refine w_callV (ci := 5) (As := [.int (nI t)]) (rest := []) C (cwV 1 C.1.2.2.2.2 gX4_feed_X4_gateAt rfl rfl rfl (by decide +kernel) ⟨Nat.le_of_ble_eq_true rfl, Nat.le_of_ble_eq_true rfl⟩) hG.1.1 rfl (by decide) rfl rfl (by first | decide | simp [cat_ref, cat_null, cat_int, cat_long, rf_cat]) dX4_feed_2 ⟨Nat.le_of_ble_eq_true rfl, Nat.le_of_ble_eq_true rfl⟩ (c_gateAt l G z hG.1.1 hG.1.2.1 hgl ht) (fun rv z1 h9 => ?_)
  obtain ⟨rfl, e9⟩ := h9
  replace e9 := e9.symm
  subst e9
  refine w_astoreB (lvq := [(4, _), (0, _), (1, _), (2, _), (3, _)]) C 3 rfl rfl (by first | rfl | exact rf_cat _) dX4_feed_5 (by first | rfl | exact isRef_rf _) (by decide) rfl ?_
  refine w_aload_n C 1 dX4_feed_7 rfl rfl (by first | rfl | exact isRef_rf _) ?_
  refine w_iload_n C 3 dX4_feed_8 rfl rfl ?_
  refine w_callV (ci := 5) (As := [.int (nI f)]) (rest := []) C (cwV 1 C.1.2.2.2.2 gX4_feed_X4_gateAt rfl rfl rfl (by decide +kernel) ⟨Nat.le_of_ble_eq_true rfl, Nat.le_of_ble_eq_true rfl⟩) hG.1.1 rfl (by decide) rfl rfl (by first | decide | simp [cat_ref, cat_null, cat_int, cat_long, rf_cat]) dX4_feed_9 ⟨Nat.le_of_ble_eq_true rfl, Nat.le_of_ble_eq_true rfl⟩ (c_gateAt l G z hG.1.1 hG.1.2.1 hgl hf) (fun rv z1 h9 => ?_)
  obtain ⟨rfl, e9⟩ := h9
  replace e9 := e9.symm
  subst e9
  refine w_astoreB (lvq := [(5, _), (4, _), (0, _), (1, _), (2, _), (3, _)]) C 0 rfl rfl (by first | rfl | exact rf_cat _) dX4_feed_12 (by first | rfl | exact isRef_rf _) (by decide) rfl ?_
  refine w_aload C 1 dX4_feed_14 rfl (by first | rfl | exact isRef_rf _) ?_
  refine w_callV (ci := 2) (As := []) (rest := []) C (cwV 0 C.1.2.2.2.2 gX4_feed_X1_canBeFed rfl rfl rfl (by decide +kernel) ⟨Nat.le_of_ble_eq_true rfl, Nat.le_of_ble_eq_true rfl⟩) hgt rfl (by decide) rfl rfl (by first | decide | simp [cat_ref, cat_null, cat_int, cat_long, rf_cat]) dX4_feed_16 ⟨Nat.le_of_ble_eq_true rfl, Nat.le_of_ble_eq_true rfl⟩ (c_canBeFed l G z hgt) (fun rv z1 h9 => ?_)
  obtain ⟨rfl, e9⟩ := h9
  replace e9 := e9.symm
  subst e9
  rw [e65]
  refine w_if_ne (tgt := 32) C dX4_feed_19 (by decide) (fun c1 => ?_) (fun c1 => ?_)
  · refine w_aload_n C 2 dX4_feed_32 rfl rfl (by first | rfl | exact isRef_rf _) ?_
    refine w_getI (ci := 5) (k := 2) (f := 162) C rfl i5 (by decide +kernel) (by decide) (by decide) rfl rfl dX4_feed_33 hG.1.1 hG.2.2.2.2.2.2.1 ?_
    refine w_sipush (v := 2400) C dX4_feed_36 (by decide) ?_
    refine w_icmp_lt (tgt := 44) C dX4_feed_39 (by decide) (fun c2 => ?_) (fun c2 => ?_)
    · have hlt : (nFL N).length < 2400 := (nI_ltI (b := 2400) (by have := h.1.2.1; omega) (by omega)).mp c2
      refine w_aload C 1 dX4_feed_44 rfl (by first | rfl | exact isRef_rf _) ?_
      refine w_aload C 0 dX4_feed_46 rfl (by first | rfl | exact isRef_rf _) ?_
      refine w_iload_n C 5 dX4_feed_48 rfl rfl ?_
      refine w_callV (ci := 2) (As := [.ref (ga f), .int ng]) (rest := []) C (cwV 2 C.1.2.2.2.2 gX4_feed_X1_addFeed rfl rfl rfl (by decide +kernel) ⟨Nat.le_of_ble_eq_true rfl, Nat.le_of_ble_eq_true rfl⟩) hgt rfl (by decide) rfl rfl (by first | decide | simp [cat_ref, cat_null, cat_int, cat_long, rf_cat]) dX4_feed_49 ⟨Nat.le_of_ble_eq_true rfl, Nat.le_of_ble_eq_true rfl⟩ (c_addFeed l G z hgt hng) (fun rv z1 h9 => ?_)
      obtain ⟨rfl, q, hq, hlow, e9⟩ := h9
      have oq := (oF_new (k := 1) hq)
      have e8 : sI (newO z q 1) 67 (ga t) = nI (nFd N t).length := (oq.2.1 67 _ hgt.1).1.trans e67
      rw [e8] at e9
      subst e9
      have hx1 : is (newO z q 1) x 5 := is_newO hG.1.1 hq
      refine w_aload_n C 2 dX4_feed_52 rfl rfl (by first | rfl | exact isRef_rf _) ?_
      refine w_dup C dX4_feed_53 (by first | rfl | exact rf_cat _) ?_
      refine w_getI (ci := 5) (k := 2) (f := 162) C rfl i5 (by decide +kernel) (by decide) (by decide) rfl rfl dX4_feed_54 (is_I (is_R (is_R (is_I (is_R hx1))))) (rI_If (by decide) (rI_R (rI_R (rI_If (by decide) (rI_R ((oq.2.1 162 x hG.1.1.1).1.trans hG.2.2.2.2.2.2.1)))))) ?_
      refine w_iconst (v := 1) C dX4_feed_57 (by decide) ?_
      refine w_iadd C dX4_feed_58 ?_
      refine w_putI (ci := 5) (k := 2) (f := 162) C rfl i5 (by decide +kernel) (by decide) (by decide) rfl rfl tyX4 tyX4_ok nmX4 rfl rfl rfl dX4_feed_59 (is_I (is_R (is_R (is_I (is_R hx1))))) ?_
      refine w_aload_n C 2 dX4_feed_62 rfl rfl (by first | rfl | exact isRef_rf _) ?_
      refine w_callV (ci := 5) (As := []) (rest := []) C (cwV 0 C.1.2.2.2.2 gX4_feed_X4_forgetAll rfl rfl rfl (by decide +kernel) ⟨Nat.le_of_ble_eq_true rfl, Nat.le_of_ble_eq_true rfl⟩) (is_I (is_I (is_R (is_R (is_I (is_R hx1)))))) rfl (by decide) rfl rfl (by first | decide | simp [cat_ref, cat_null, cat_int, cat_long, rf_cat]) dX4_feed_63 ⟨Nat.le_of_ble_eq_true rfl, Nat.le_of_ble_eq_true rfl⟩ (c_forgetAll l G _ (by exact hx1)) (fun rv z1 h9 => ?_)
      obtain ⟨rfl, e9⟩ := h9
      replace e9 := e9.symm
      subst e9
      refine w_aload C 1 dX4_feed_66 rfl (by first | rfl | exact isRef_rf _) ?_
      refine w_getI (ci := 2) (k := 3) (f := 67) C rfl i2 (by decide +kernel) (by decide) (by decide) rfl rfl dX4_feed_68 (is_newO hgt hq) (rI_If (by decide) (rI_If (by decide) (rI_If (by decide) rI_Is))) ?_
      exact w_iret C dX4_feed_71 (Or.inr ⟨hlt, by rw [nFd_feed, if_pos rfl, List.length_cons]; exact congrArg (fun v => some (Value.int v)) (nI_1 _), (netI_feed h ht hf hng hlt hc hq).2, (netI_feed h ht hf hng hlt hc hq).1⟩)
    · have hge : (nFL N).length = 2400 := by
        have := h.1.2.1
        have h8 : ¬ (nFL N).length < 2400 := fun q => c2 ((nI_ltI (b := 2400) (by omega) (by omega)).mpr q)
        omega
      refine w_widen (k := 1) (n := 3) (by decide) (by decide) ?_
      refine w_iconst (v := (-1)) C dX4_feed_42 (by decide) ?_
      exact w_iret C dX4_feed_43 (Or.inl ⟨hge, rfl, rfl⟩)
  · exact absurd ((bI_0 _).mp c1) (by rw [(can_B h.1 ht e67).mpr hc]; decide)
set_option maxHeartbeats 4000000 in
set_option maxRecDepth 100000 in
theorem x_feed (l : Launch) (G : Gx) (z : Sto) {x gl pt ol : Nat} {ga : Nat → Nat} {N : NT} {j j2 ng : Int32} (hl9 : l.stackTraces = false) (h : netI G z x gl pt ol ga N) (hj : j < 0 ∨ nI (nN N) ≤ j) : CtX l yX4_feed wsX4_feed ({ frames := 7, cells := 1, slots := 6, locals := 150 } : Room) G z [.ref x, .int j, .int j2, .int ng] (fun _ _ => False) (fun E z' => E = "java/lang/IndexOutOfBoundsException" ∧ z' = z) := by
  refine ctx_of (cc := cX4_feed) (maxL := 6) (ret := (some .int)) (lv0 := [(0, .ref x), (1, .int j), (2, .int j2), (3, .int ng)]) (by decide) rfl (by simp [lg_sl, cat_ref, cat_null, cat_int, cat_long, rf_cat]) (by simp [lv_args, cat_ref, cat_null, cat_int, cat_long, rf_cat]) ?_
  intro p e s m args below meth c C hin ht9
  have i2 : ∀ w ∈ u_ws RX1 TX1 17, w ∈ wsX4_feed := by decide +kernel
  have i5 : ∀ w ∈ u_ws RX4 TX4 9, w ∈ wsX4_feed := by decide +kernel
  have hG := h.2.1
  obtain ⟨capg, hgl, hgc⟩ := hG.2.2.1
  refine w_aload_n C 0 dX4_feed_0 rfl rfl (by first | rfl | exact isRef_rf _) ?_
  refine w_iload_n C 1 dX4_feed_1 rfl rfl ?_
  exact w_callVX (ci := 5) (As := [.int j]) (rest := []) C ht9 (cwV 1 C.1.2.2.2.2 gX4_feed_X4_gateAt rfl rfl rfl (by decide +kernel) ⟨Nat.le_of_ble_eq_true rfl, Nat.le_of_ble_eq_true rfl⟩) hG.1.1 rfl (by decide) rfl rfl (by decide) dX4_feed_2 ⟨Nat.le_of_ble_eq_true rfl, Nat.le_of_ble_eq_true rfl⟩ ⟨Nat.le_of_ble_eq_true rfl, Nat.le_of_ble_eq_true rfl⟩ (x_gateAt l G z hl9 hG.1.1 hG.1.2.1 hgl hj) (fun E z' q => q)
set_option maxHeartbeats 4000000 in
set_option maxRecDepth 100000 in
theorem x_feed2 (l : Launch) (G : Gx) (z : Sto) {x gl pt ol : Nat} {ga : Nat → Nat} {N : NT} {t : Nat} {j ng : Int32} (hl9 : l.stackTraces = false) (h : netI G z x gl pt ol ga N) (ht : t < nN N) (hj : j < 0 ∨ nI (nN N) ≤ j) : CtX l yX4_feed wsX4_feed ({ frames := 7, cells := 1, slots := 6, locals := 150 } : Room) G z [.ref x, .int (nI t), .int j, .int ng] (fun _ _ => False) (fun E z' => E = "java/lang/IndexOutOfBoundsException" ∧ z' = z) := by
  refine ctx_of (cc := cX4_feed) (maxL := 6) (ret := (some .int)) (lv0 := [(0, .ref x), (1, .int (nI t)), (2, .int j), (3, .int ng)]) (by decide) rfl (by simp [lg_sl, cat_ref, cat_null, cat_int, cat_long, rf_cat]) (by simp [lv_args, cat_ref, cat_null, cat_int, cat_long, rf_cat]) ?_
  intro p e s m args below meth c C hin ht9
  have i2 : ∀ w ∈ u_ws RX1 TX1 17, w ∈ wsX4_feed := by decide +kernel
  have i5 : ∀ w ∈ u_ws RX4 TX4 9, w ∈ wsX4_feed := by decide +kernel
  have hG := h.2.1
  obtain ⟨capg, hgl, hgc⟩ := hG.2.2.1
  refine w_aload_n C 0 dX4_feed_0 rfl rfl (by first | rfl | exact isRef_rf _) ?_
  refine w_iload_n C 1 dX4_feed_1 rfl rfl ?_
  refine w_callV (ci := 5) (As := [.int (nI t)]) (rest := []) C (cwV 1 C.1.2.2.2.2 gX4_feed_X4_gateAt rfl rfl rfl (by decide +kernel) ⟨Nat.le_of_ble_eq_true rfl, Nat.le_of_ble_eq_true rfl⟩) hG.1.1 rfl (by decide) rfl rfl (by first | decide | simp [cat_ref, cat_null, cat_int, cat_long, rf_cat]) dX4_feed_2 ⟨Nat.le_of_ble_eq_true rfl, Nat.le_of_ble_eq_true rfl⟩ (c_gateAt l G z hG.1.1 hG.1.2.1 hgl ht) (fun rv z1 h9 => ?_)
  obtain ⟨rfl, e9⟩ := h9
  replace e9 := e9.symm
  subst e9
  refine w_astoreB (lvq := [(4, _), (0, _), (1, _), (2, _), (3, _)]) C 3 rfl rfl (by first | rfl | exact rf_cat _) dX4_feed_5 (by first | rfl | exact isRef_rf _) (by decide) rfl ?_
  refine w_aload_n C 1 dX4_feed_7 rfl rfl (by first | rfl | exact isRef_rf _) ?_
  refine w_iload_n C 3 dX4_feed_8 rfl rfl ?_
  exact w_callVX (ci := 5) (As := [.int j]) (rest := []) C ht9 (cwV 1 C.1.2.2.2.2 gX4_feed_X4_gateAt rfl rfl rfl (by decide +kernel) ⟨Nat.le_of_ble_eq_true rfl, Nat.le_of_ble_eq_true rfl⟩) hG.1.1 rfl (by decide) rfl rfl (by decide) dX4_feed_9 ⟨Nat.le_of_ble_eq_true rfl, Nat.le_of_ble_eq_true rfl⟩ ⟨Nat.le_of_ble_eq_true rfl, Nat.le_of_ble_eq_true rfl⟩ (x_gateAt l G z hl9 hG.1.1 hG.1.2.1 hgl hj) (fun E z' q => q)
set_option maxHeartbeats 4000000 in
set_option maxRecDepth 100000 in
theorem x_feed3 (l : Launch) (G : Gx) (z : Sto) {x gl pt ol : Nat} {ga : Nat → Nat} {N : NT} {t f : Nat} {ng : Int32} (hl9 : l.stackTraces = false) (h : netI G z x gl pt ol ga N) (ht : t < nN N) (hf : f < nN N) (hc : ¬ nCan N t) : CtX l yX4_feed wsX4_feed ({ frames := 7, cells := 1, slots := 6, locals := 150 } : Room) G z [.ref x, .int (nI t), .int (nI f), .int ng] (fun _ _ => False) (fun E z' => E = "java/lang/IllegalStateException" ∧ z' = z) := by
  refine ctx_of (cc := cX4_feed) (maxL := 6) (ret := (some .int)) (lv0 := [(0, .ref x), (1, .int (nI t)), (2, .int (nI f)), (3, .int ng)]) (by decide) rfl (by simp [lg_sl, cat_ref, cat_null, cat_int, cat_long, rf_cat]) (by simp [lv_args, cat_ref, cat_null, cat_int, cat_long, rf_cat]) ?_
  intro p e s m args below meth c C hin ht9
  have i2 : ∀ w ∈ u_ws RX1 TX1 17, w ∈ wsX4_feed := by decide +kernel
  have i5 : ∀ w ∈ u_ws RX4 TX4 9, w ∈ wsX4_feed := by decide +kernel
  have hG := h.2.1
  obtain ⟨capg, hgl, hgc⟩ := hG.2.2.1
  have hgt := lst_is hgl ht
  have hgf := lst_is hgl hf
  have e65 := (hG.2.2.2.2.1.1 t ht).2.2.1
  have e67 := (hG.2.2.2.2.2.1 t ht).1
  refine w_aload_n C 0 dX4_feed_0 rfl rfl (by first | rfl | exact isRef_rf _) ?_
  refine w_iload_n C 1 dX4_feed_1 rfl rfl ?_
  refine w_callV (ci := 5) (As := [.int (nI t)]) (rest := []) C (cwV 1 C.1.2.2.2.2 gX4_feed_X4_gateAt rfl rfl rfl (by decide +kernel) ⟨Nat.le_of_ble_eq_true rfl, Nat.le_of_ble_eq_true rfl⟩) hG.1.1 rfl (by decide) rfl rfl (by first | decide | simp [cat_ref, cat_null, cat_int, cat_long, rf_cat]) dX4_feed_2 ⟨Nat.le_of_ble_eq_true rfl, Nat.le_of_ble_eq_true rfl⟩ (c_gateAt l G z hG.1.1 hG.1.2.1 hgl ht) (fun rv z1 h9 => ?_)
  obtain ⟨rfl, e9⟩ := h9
  replace e9 := e9.symm
  subst e9
  refine w_astoreB (lvq := [(4, _), (0, _), (1, _), (2, _), (3, _)]) C 3 rfl rfl (by first | rfl | exact rf_cat _) dX4_feed_5 (by first | rfl | exact isRef_rf _) (by decide) rfl ?_
  refine w_aload_n C 1 dX4_feed_7 rfl rfl (by first | rfl | exact isRef_rf _) ?_
  refine w_iload_n C 3 dX4_feed_8 rfl rfl ?_
  refine w_callV (ci := 5) (As := [.int (nI f)]) (rest := []) C (cwV 1 C.1.2.2.2.2 gX4_feed_X4_gateAt rfl rfl rfl (by decide +kernel) ⟨Nat.le_of_ble_eq_true rfl, Nat.le_of_ble_eq_true rfl⟩) hG.1.1 rfl (by decide) rfl rfl (by first | decide | simp [cat_ref, cat_null, cat_int, cat_long, rf_cat]) dX4_feed_9 ⟨Nat.le_of_ble_eq_true rfl, Nat.le_of_ble_eq_true rfl⟩ (c_gateAt l G z hG.1.1 hG.1.2.1 hgl hf) (fun rv z1 h9 => ?_)
  obtain ⟨rfl, e9⟩ := h9
  replace e9 := e9.symm
  subst e9
  refine w_astoreB (lvq := [(5, _), (4, _), (0, _), (1, _), (2, _), (3, _)]) C 0 rfl rfl (by first | rfl | exact rf_cat _) dX4_feed_12 (by first | rfl | exact isRef_rf _) (by decide) rfl ?_
  refine w_aload C 1 dX4_feed_14 rfl (by first | rfl | exact isRef_rf _) ?_
  refine w_callV (ci := 2) (As := []) (rest := []) C (cwV 0 C.1.2.2.2.2 gX4_feed_X1_canBeFed rfl rfl rfl (by decide +kernel) ⟨Nat.le_of_ble_eq_true rfl, Nat.le_of_ble_eq_true rfl⟩) hgt rfl (by decide) rfl rfl (by first | decide | simp [cat_ref, cat_null, cat_int, cat_long, rf_cat]) dX4_feed_16 ⟨Nat.le_of_ble_eq_true rfl, Nat.le_of_ble_eq_true rfl⟩ (c_canBeFed l G z hgt) (fun rv z1 h9 => ?_)
  obtain ⟨rfl, e9⟩ := h9
  replace e9 := e9.symm
  subst e9
  rw [e65]
  refine w_if_ne (tgt := 32) C dX4_feed_19 (by decide) (fun c1 => ?_) (fun c1 => ?_)
  · exact absurd ((can_B h.1 ht e67).mp (by cases q9 : (isLog (nSo N t) || (decide (nSo N t = 1) && decide (sI z 67 (ga t) = 0))) with | true => rfl | false => rw [q9] at c1; exact absurd rfl c1)) hc
  · exact w_throwS (names := ["java/lang/RuntimeException", "java/lang/Exception"]) C hl9 ht9 (by decide +kernel) (by decide +kernel) (by decide +kernel) (by decide +kernel) C.2.2.2.1.2.2.2.2.2.2.1 (fun w hw => List.mem_cons_of_mem _ (List.mem_append_left _ (List.mem_append_right _ hw))) (by decide +kernel) C.2.2.2.1.2.2.2.2.2.2.2.2.2.2.1.2.1 dX4_feed_22 dX4_feed_25 dX4_feed_26 dX4_feed_28 dX4_feed_31 (by decide) (by decide) (by decide) (by decide) (by decide +kernel) ⟨rfl, rfl⟩
