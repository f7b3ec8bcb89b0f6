/-! ===== Lanes: the sum over the batches; choices ===== -/
/-- what is kept of the net's objects -/
def mkF (z z' : Sto) : Prop := (∀ b k, is z b k → is z' b k) ∧ (∀ f b, f < 192 → b ∈ sL z → sI z' f b = sI z f b) ∧ (∀ f b, f < 192 → b ∈ sL z → sR z' f b = sR z f b) ∧ ∀ b, b ∈ sL z → sN z' b = sN z b ∧ sQ z' b = sQ z b
theorem mkF.rf (z : Sto) : mkF z z := ⟨fun _ _ h => h, fun _ _ _ _ => rfl, fun _ _ _ _ => rfl, fun _ _ => ⟨rfl, rfl⟩⟩
theorem mkF.tr {z z1 z2 : Sto} (h1 : mkF z z1) (h2 : mkF z1 z2) : mkF z z2 := by
  obtain ⟨a1, a2, a3, a4⟩ := h1
  obtain ⟨b1, b2, b3, b4⟩ := h2
  have hL : ∀ b, b ∈ sL z → b ∈ sL z1 := fun b hb => (a1 b (sK z b) ⟨hb, rfl⟩).1
  exact ⟨fun b k h => b1 b k (a1 b k h), fun f b q hb => (b2 f b q (hL b hb)).trans (a2 f b q hb), fun f b q hb => (b3 f b q (hL b hb)).trans (a3 f b q hb), fun b hb => ⟨(b4 b (hL b hb)).1.trans (a4 b hb).1, (b4 b (hL b hb)).2.trans (a4 b hb).2⟩⟩
theorem oF.mkF {z z' : Sto} (h : oF z z') : mkF z z' := ⟨h.1, fun f b _ hb => (h.2.1 f b hb).1, fun f b _ hb => (h.2.1 f b hb).2.2, fun b hb => ⟨(h.2.2 b hb).1, (h.2.2 b hb).2.2.2⟩⟩
theorem mkF.chn {z z' : Sto} (h : mkF z z') : ∀ {L : List (Nat × Int32)} {r : Option Nat}, chn z r L → chn z' r L := by
  intro L
  induction L with
  | nil => intro r hc; exact hc
  | cons a L ih =>
    intro r hc
    obtain ⟨b, h1, h2, h3, h4, h5, h6⟩ := hc
    exact ⟨b, h1, h.1 _ _ h2, (h.2.2.1 32 b (by decide) h2.1).trans h3, h.1 _ _ h4, (h.2.1 33 b (by decide) h2.1).trans h5, by rw [h.2.2.1 34 b (by decide) h2.1]; exact ih h6⟩
theorem mkF.lst {z z' : Sto} (h : mkF z z') {G : Gx} {a n cap : Nat} {f : Nat → Nat} (hl : lst G z a n f cap) : lst G z' a n f cap := lst_ext hl h.1 (h.2.1 2 a (by decide) hl.1.1) (h.2.2.1 1 a (by decide) hl.1.1) (fun d _ hd => h.2.2.2 d hd.1)
theorem netI_mk {G : Gx} {z z' : Sto} {x gl pt ol : Nat} {ga : Nat → Nat} {N : NT} (hN : netI G z x gl pt ol ga N) (h : mkF z z') (hE : ∀ b, b ∈ sL z' → b ≠ G.2.2.2 0) : netI G z' x gl pt ol ga N := by
  obtain ⟨hO, ⟨⟨a1, a2, a3⟩, ⟨b1, b2, b3⟩, ⟨cg, c1, c2⟩, ⟨no, fo, cap, d1, d2⟩, e1, e2, f1, f2, f3⟩, ⟨vs, v1, v2⟩, ps, p1, p2⟩ := hN
  have ga1 : ∀ i, i < nN N → ga i ∈ sL z := fun i hi => (e1.1 i hi).1.1
  refine ⟨hO, ⟨⟨h.1 _ _ a1, (h.2.2.1 160 x (by decide) a1.1).trans a2, (h.2.2.1 161 x (by decide) a1.1).trans a3⟩, ⟨h.1 _ _ b1, (h.2.2.1 128 pt (by decide) b1.1).trans b2, b3.1, fun d hd hi => ?_⟩, ⟨cg, h.lst c1, c2⟩, ⟨no, fo, cap, h.lst d1, d2⟩, ⟨fun i hi => ?_, e1.2⟩, fun i hi => ⟨(h.2.1 67 _ (by decide) (ga1 i hi)).trans (e2 i hi).1, (h.2.1 68 _ (by decide) (ga1 i hi)).trans (e2 i hi).2⟩, (h.2.1 162 x (by decide) a1.1).trans f1, (h.2.1 163 x (by decide) a1.1).trans f2, (h.2.1 164 x (by decide) a1.1).trans f3⟩, ⟨vs, (h.2.1 167 x (by decide) a1.1).trans v1, fun q => ?_⟩, ps, (h.2.1 168 x (by decide) a1.1).trans p1, fun q => ?_⟩
  · have hd' := hd
    rw [h.2.2.1 1 gl (by decide) c1.1.1] at hd
    rw [h.2.2.1 1 ol (by decide) d1.1.1]
    rcases c1.2.2.2.2 with ⟨-, q2⟩ | ⟨-, d9, q2, q3, -⟩
    · rw [hd] at q2
      cases q2
      exact absurd rfl (hE _ hi.1)
    · rw [hd] at q2
      cases q2
      exact b3.2 d hd q3
  · obtain ⟨g1, g2, g3, g4, g5⟩ := e1.1 i hi
    exact ⟨h.1 _ _ g1, (h.2.1 64 _ (by decide) g1.1).trans g2, (h.2.1 65 _ (by decide) g1.1).trans g3, by rw [h.2.2.1 66 _ (by decide) g1.1]; exact h.chn g4, g5⟩
  · obtain ⟨w1, w2, w3⟩ := v2 q
    exact ⟨fun i hi => ⟨(h.2.1 69 _ (by decide) (ga1 i hi)).trans (w1 i hi).1, (h.2.1 70 _ (by decide) (ga1 i hi)).trans (w1 i hi).2⟩, (h.2.1 165 x (by decide) a1.1).trans w2, (h.2.1 166 x (by decide) a1.1).trans w3⟩
  · obtain ⟨w1, w2, os, cap9, w3, w4⟩ := p2 q
    refine ⟨fun v hv => by rw [h.2.1 78 _ (by decide) (ga1 v hv)]; exact w1 v hv, ?_, os, cap9, h.lst w3, w4⟩
    rw [h.2.1 129 pt (by decide) b1.1, w2]
    congr 1
    exact cnt_congr (fun i hi => by rw [h.2.1 78 _ (by decide) (ga1 i hi)])
def Tb (f : Nat) : Nat := if 6 < f then 2 ^ (f - 6) else 1
def Ss (N : NT) (f t : Nat) : Nat := if 6 ≤ f then cnt (stl N) (64 * t) else if t = 0 then 0 else cnt (stl N) (2 ^ f)
theorem p26 : ∀ f, f < 6 → 2 ^ f ≤ 64 := by decide
theorem Tb_le : ∀ f, f ≤ 12 → Tb f ≤ 64 := by decide
theorem Tb_eq : ∀ f, f ≤ 12 → 6 ≤ f → 64 * Tb f = 2 ^ f := by decide
theorem Ss_0 (N : NT) (f : Nat) : Ss N f 0 = 0 := by unfold Ss; split <;> rfl
theorem Ss_end (N : NT) {f : Nat} (hf : f ≤ 12) : Ss N f (Tb f) = cnt (stl N) (2 ^ f) := by
  unfold Ss
  by_cases h : 6 ≤ f
  · rw [if_pos h, Tb_eq f hf h]
  · rw [if_neg h, if_neg (by unfold Tb; rw [if_neg (by omega)]; decide)]
theorem Ss_step (N : NT) {f t : Nat} (ht : t < Tb f) : Ss N f t + cnt (fun b => stl N (64 * t + b) && (decide (6 ≤ f) || decide (b < 2 ^ f))) 64 = Ss N f (t + 1) := by
  unfold Ss
  by_cases h : 6 ≤ f
  · rw [if_pos h, if_pos h, show 64 * (t + 1) = 64 * t + 64 by omega, cnt_shift (stl N) (64 * t) 64]
    congr 1
    exact cnt_congr (fun b _ => by rw [decide_eq_true h, Bool.true_or, Bool.and_true])
  · have h0 : t = 0 := by unfold Tb at ht; rw [if_neg (by omega)] at ht; omega
    subst h0
    rw [if_neg h, if_neg h, if_pos rfl, if_neg (by decide), Nat.zero_add]
    have hle := p26 f (by omega)
    have h9 := cnt_cut (stl N) (2 ^ f) (64 - 2 ^ f)
    rw [show 2 ^ f + (64 - 2 ^ f) = 64 by omega] at h9
    rw [← h9]
    exact cnt_congr (fun b _ => by rw [decide_eq_false h, Bool.false_or, show 64 * 0 + b = b by omega])
theorem Ss_le (N : NT) {f t : Nat} (hf : f ≤ 12) (ht : t ≤ 64) : Ss N f t ≤ 4096 := by
  unfold Ss
  split
  · exact Nat.le_trans (cnt_le _ _) (by omega)
  · split
    · omega
    · exact Nat.le_trans (cnt_le _ _) (by have := p26 f (by omega); omega)
theorem stl_eq {N : NT} {W : Nat → Int32} {c : Nat} (h : ∀ i, i < nN N → W i = nV (nCh N c) (nRC (nCh N c)) i) {q : Bool} (hq : q = true ↔ ∀ j, j < nN N → ¬ W j = 2) : q = stl N c := by
  have h1 : stl N c = true ↔ ∀ j, j < nN N → ¬ W j = 2 := by
    unfold stl
    rw [decide_eq_true_iff]
    unfold nUn
    constructor
    · intro h9 j hj e9
      have h8 : cnt (fun i => decide (nV (nCh N c) (nRC (nCh N c)) i = 2)) (nN N) = 0 := h9
      exact absurd (by rw [← h j hj]; exact e9) (of_decide_eq_false (cnt_pos h8 j hj))
    · intro h9
      show cnt (fun i => decide (nV (nCh N c) (nRC (nCh N c)) i = 2)) (nN N) = 0
      exact cnt_zero (fun j hj => decide_eq_false (by rw [← h j hj]; exact h9 j hj))
  cases q with
  | true => exact (h1.mpr (hq.mp rfl)).symm
  | false =>
    cases e : stl N c with
    | false => rfl
    | true => exact absurd (hq.mpr (h1.mp e)) (by decide)
set_option maxHeartbeats 4000000 in
set_option maxRecDepth 100000 in
theorem c_Lanes_init (l : Launch) (G : Gx) (z : Sto) {la gl ol : Nat} (hla : is z la 3) : Ct l yX2_init wsX2_init ({ frames := 1, cells := 0, slots := 0, locals := 12 } : Room) G z [.ref la, .ref gl, .ref ol] (fun rv z' => rv = none ∧ z' = putR (putR z 96 la (some gl)) 97 la (some ol)) := by
  refine ct_of (cc := cX2_init) (maxL := 3) (ret := none) (lv0 := [(0, .ref la), (1, .ref gl), (2, .ref ol)]) (by decide) rfl (by simp [lg_sl, cat_ref, cat_null, cat_int, cat_long, rf_cat]) (by simp [lv_args, cat_ref, cat_null, cat_int, cat_long, rf_cat]) ?_
  intro p e s m args below meth c C hin
  have i3 : ∀ w ∈ u_ws RX2 TX2 2, w ∈ wsX2_init := by decide +kernel
  refine w_aload_n C 0 dX2_init_0 rfl rfl (by first | rfl | exact isRef_rf _) ?_
  refine w_objInit C (by decide +kernel) (by decide +kernel) (by decide +kernel) dX2_init_1 (by decide) (by decide) ?_
  refine w_aload_n C 0 dX2_init_4 rfl rfl (by first | rfl | exact isRef_rf _) ?_
  refine w_aload_n C 1 dX2_init_5 rfl rfl (by first | rfl | exact isRef_rf _) ?_
  refine w_putRF (ci := 3) (k := 0) (f := 96) (v := (some gl)) C rfl i3 (by decide +kernel) (by decide) (by decide) rfl rfl tyX2 tyX2_ok nmX2 rfl hin rfl (by first | rfl | exact nar_rf _ _ | exact nar_ra _ _) (by first | rfl | exact fit_rf _ _ | exact fit_ra _ _) dX2_init_6 hla ?_
  refine w_aload_n C 0 dX2_init_9 rfl rfl (by first | rfl | exact isRef_rf _) ?_
  refine w_aload_n C 2 dX2_init_10 rfl rfl (by first | rfl | exact isRef_rf _) ?_
  refine w_putRF (ci := 3) (k := 1) (f := 97) (v := (some ol)) C rfl i3 (by decide +kernel) (by decide) (by decide) rfl rfl tyX2 tyX2_ok nmX2 rfl hin rfl (by first | rfl | exact nar_rf _ _ | exact nar_ra _ _) (by first | rfl | exact fit_rf _ _ | exact fit_ra _ _) dX2_init_11 (is_R hla) ?_
  exact w_vret C dX2_init_14 ⟨rfl, rfl⟩
set_option maxHeartbeats 4000000 in
set_option maxRecDepth 100000 in
theorem c_settlingChoices (l : Launch) (G : Gx) (z : Sto) {la gl ol n : Nat} {ga : Nat → Nat} {N : NT} {os : List Nat} (h : lnH G z la gl ol n ga N os) : Ct l yX2_settlingChoices wsX2_settlingChoices ({ frames := 5, cells := 0, slots := 0, locals := 150 } : Room) G z [.ref la] (fun rv z' => rv = some (.int (nI (nCho N))) ∧ jF z z') := by
  refine ct_of (cc := cX2_settlingChoices) (maxL := 7) (ret := (some .int)) (lv0 := [(0, .ref la)]) (by decide) rfl (by simp [lg_sl, cat_ref, cat_null, cat_int, cat_long, rf_cat]) (by simp [lv_args, cat_ref, cat_null, cat_int, cat_long, rf_cat]) ?_
  intro p e s m args below meth c C hin
  obtain ⟨⟨hla, hl96, hl97⟩, hnn, ⟨cg, hgl⟩, ⟨co, hol⟩, hos, hall, hlen, hgts, h68, hO⟩ := id h
  subst hnn
  have hn := hO.1
  have hf12 := fr_le hO
  obtain ⟨f, hf⟩ : ∃ f, f = cnt (fr N) (nN N) := ⟨_, rfl⟩
  rw [← hf] at hf12
  have hcho : nCho N = cnt (stl N) (2 ^ f) := by rw [hf]; rfl
  have hT := Tb_le f hf12
  have loop : ∀ (cv : Int64), (∀ b, b < 64 → tb cv b = (decide (6 ≤ f) || decide (b < 2 ^ f))) → ∀ (r t : Nat) (z1 : Sto), t + r = Tb f → jF z z1 → Wp p l e ({ frames := 5, cells := 0, slots := 0, locals := 150 } : Room) s m args below meth c G 7 0 0 (MQ below (cPost G (fun rv z' => rv = some (.int (nI (nCho N))) ∧ jF z z')) args s (0) (0) (gA G)) z1 54 [(6, .int (nI t)), (5, .int (nI (Ss N f t))), (3, .long cv), (2, .int (nI (Tb f))), (1, .int (nI f)), (0, .ref la)] [] := by
    intro cv hcv r
    induction r with
    | zero =>
      intro t z1 ht hF
      have htt : t = Tb f := by omega
      subst htt
      refine w_iload C 0 dX2_settlingChoices_54 rfl ?_
      refine w_iload_n C 3 dX2_settlingChoices_56 rfl rfl ?_
      refine w_icmp_ge (tgt := 90) C dX2_settlingChoices_57 (by decide) (fun c1 => ?_) (fun c1 => ?_)
      · refine w_iload C 1 dX2_settlingChoices_90 rfl ?_
        exact w_iret C dX2_settlingChoices_92 ⟨by rw [Ss_end N hf12, hcho], hF⟩
      · exact absurd (nI_le (Nat.le_refl _) (by omega)) c1
    | succ r ih =>
      intro t z1 ht hF
      have htt : t < Tb f := by omega
      have hx1 := lnH_jF h hF
      have hOb : ∀ b, b < 64 → nOK (nN N, nSo N, chH N (64 * t + b), nFL N) := fun b _ => nOK_ch hO (64 * t + b)
      refine w_iload C 0 dX2_settlingChoices_54 rfl ?_
      refine w_iload_n C 3 dX2_settlingChoices_56 rfl rfl ?_
      refine w_icmp_ge (tgt := 90) C dX2_settlingChoices_57 (by decide) (fun c1 => ?_) (fun c1 => ?_)
      · exact absurd c1 (nI_ge htt (by omega))
      · refine w_aload_n C 5 dX2_settlingChoices_60 rfl rfl (by first | rfl | exact isRef_rf _) ?_
        refine w_iload C 0 dX2_settlingChoices_61 rfl ?_
        refine w_callV (ci := 3) (As := [.int (nI t)]) (rest := []) C (cwV 1 C.1.2.2.2.2 gX2_settlingChoices_X2_startBatch rfl rfl rfl (by decide +kernel) ⟨Nat.le_of_ble_eq_true rfl, Nat.le_of_ble_eq_true rfl⟩) hx1.1.1 rfl (by decide) rfl rfl (by first | decide | simp [cat_ref, cat_null, cat_int, cat_long, rf_cat]) dX2_settlingChoices_63 ⟨Nat.le_of_ble_eq_true rfl, Nat.le_of_ble_eq_true rfl⟩ (c_startBatch l G z1 hx1 (t := t) (by omega)) (fun rv z2 h9 => ?_)
        obtain ⟨rfl, hF2, hr2⟩ := h9
        have hx2 := lnH_jF hx1 hF2
        refine w_aload_n C 5 dX2_settlingChoices_66 rfl rfl (by first | rfl | exact isRef_rf _) ?_
        refine w_callV (ci := 3) (As := []) (rest := []) C (cwV 0 C.1.2.2.2.2 gX2_settlingChoices_X2_spreadLanes rfl rfl rfl (by decide +kernel) ⟨Nat.le_of_ble_eq_true rfl, Nat.le_of_ble_eq_true rfl⟩) hx2.1.1 rfl (by decide) rfl rfl (by first | decide | simp [cat_ref, cat_null, cat_int, cat_long, rf_cat]) dX2_settlingChoices_67 ⟨Nat.le_of_ble_eq_true rfl, Nat.le_of_ble_eq_true rfl⟩ (c_spreadLanes l G z2 hx2 (lanes_fix hOb) hr2 (lanes_start (fun b => chH N (64 * t + b)))) (fun rv z3 h9 => ?_)
        obtain ⟨rfl, hF3, W3, hr3, hI3, hs3⟩ := h9
        have hx3 := lnH_jF hx2 hF3
        have hdone := lanes_done hO hOb hI3 hs3
        refine w_iload C 1 dX2_settlingChoices_70 rfl ?_
        refine w_aload_n C 5 dX2_settlingChoices_72 rfl rfl (by first | rfl | exact isRef_rf _) ?_
        refine w_callV (ci := 3) (As := []) (rest := [.int (nI (Ss N f t))]) C (cwV 0 C.1.2.2.2.2 gX2_settlingChoices_X2_lanesAllKnown rfl rfl rfl (by decide +kernel) ⟨Nat.le_of_ble_eq_true rfl, Nat.le_of_ble_eq_true rfl⟩) hx3.1.1 rfl (by decide) rfl rfl (by first | decide | simp [cat_ref, cat_null, cat_int, cat_long, rf_cat]) dX2_settlingChoices_73 ⟨Nat.le_of_ble_eq_true rfl, Nat.le_of_ble_eq_true rfl⟩ (c_lanesAllKnown l G z3 hx3 hr3) (fun rv z4 h9 => ?_)
        obtain ⟨v9, rfl, hv9, e9⟩ := h9
        replace e9 := e9.symm
        subst e9
        refine w_lload_n C 2 dX2_settlingChoices_76 rfl rfl ?_
        refine w_land C dX2_settlingChoices_77 ?_
        refine w_callS (As := [.long (v9 &&& cv)]) (rest := [.int (nI (Ss N f t))]) C (va_cwS 1 C.1.2.2.2.2 gX2_settlingChoices_J13_bitCount_95d88 rfl rfl rfl (by decide +kernel) ⟨Nat.le_of_ble_eq_true rfl, Nat.le_of_ble_eq_true rfl⟩) rfl rfl (by first | decide | simp [cat_ref, cat_null, cat_int, cat_long, rf_cat]) dX2_settlingChoices_78 ⟨Nat.le_of_ble_eq_true rfl, Nat.le_of_ble_eq_true rfl⟩ (c_bitCount l G z3 (x := v9 &&& cv)) (fun rv z5 h9 => ?_)
        obtain ⟨rfl, e9⟩ := h9
        replace e9 := e9.symm
        subst e9
        have hbc : cnt (fun b => tb (v9 &&& cv) b) 64 = cnt (fun b => stl N (64 * t + b) && (decide (6 ≤ f) || decide (b < 2 ^ f))) 64 := cnt_congr (fun b hb => by rw [tb_and, hcv b hb, stl_eq (c := 64 * t + b) (hdone b hb) (hv9 b hb)])
        rw [hbc]
        refine w_iadd C dX2_settlingChoices_81 ?_
        rw [nI_add, Ss_step N htt]
        refine w_istore (lvq := [(5, _), (6, _), (3, _), (2, _), (1, _), (0, _)]) C dX2_settlingChoices_82 (by decide) rfl ?_
        refine w_iincB (v := nI (t + 1)) (lvq := [(6, _), (5, _), (3, _), (2, _), (1, _), (0, _)]) C 1 0 rfl rfl (by first | rfl | exact rf_cat _) dX2_settlingChoices_84 rfl (nI_1 t) (by decide) rfl ?_
        refine w_goto (tgt := 54) C dX2_settlingChoices_87 (by decide) ?_
        exact w_sub [0, 1, 2, 3, 4, 5] rfl (ih (t + 1) z3 (by omega) ((hF.tr hF2).tr hF3))
  have k47 : ∀ (cv : Int64), (∀ b, b < 64 → tb cv b = (decide (6 ≤ f) || decide (b < 2 ^ f))) → Wp p l e ({ frames := 5, cells := 0, slots := 0, locals := 150 } : Room) s m args below meth c G 7 0 0 (MQ below (cPost G (fun rv z' => rv = some (.int (nI (nCho N))) ∧ jF z z')) args s (0) (0) (gA G)) z 47 [(2, .int (nI (Tb f))), (1, .int (nI f)), (0, .ref la)] [.long cv] := by
    intro cv hcv
    refine w_lstore_n (lvq := [(3, _), (2, _), (1, _), (0, _)]) C dX2_settlingChoices_47 rfl (by decide) rfl ?_
    refine w_iconst (v := 0) C dX2_settlingChoices_48 (by decide) ?_
    refine w_istore (lvq := [(5, _), (3, _), (2, _), (1, _), (0, _)]) C dX2_settlingChoices_49 (by decide) rfl ?_
    refine w_iconst (v := 0) C dX2_settlingChoices_51 (by decide) ?_
    refine w_istoreB (lvq := [(6, _), (5, _), (3, _), (2, _), (1, _), (0, _)]) C 0 rfl rfl (by first | rfl | exact rf_cat _) dX2_settlingChoices_52 (by decide) rfl ?_
    exact w_sub [0, 1, 2, 3, 4, 5] rfl (by have h9 := loop cv hcv (Tb f) 0 z (by omega) (jF.rf z); rw [Ss_0] at h9; exact h9)
  have k25 : Wp p l e ({ frames := 5, cells := 0, slots := 0, locals := 150 } : Room) s m args below meth c G 7 0 0 (MQ below (cPost G (fun rv z' => rv = some (.int (nI (nCho N))) ∧ jF z z')) args s (0) (0) (gA G)) z 25 [(1, .int (nI f)), (0, .ref la)] [.int (nI (Tb f))] := by
    refine w_istore_nB (lvq := [(2, _), (1, _), (0, _)]) C 0 rfl rfl (by first | rfl | exact rf_cat _) dX2_settlingChoices_25 rfl (by decide) rfl ?_
    refine w_iload_n C 1 dX2_settlingChoices_26 rfl rfl ?_
    refine w_getsB C (by decide +kernel) dX2_settlingChoices_27 ?_
    refine w_tlenB C dX2_settlingChoices_30 ?_
    refine w_icmp_lt (tgt := 40) C dX2_settlingChoices_31 (by decide) (fun c2 => ?_) (fun c2 => ?_)
    · have hlt : f < 6 := by
        refine Decidable.byContradiction fun q => ?_
        exact absurd c2 (Int32.not_lt.mpr (nI_le (a := 6) (b := f) (by omega) (by omega)))
      refine w_lconst (v := 1) C dX2_settlingChoices_40 (by decide) ?_
      refine w_iconst (v := 1) C dX2_settlingChoices_41 (by decide) ?_
      refine w_iload_n C 1 dX2_settlingChoices_42 rfl rfl ?_
      refine w_ishl C dX2_settlingChoices_43 ?_
      refine w_lshl C dX2_settlingChoices_44 rfl ?_
      refine w_lconst (v := 1) C dX2_settlingChoices_45 (by decide) ?_
      refine w_lsub C dX2_settlingChoices_46 ?_
      first
      | exact w_sub [0, 1, 2] rfl (k47 _ (fun b hb => by rw [tb_m1 b hb, decide_eq_true hge, Bool.true_or]))
      | exact w_sub [0, 1, 2] rfl (k47 _ (fun b hb => by rw [ch_bits f hlt b hb, decide_eq_false (show ¬ 6 ≤ f by omega), Bool.false_or]))
    · have hge : 6 ≤ f := by
        refine Decidable.byContradiction fun q => c2 ?_
        exact Int32.not_le.mp (nI_ge (a := f) (b := 6) (by omega) (by decide))
      refine w_ldc2 (v := (-1)) C dX2_settlingChoices_34 (by decide +kernel) ?_
      refine w_goto (tgt := 47) C dX2_settlingChoices_37 (by decide) ?_
      first
      | exact w_sub [0, 1, 2] rfl (k47 _ (fun b hb => by rw [tb_m1 b hb, decide_eq_true hge, Bool.true_or]))
      | exact w_sub [0, 1, 2] rfl (k47 _ (fun b hb => by rw [ch_bits f hlt b hb, decide_eq_false (show ¬ 6 ≤ f by omega), Bool.false_or]))
  refine w_aload_n C 0 dX2_settlingChoices_0 rfl rfl (by first | rfl | exact isRef_rf _) ?_
  refine w_callV (ci := 3) (As := []) (rest := []) C (cwV 0 C.1.2.2.2.2 gX2_settlingChoices_X2_freeInputs rfl rfl rfl (by decide +kernel) ⟨Nat.le_of_ble_eq_true rfl, Nat.le_of_ble_eq_true rfl⟩) hla rfl (by decide) rfl rfl (by first | decide | simp [cat_ref, cat_null, cat_int, cat_long, rf_cat]) dX2_settlingChoices_1 ⟨Nat.le_of_ble_eq_true rfl, Nat.le_of_ble_eq_true rfl⟩ (c_freeInputs l G z h) (fun rv z2 h9 => ?_)
  obtain ⟨rfl, e9⟩ := h9
  replace e9 := e9.symm
  subst e9
  rw [← hf]
  refine w_istore_nB (lvq := [(1, _), (0, _)]) C 0 rfl rfl (by first | rfl | exact rf_cat _) dX2_settlingChoices_4 rfl (by decide) rfl ?_
  refine w_iload_n C 0 dX2_settlingChoices_5 rfl rfl ?_
  refine w_getsB C (by decide +kernel) dX2_settlingChoices_6 ?_
  refine w_tlenB C dX2_settlingChoices_9 ?_
  refine w_icmp_le (tgt := 24) C dX2_settlingChoices_10 (by decide) (fun c1 => ?_) (fun c1 => ?_)
  · have hle : ¬ 6 < f := fun q => absurd c1 (nI_ge (a := 6) (b := f) q (by omega))
    refine w_iconst (v := 1) C dX2_settlingChoices_24 (by decide) ?_
    first
    | exact w_sub [0, 1] rfl (by have h9 := k25; unfold Tb at h9; rw [if_pos hgt] at h9; exact h9)
    | exact w_sub [0, 1] rfl (by have h9 := k25; unfold Tb at h9; rw [if_neg hle] at h9; exact h9)
  · have hgt : 6 < f := by
      refine Decidable.byContradiction fun q => c1 ?_
      exact nI_le (a := f) (b := 6) (by omega) (by decide)
    refine w_iconst (v := 1) C dX2_settlingChoices_13 (by decide) ?_
    refine w_iload_n C 0 dX2_settlingChoices_14 rfl rfl ?_
    refine w_getsB C (by decide +kernel) dX2_settlingChoices_15 ?_
    refine w_tlenB C dX2_settlingChoices_18 ?_
    refine w_isub C dX2_settlingChoices_19 ?_
    refine w_ishl C dX2_settlingChoices_20 ?_
    rw [bt_eq f hf12 hgt]
    refine w_goto (tgt := 25) C dX2_settlingChoices_21 (by decide) ?_
    first
    | exact w_sub [0, 1] rfl (by have h9 := k25; unfold Tb at h9; rw [if_pos hgt] at h9; exact h9)
    | exact w_sub [0, 1] rfl (by have h9 := k25; unfold Tb at h9; rw [if_neg hle] at h9; exact h9)
set_option maxHeartbeats 4000000 in
set_option maxRecDepth 100000 in
theorem c_choices (l : Launch) (G : Gx) (z : Sto) {x gl pt ol : Nat} {ga : Nat → Nat} {N : NT} (h : netI G z x gl pt ol ga N) : Ct l yX4_choices wsX4_choices ({ frames := 11, cells := 901, slots := 3602, locals := 350 } : Room) G z [.ref x] (fun rv z' => rv = some (.int (nI (nCho N))) ∧ kfr z z' ∧ netI G z' x gl pt ol ga N) := by
  refine ct_of (cc := cX4_choices) (maxL := 1) (ret := (some .int)) (lv0 := [(0, .ref x)]) (by decide) rfl (by simp [lg_sl, cat_ref, cat_null, cat_int, cat_long, rf_cat]) (by simp [lv_args, cat_ref, cat_null, cat_int, cat_long, rf_cat]) ?_
  intro p e s m args below meth c C hin
  have i3 : ∀ w ∈ u_ws RX2 TX2 2, w ∈ wsX4_choices := by decide +kernel
  have i4 : ∀ w ∈ u_ws RX3 TX3 4, w ∈ wsX4_choices := by decide +kernel
  have i5 : ∀ w ∈ u_ws RX4 TX4 9, w ∈ wsX4_choices := by decide +kernel
  refine w_aload_n C 0 dX4_choices_0 rfl rfl (by first | rfl | exact isRef_rf _) ?_
  refine w_callV (ci := 5) (As := []) (rest := []) C (cwV 0 C.1.2.2.2.2 gX4_choices_X4_findParts rfl rfl rfl (by decide +kernel) ⟨Nat.le_of_ble_eq_true rfl, Nat.le_of_ble_eq_true rfl⟩) h.2.1.1.1 rfl (by decide) rfl rfl (by first | decide | simp [cat_ref, cat_null, cat_int, cat_long, rf_cat]) dX4_choices_1 ⟨Nat.le_of_ble_eq_true rfl, Nat.le_of_ble_eq_true rfl⟩ (c_findParts l G z h) (fun rv z1 h9 => ?_)
  obtain ⟨rfl, hK, hN, hR⟩ := h9
  have hG1 := hN.2.1
  refine w_new (ci := 3) C rfl i3 tyX2 tyX2_ok (by decide +kernel) (by decide +kernel) (by decide +kernel) (by decide) fd3 dX4_choices_4 (Nat.le_of_ble_eq_true rfl) (Nat.le_of_ble_eq_true rfl) (fun q hq hlow => ?_)
  have hq0 : is (newO z1 q 3) q 3 := is_newO_self z1 q 3
  have ho : oF z1 (newO z1 q 3) := oF_new hq
  refine w_dup C dX4_choices_7 (by first | rfl | exact rf_cat _) ?_
  refine w_aload_n C 0 dX4_choices_8 rfl rfl (by first | rfl | exact isRef_rf _) ?_
  refine w_getRs (ci := 5) (k := 0) (f := 160) C rfl i5 (by decide +kernel) (by decide) (by decide) rfl rfl dX4_choices_9 (ho.1 _ _ hG1.1.1) ((ho.2.1 160 x hG1.1.1.1).2.2.trans hG1.1.2.1) ?_
  refine w_aload_n C 0 dX4_choices_12 rfl rfl (by first | rfl | exact isRef_rf _) ?_
  refine w_getRs (ci := 5) (k := 1) (f := 161) C rfl i5 (by decide +kernel) (by decide) (by decide) rfl rfl dX4_choices_13 (ho.1 _ _ hG1.1.1) ((ho.2.1 161 x hG1.1.1.1).2.2.trans hG1.1.2.2) ?_
  refine w_getRs (ci := 4) (k := 0) (f := 128) C rfl i4 (by decide +kernel) (by decide) (by decide) rfl rfl dX4_choices_16 (ho.1 _ _ hG1.2.1.1) ((ho.2.1 128 pt hG1.2.1.1.1).2.2.trans hG1.2.1.2.1) ?_
  refine w_callI (As := [.ref gl, .ref ol]) (b := q) (rest := [.ref q]) C (cwI 2 C.1.2.2.2.2 gX4_choices_X2_init rfl rfl rfl (C.1.2.2.2.2 _ (by decide +kernel)) (C.1.2.2.2.2 _ (by decide +kernel)) (C.1.2.2.2.2 _ (by decide +kernel)) rfl (by decide +kernel) ⟨Nat.le_of_ble_eq_true rfl, Nat.le_of_ble_eq_true rfl⟩) rfl rfl (by first | decide | simp [cat_ref, cat_null, cat_int, cat_long, rf_cat]) dX4_choices_19 ⟨Nat.le_of_ble_eq_true rfl, Nat.le_of_ble_eq_true rfl⟩ (c_Lanes_init l G _ hq0) (fun rv z2 h9 => ?_)
  obtain ⟨rfl, e9⟩ := h9
  replace e9 := e9.symm
  refine w_sep C (fun hE => ?_)
  have hoF : oF z1 z2 := by rw [← e9]; exact oF_R (oF_R ho hq) hq
  have hN2 : netI G z2 x gl pt ol ga N := netI_mk hN hoF.mkF hE
  have hla : is z2 q 3 := by rw [← e9]; exact is_R (is_R hq0)
  have hl96 : sR z2 96 q = some gl := by rw [← e9]; exact rR_Rf (by decide) rR_Rs
  have hl97 : sR z2 97 q = some ol := by rw [← e9]; exact rR_Rs
  have hL : ∃ os, lnH G z2 q gl ol (nN N) ga N os := by
    obtain ⟨-, -, os, cap9, q1, q2, q3, q4, q5⟩ := hR
    obtain ⟨cg, c1, c2⟩ := hN2.2.1.2.2.1
    exact ⟨os, ⟨hla, hl96, hl97⟩, rfl, ⟨cg, c1⟩, ⟨cap9, hoF.lst q1⟩, q4, q5, q3, hN2.2.1.2.2.2.2.1, fun i hi => (hN2.2.1.2.2.2.2.2.1 i hi).2, hN2.1⟩
  obtain ⟨os, hL⟩ := hL
  refine w_callV (ci := 3) (As := []) (rest := []) C (cwV 0 C.1.2.2.2.2 gX4_choices_X2_settlingChoices rfl rfl rfl (by decide +kernel) ⟨Nat.le_of_ble_eq_true rfl, Nat.le_of_ble_eq_true rfl⟩) hla rfl (by decide) rfl rfl (by first | decide | simp [cat_ref, cat_null, cat_int, cat_long, rf_cat]) dX4_choices_22 ⟨Nat.le_of_ble_eq_true rfl, Nat.le_of_ble_eq_true rfl⟩ (c_settlingChoices l G z2 hL) (fun rv z3 h9 => ?_)
  obtain ⟨rfl, hJ⟩ := h9
  exact w_iret C dX4_choices_25 ⟨rfl, (hK.tr hoF.kfr).tr hJ.kfr, hJ.netI hN2⟩
