/-! ===== THE NET ON NUMBERS: gates, sorts, what they hold, feeds; the spread by rounds ===== -/
abbrev NT : Type := Nat × (Nat → Int32) × (Nat → Int32) × List (Nat × Nat × Int32)
def nN (N : NT) : Nat := N.1
def nSo (N : NT) : Nat → Int32 := N.2.1
def nHd (N : NT) : Nat → Int32 := N.2.2.1
def nFL (N : NT) : List (Nat × Nat × Int32) := N.2.2.2
/-- the feeds of a gate, the youngest first -/
def nFd (N : NT) (i : Nat) : List (Nat × Int32) := (((nFL N).filter (fun t => decide (t.1 = i))).reverse).map (fun t => t.2)
def dcd (s : Int32) : Int32 := if s = 2 then 0 else 1
def gvf (dec : Int32) (L : List Int32) : Int32 := if dec ∈ L then dec else if (2 : Int32) ∈ L then 2 else 1 - dec
def nV (N : NT) : Nat → Nat → Int32
  | 0, i => if isLog (nSo N i) then 2 else nHd N i
  | k + 1, i => if isLog (nSo N i) = true ∧ nV N k i = 2 then gvf (dcd (nSo N i)) ((nFd N i).map (fun x => tkv (nV N k x.1) x.2)) else nV N k i
def nR (N : NT) : Nat → Nat → Int32
  | 0, i => if nV N 0 i = 2 then -1 else 0
  | k + 1, i => if nV N k i = 2 ∧ ¬ nV N (k + 1) i = 2 then nI (k + 1) else nR N k i
def nAd (N : NT) (k : Nat) : Nat := cnt (fun i => decide (nV N k i = 2 ∧ ¬ nV N (k + 1) i = 2)) (nN N)
def nUn (N : NT) (k : Nat) : Nat := cnt (fun i => decide (nV N k i = 2)) (nN N)
def rcf (N : NT) : Nat → Nat → Nat
  | 0, k => k
  | f + 1, k => if nAd N k = 0 then k else rcf N f (k + 1)
/-- how many rounds -/
def nRC (N : NT) : Nat := rcf N 600 0
theorem nV_keep (N : NT) {k i : Nat} (h : ¬ nV N k i = 2) : nV N (k + 1) i = nV N k i := by
  show (if isLog (nSo N i) = true ∧ nV N k i = 2 then _ else nV N k i) = _
  rw [if_neg (fun q => h q.2)]
theorem nR_keep (N : NT) {k i : Nat} (h : nV N (k + 1) i = nV N k i) : nR N (k + 1) i = nR N k i := by
  show (if nV N k i = 2 ∧ ¬ nV N (k + 1) i = 2 then nI (k + 1) else nR N k i) = _
  rw [if_neg (fun q => q.2 (h.trans q.1))]
theorem nR_low (N : NT) : ∀ (k i : Nat), nR N k i = -1 ∨ ∃ j, j ≤ k ∧ nR N k i = nI j := by
  intro k i
  induction k with
  | zero =>
    show (if nV N 0 i = 2 then (-1 : Int32) else 0) = -1 ∨ _
    by_cases h : nV N 0 i = 2
    · rw [if_pos h]; exact Or.inl rfl
    · refine Or.inr ⟨0, Nat.le_refl _, ?_⟩
      show (if nV N 0 i = 2 then (-1 : Int32) else 0) = _
      rw [if_neg h]; rfl
  | succ k ih =>
    by_cases h : nV N k i = 2 ∧ ¬ nV N (k + 1) i = 2
    · refine Or.inr ⟨k + 1, Nat.le_refl _, ?_⟩
      show (if nV N k i = 2 ∧ ¬ nV N (k + 1) i = 2 then nI (k + 1) else nR N k i) = _
      rw [if_pos h]
    · have e : nR N (k + 1) i = nR N k i := by
        show (if nV N k i = 2 ∧ ¬ nV N (k + 1) i = 2 then nI (k + 1) else nR N k i) = _
        rw [if_neg h]
      rw [e]
      rcases ih with q | ⟨j, q1, q2⟩
      · exact Or.inl q
      · exact Or.inr ⟨j, by omega, q2⟩
theorem nR_lt (N : NT) {k i : Nat} (hk : k + 1 < 2 ^ 31) : ¬ nI (k + 1) ≤ nR N k i := by
  rcases nR_low N k i with h | ⟨j, h1, h2⟩
  · rw [h]
    intro q
    have h1 : (-1 : Int32) < 0 := by decide
    have h2 : (0 : Int32) ≤ nI (k + 1) := nI_pos' hk
    exact absurd (Int32.lt_of_lt_of_le h1 h2) (Int32.not_lt.mpr q)
  · rw [h2]
    exact nI_ge (by omega) hk
theorem nAd_zero {N : NT} {k : Nat} (h : nAd N k = 0) {i : Nat} (hi : i < nN N) : nV N (k + 1) i = nV N k i := by
  have := cnt_pos h i hi
  by_cases h2 : nV N k i = 2
  · by_cases h3 : nV N (k + 1) i = 2
    · rw [h3, h2]
    · rw [decide_eq_true ⟨h2, h3⟩] at this; cases this
  · exact nV_keep N h2
theorem cnt_split (P Q : Nat → Bool) (n : Nat) (h : ∀ i, i < n → Q i = true → P i = true) : cnt P n = cnt Q n + cnt (fun i => P i && !Q i) n := by
  induction n with
  | zero => rfl
  | succ n ih =>
    unfold cnt
    rw [ih (fun i hi => h i (by omega))]
    have := h n (by omega)
    cases hP : P n <;> cases hQ : Q n
    · simp
    · exact absurd (this hQ) (by rw [hP]; decide)
    · simp; omega
    · simp; omega
theorem nUn_succ (N : NT) (k : Nat) : nUn N k = nUn N (k + 1) + nAd N k := by
  have h1 := cnt_split (fun i => decide (nV N k i = 2)) (fun i => decide (nV N (k + 1) i = 2)) (nN N) (fun i _ hq => by
    refine decide_eq_true (Decidable.byContradiction fun h => ?_)
    have h2 := of_decide_eq_true hq
    rw [nV_keep N h] at h2
    exact h h2)
  have h2 : cnt (fun i => decide (nV N k i = 2) && !decide (nV N (k + 1) i = 2)) (nN N) = nAd N k := cnt_congr (fun i _ => by
    by_cases a : nV N k i = 2 <;> by_cases b : nV N (k + 1) i = 2 <;> simp [a, b])
  unfold nUn
  rw [h1, h2]
theorem vff_gen (t : Nat × Int32 → Int32) {dec : Int32} (hd : dec ≠ 2) : ∀ (L : List (Nat × Int32)) (b : Bool), vff t dec L b = if dec ∈ L.map t then dec else if (2 : Int32) ∈ L.map t ∨ b = false then 2 else 1 - dec := by
  intro L
  induction L with
  | nil => intro b; cases b <;> simp [vff]
  | cons x tl ih =>
    intro b
    show (if t x = dec then dec else vff t dec tl (if t x = 2 then false else b)) = _
    rw [List.map_cons]
    by_cases h : t x = dec
    · rw [if_pos h, if_pos (by rw [h]; exact List.mem_cons_self)]
    · rw [if_neg h, ih]
      have e1 : (dec ∈ t x :: tl.map t) ↔ dec ∈ tl.map t := ⟨fun q => (List.mem_cons.mp q).resolve_left (fun e => h e.symm), fun q => List.mem_cons_of_mem _ q⟩
      by_cases hm : dec ∈ tl.map t
      · rw [if_pos hm, if_pos (e1.mpr hm)]
      · rw [if_neg hm, if_neg (fun q => hm (e1.mp q))]
        by_cases h2 : t x = 2
        · rw [if_pos h2, if_pos (Or.inr rfl), if_pos (Or.inl (by rw [h2]; exact List.mem_cons_self))]
        · rw [if_neg h2]
          have e2 : ((2 : Int32) ∈ t x :: tl.map t) ↔ (2 : Int32) ∈ tl.map t := ⟨fun q => (List.mem_cons.mp q).resolve_left (fun e => h2 e.symm), fun q => List.mem_cons_of_mem _ q⟩
          by_cases h3 : (2 : Int32) ∈ tl.map t ∨ b = false
          · rw [if_pos h3, if_pos (h3.imp e2.mpr id)]
          · rw [if_neg h3, if_neg (fun q => h3 (q.imp e2.mp id))]
theorem vff_gvf (t : Nat × Int32 → Int32) {dec : Int32} (hd : dec ≠ 2) (L : List (Nat × Int32)) : vff t dec L true = gvf dec (L.map t) := by
  rw [vff_gen t hd]
  unfold gvf
  by_cases h1 : dec ∈ L.map t
  · rw [if_pos h1, if_pos h1]
  · rw [if_neg h1, if_neg h1]
    by_cases h2 : (2 : Int32) ∈ L.map t
    · rw [if_pos h2, if_pos (Or.inl h2)]
    · rw [if_neg h2, if_neg (fun q => q.elim h2 (fun q => by cases q))]
theorem dcd_ne (s : Int32) : dcd s ≠ 2 := by unfold dcd; split <;> decide
/-! ===== a store that differs in ints of objects alone ===== -/
def iF (P : Nat → Bool) (z z' : Sto) : Prop := (sL z' = sL z ∧ sK z' = sK z ∧ sJ z' = sJ z ∧ sR z' = sR z ∧ sN z' = sN z ∧ sE z' = sE z ∧ sF z' = sF z ∧ sQ z' = sQ z) ∧ ∀ f b, P f = false → sI z' f b = sI z f b
section IF42
variable {P P' : Nat → Bool} {z z' z'' : Sto}
theorem iF.rf (P : Nat → Bool) (z : Sto) : iF P z z := ⟨⟨rfl, rfl, rfl, rfl, rfl, rfl, rfl, rfl⟩, fun _ _ _ => rfl⟩
theorem iF.tr (h1 : iF P z z') (h2 : iF P z' z'') : iF P z z'' := by
  obtain ⟨⟨a1, a2, a3, a4, a5, a6, a7, a8⟩, a9⟩ := h1
  obtain ⟨⟨b1, b2, b3, b4, b5, b6, b7, b8⟩, b9⟩ := h2
  exact ⟨⟨b1.trans a1, b2.trans a2, b3.trans a3, b4.trans a4, b5.trans a5, b6.trans a6, b7.trans a7, b8.trans a8⟩, fun f b h => (b9 f b h).trans (a9 f b h)⟩
theorem iF.wk (h : iF P z z') (hP : ∀ f, P' f = false → P f = false) : iF P' z z' := ⟨h.1, fun f b q => h.2 f b (hP f q)⟩
theorem iF_I (z : Sto) (P : Nat → Bool) (f b : Nat) (v : Int32) (h : P f = true) : iF P z (putI z f b v) := ⟨⟨rfl, rfl, rfl, rfl, rfl, rfl, rfl, rfl⟩, fun g c hg => rI_If (fun e => by rw [e, h] at hg; cases hg) rfl⟩
theorem iF.is (h : iF P z z') {b k : Nat} (hb : is z b k) : is z' b k := ⟨by rw [h.1.1]; exact hb.1, by rw [h.1.2.1]; exact hb.2⟩
theorem iF.R (h : iF P z z') (f b : Nat) : sR z' f b = sR z f b := by rw [h.1.2.2.2.1]
theorem iF.chn (h : iF P z z') (hP : P 33 = false) {L : List (Nat × Int32)} {r : Option Nat} (hc : chn z r L) : chn z' r L := chn_ext (fun _ _ q => h.is q) (fun b => h.R 32 b) (fun b => h.2 33 b hP) (fun b => h.R 34 b) hc
theorem iF.lst (h : iF P z z') (hP : P 2 = false) {G : Gx} {a n cap : Nat} {f : Nat → Nat} (hl : lst G z a n f cap) : lst G z' a n f cap := lst_ext hl (fun _ _ q => h.is q) (h.2 2 a hP) (h.R 1 a) (fun d _ _ => ⟨by rw [h.1.2.2.2.2.1], by rw [h.1.2.2.2.2.2.2.2]⟩)
theorem iF.gts (h : iF P z z') (h1 : P 33 = false) (h2 : P 64 = false) (h3 : P 65 = false) {n : Nat} {ga : Nat → Nat} {so : Nat → Int32} {fd : Nat → List (Nat × Int32)} (hg : gts z n ga so fd) : gts z' n ga so fd := gts_ext hg (fun _ _ q => h.is q) (fun f b hf => h.2 f b (by rcases hf with rfl | rfl | rfl; exact h1; exact h2; exact h3)) (fun f b _ => h.R f b)
theorem iF.rsep (h : iF P z z') {gl ol : Nat} (hs : rsep z gl ol) : rsep z' gl ol := ⟨hs.1, fun d hd hi => by rw [h.R] at hd ⊢; exact hs.2 d hd ⟨by rw [← h.1.1]; exact hi.1, by rw [← h.1.2.1]; exact hi.2⟩⟩
end IF42
/-! ===== what the store holds of a net ===== -/
def nOK (N : NT) : Prop := nN N ≤ 600 ∧ (nFL N).length ≤ 2400 ∧ (∀ t ∈ nFL N, t.1 < nN N ∧ t.2.1 < nN N ∧ (t.2.2 = 0 ∨ t.2.2 = 1)) ∧ (∀ i, i < nN N → nSo N i = 0 ∨ nSo N i = 1 ∨ nSo N i = 2 ∨ nSo N i = 3) ∧
  (∀ i, i < nN N → (nHd N i = 0 ∨ nHd N i = 1 ∨ nHd N i = 2) ∧ (nSo N i = 1 → nHd N i = 0 ∨ nHd N i = 1)) ∧ cnt (fun i => decide (nSo N i = 0)) (nN N) ≤ 12 ∧ (∀ i, i < nN N → nSo N i = 1 → (nFd N i).length ≤ 1) ∧ (∀ i, i < nN N → nSo N i = 0 → nFd N i = [])
def netG (G : Gx) (z : Sto) (x gl pt ol : Nat) (ga : Nat → Nat) (N : NT) : Prop :=
  (is z x 5 ∧ sR z 160 x = some gl ∧ sR z 161 x = some pt) ∧ (is z pt 4 ∧ sR z 128 pt = some ol ∧ rsep z gl ol) ∧ (∃ capg, lst G z gl (nN N) ga capg ∧ capg ≤ 900) ∧ (∃ no fo cap, lst G z ol no fo cap ∧ cap ≤ 900) ∧
  gts z (nN N) ga (nSo N) (nFd N) ∧ (∀ i, i < nN N → sI z 67 (ga i) = nI (nFd N i).length ∧ sI z 68 (ga i) = nV N 0 i) ∧
  (sI z 162 x = nI (nFL N).length ∧ sI z 163 x = nI (cnt (fun i => decide (nSo N i = 0)) (nN N)) ∧ sI z 164 x = nI (cnt (fun i => decide (nSo N i = 1)) (nN N)))
/-- the values of round k lie in the gates -/
def valK (z : Sto) (ga : Nat → Nat) (N : NT) (k : Nat) : Prop := ∀ i, i < nN N → sI z 69 (ga i) = nV N k i ∧ sI z 70 (ga i) = nR N k i
def netV (z : Sto) (x : Nat) (ga : Nat → Nat) (N : NT) : Prop := valK z ga N (nRC N) ∧ sI z 165 x = nI (nUn N (nRC N)) ∧ sI z 166 x = nI (nRC N)
def netI (G : Gx) (z : Sto) (x gl pt ol : Nat) (ga : Nat → Nat) (N : NT) : Prop :=
  nOK N ∧ netG G z x gl pt ol ga N ∧ (∃ vs : Bool, sI z 167 x = bI vs ∧ (vs = false → netV z x ga N)) ∧ (∃ ps : Bool, sI z 168 x = bI ps ∧ (ps = false → ptR G z pt ol (nN N) ga (nSo N) (nFd N)))
theorem netG_iF {P : Nat → Bool} {G : Gx} {z z' : Sto} {x gl pt ol : Nat} {ga : Nat → Nat} {N : NT} (h : netG G z x gl pt ol ga N) (hF : iF P z z') (hP : P 2 = false ∧ P 33 = false ∧ P 64 = false ∧ P 65 = false ∧ P 67 = false ∧ P 68 = false ∧ P 162 = false ∧ P 163 = false ∧ P 164 = false) : netG G z' x gl pt ol ga N := by
  obtain ⟨⟨a1, a2, a3⟩, ⟨b1, b2, b3⟩, ⟨cg, c1, c2⟩, ⟨no, fo, cap, d1, d2⟩, e1, e2, f1, f2, f3⟩ := h
  obtain ⟨p1, p2, p3, p4, p5, p6, p7, p8, p9⟩ := hP
  exact ⟨⟨hF.is a1, (hF.R _ _).trans a2, (hF.R _ _).trans a3⟩, ⟨hF.is b1, (hF.R _ _).trans b2, hF.rsep b3⟩, ⟨cg, hF.lst p1 c1, c2⟩, ⟨no, fo, cap, hF.lst p1 d1, d2⟩, hF.gts p2 p3 p4 e1, fun i hi => ⟨(hF.2 _ _ p5).trans (e2 i hi).1, (hF.2 _ _ p6).trans (e2 i hi).2⟩, (hF.2 _ _ p7).trans f1, (hF.2 _ _ p8).trans f2, (hF.2 _ _ p9).trans f3⟩
theorem ptR_iF {P : Nat → Bool} {G : Gx} {z z' : Sto} {pt ol n : Nat} {ga : Nat → Nat} {so : Nat → Int32} {fd : Nat → List (Nat × Int32)} (h : ptR G z pt ol n ga so fd) (hF : iF P z z') (hP : P 2 = false ∧ P 78 = false ∧ P 129 = false) : ptR G z' pt ol n ga so fd := by
  obtain ⟨a1, a2, os, cap, a3, a4⟩ := h
  refine ⟨fun v hv => by rw [hF.2 _ _ hP.2.1]; exact a1 v hv, ?_, os, cap, hF.lst hP.1 a3, a4⟩
  rw [hF.2 _ _ hP.2.2, a2]
  congr 1
  exact cnt_congr (fun i _ => by rw [hF.2 _ _ hP.2.1])
def pSp (f : Nat) : Bool := decide (f = 69) || decide (f = 70)
def pSK (f : Nat) : Bool := decide (f = 69) || decide (f = 70) || decide (f = 165) || decide (f = 166) || decide (f = 167)
theorem pSK_of {f : Nat} (h : pSK f = false) : pSp f = false := by
  unfold pSK at h
  unfold pSp
  cases h1 : decide (f = 69) <;> cases h2 : decide (f = 70) <;> simp_all
theorem nI_sub {a b : Nat} : nI (a + b) - nI b = nI a := by rw [← nI_add]; exact Int32.add_sub_cancel _ _

set_option maxHeartbeats 4000000 in
set_option maxRecDepth 100000 in
theorem c_spreadRound (l : Launch) (G : Gx) (z : Sto) {x gl pt ol : Nat} {ga : Nat → Nat} {N : NT} {k : Nat} (hO : nOK N) (hG : netG G z x gl pt ol ga N) (hk : k < 600) (hv0 : valK z ga N k) : Ct l yX4_spreadRound wsX4_spreadRound ({ frames := 4, cells := 0, slots := 0, locals := 90 } : Room) G z [.ref x, .int (nI (k + 1))] (fun rv z' => rv = some (.int (nI (nAd N k))) ∧ iF pSp z z' ∧ valK z' ga N (k + 1)) := by
  refine ct_of (cc := cX4_spreadRound) (maxL := 5) (ret := (some .int)) (lv0 := [(0, .ref x), (1, .int (nI (k + 1)))]) (by decide) rfl (by simp [lg_sl, cat_ref, cat_null, cat_int, cat_long, rf_cat]) (by simp [lv_args, cat_ref, cat_null, cat_int, cat_long, rf_cat]) ?_
  intro p e s m args below meth c C hin
  have i2 : ∀ w ∈ u_ws RX1 TX1 17, w ∈ wsX4_spreadRound := by decide +kernel
  have i5 : ∀ w ∈ u_ws RX4 TX4 9, w ∈ wsX4_spreadRound := by decide +kernel
  obtain ⟨capg, hgl, hgc⟩ := hG.2.2.1
  have hn := hO.1
  have loop : ∀ (r i : Nat) (z1 : Sto), i + r = nN N → iF pSp z z1 → (∀ v, v < i → sI z1 69 (ga v) = nV N (k + 1) v ∧ sI z1 70 (ga v) = nR N (k + 1) v) → (∀ v, i ≤ v → v < nN N → sI z1 69 (ga v) = nV N k v ∧ sI z1 70 (ga v) = nR N k v) → Wp p l e ({ frames := 4, cells := 0, slots := 0, locals := 90 } : Room) s m args below meth c G 5 0 0 (MQ below (cPost G (fun rv z' => rv = some (.int (nI (nAd N k))) ∧ iF pSp z z' ∧ valK z' ga N (k + 1))) args s (0) (0) (gA G)) z1 4 [(3, .int (nI i)), (2, .int (nI (cnt (fun j => decide (nV N k j = 2 ∧ ¬ nV N (k + 1) j = 2)) i))), (0, .ref x), (1, .int (nI (k + 1)))] [] := by
    intro r
    induction r with
    | zero =>
      intro i z1 hi hF h1 h2
      have hin : i = nN N := by omega
      subst hin
      have hg1 := netG_iF hG hF (by decide)
      have hl1 := hF.lst rfl hgl
      refine w_iload_n C 0 dX4_spreadRound_4 rfl rfl ?_
      refine w_aload_n C 2 dX4_spreadRound_5 rfl rfl (by first | rfl | exact isRef_rf _) ?_
      refine w_getRs (ci := 5) (k := 0) (f := 160) C rfl i5 (by decide +kernel) (by decide) (by decide) rfl rfl dX4_spreadRound_6 hg1.1.1 hg1.1.2.1 ?_
      refine w_callV (ci := 0) (As := []) (rest := [.int (nI (nN N))]) C (cwV 0 C.1.2.2.2.2 gX4_spreadRound_Jx4a65c_size_8abf5 rfl rfl rfl (by decide +kernel) ⟨Nat.le_of_ble_eq_true rfl, Nat.le_of_ble_eq_true rfl⟩) hl1.1 rfl (by decide) rfl rfl (by first | decide | simp [cat_ref, cat_null, cat_int, cat_long, rf_cat]) dX4_spreadRound_9 ⟨Nat.le_of_ble_eq_true rfl, Nat.le_of_ble_eq_true rfl⟩ (c_size l G z1 hl1) (fun rv z2 h9 => ?_)
      obtain ⟨rfl, e9⟩ := h9
      replace e9 := e9.symm
      subst e9
      refine w_icmp_ge (tgt := 55) C dX4_spreadRound_12 (by decide) (fun c1 => ?_) (fun c1 => ?_)
      · refine w_iload_n C 1 dX4_spreadRound_55 rfl rfl ?_
        exact w_iret C dX4_spreadRound_56 ⟨rfl, hF, h1⟩
      · exact absurd (nI_le (Nat.le_refl _) (by omega)) c1
    | succ r ih =>
      intro i z1 hi hF h1 h2
      have hin : i < nN N := by omega
      have hg1 := netG_iF hG hF (by decide)
      have hl1 := hF.lst rfl hgl
      obtain ⟨gi1, gi2, gi3, gi4, gi5⟩ := hg1.2.2.2.2.1.1 i hin
      have hgne : ∀ v, v < nN N → v ≠ i → ga v ≠ ga i := fun v hv hne e9 => hne (hg1.2.2.2.2.1.2 v i hv hin e9)
      have hvi := h2 i (Nat.le_refl _) hin
      have ht : ∀ y ∈ nFd N i, vbf z1 (nI (k + 1)) (ga y.1, y.2) = tkv (nV N k y.1) y.2 := fun y hy => by
        have hyn := gi5 y hy
        unfold vbf
        by_cases hyi : y.1 < i
        · obtain ⟨q1, q2⟩ := h1 y.1 hyi
          show (if nI (k + 1) ≤ sI z1 70 (ga y.1) then 2 else tkv (sI z1 69 (ga y.1)) y.2) = _
          rw [q1, q2]
          by_cases hc : nV N k y.1 = 2 ∧ ¬ nV N (k + 1) y.1 = 2
          · have e9 : nR N (k + 1) y.1 = nI (k + 1) := by
              show (if nV N k y.1 = 2 ∧ ¬ nV N (k + 1) y.1 = 2 then nI (k + 1) else nR N k y.1) = _
              rw [if_pos hc]
            rw [e9, if_pos (nI_le (Nat.le_refl _) (by omega)), hc.1]
            rfl
          · have e8 : nV N (k + 1) y.1 = nV N k y.1 := by
              by_cases h9 : nV N k y.1 = 2
              · rw [h9]; exact Decidable.byContradiction fun q => hc ⟨h9, q⟩
              · exact nV_keep N h9
            rw [nR_keep N e8, e8, if_neg (nR_lt N (by omega))]
        · obtain ⟨q1, q2⟩ := h2 y.1 (by omega) hyn
          show (if nI (k + 1) ≤ sI z1 70 (ga y.1) then 2 else tkv (sI z1 69 (ga y.1)) y.2) = _
          rw [q1, q2, if_neg (nR_lt N (by omega))]
      have hval : isLog (nSo N i) = true → nV N k i = 2 → vff (vbf z1 (nI (k + 1))) (if sI z1 65 (ga i) = 2 then 0 else 1) ((nFd N i).map (fun y => (ga y.1, y.2))) true = nV N (k + 1) i := fun q1 q2 => by
        rw [gi3]
        show vff _ (dcd (nSo N i)) _ true = _
        rw [vff_gvf _ (dcd_ne _), List.map_map]
        show _ = (if isLog (nSo N i) = true ∧ nV N k i = 2 then gvf (dcd (nSo N i)) ((nFd N i).map (fun x => tkv (nV N k x.1) x.2)) else nV N k i)
        rw [if_pos ⟨q1, q2⟩]
        congr 1
        exact List.map_congr_left (fun y hy => ht y hy)
      have hcs : ∀ b : Bool, decide (nV N k i = 2 ∧ ¬ nV N (k + 1) i = 2) = b → cnt (fun j => decide (nV N k j = 2 ∧ ¬ nV N (k + 1) j = 2)) (i + 1) = cnt (fun j => decide (nV N k j = 2 ∧ ¬ nV N (k + 1) j = 2)) i + (if b then 1 else 0) := fun b hb => by
        show cnt (fun j => decide (nV N k j = 2 ∧ ¬ nV N (k + 1) j = 2)) i + (if decide (nV N k i = 2 ∧ ¬ nV N (k + 1) i = 2) then 1 else 0) = _
        rw [hb]
      have step0 : nV N (k + 1) i = nV N k i → ∀ (z2 : Sto), iF pSp z z2 → (∀ v, v < nN N → sI z2 69 (ga v) = sI z1 69 (ga v) ∧ sI z2 70 (ga v) = sI z1 70 (ga v)) → Wp p l e ({ frames := 4, cells := 0, slots := 0, locals := 90 } : Room) s m args below meth c G 5 0 0 (MQ below (cPost G (fun rv z' => rv = some (.int (nI (nAd N k))) ∧ iF pSp z z' ∧ valK z' ga N (k + 1))) args s (0) (0) (gA G)) z2 49 [(4, .ref (ga i)), (3, .int (nI i)), (2, .int (nI (cnt (fun j => decide (nV N k j = 2 ∧ ¬ nV N (k + 1) j = 2)) i))), (0, .ref x), (1, .int (nI (k + 1)))] [] := by
        intro hk z2 hF2 hs2
        have hc0 := hcs false (decide_eq_false (fun q => q.2 (hk.trans q.1)))
        simp only [Bool.false_eq_true, if_false, Nat.add_zero] at hc0
        refine w_iincB (v := nI (i + 1)) (lvq := [(3, _), (4, _), (2, _), (0, _), (1, _)]) C 1 2 rfl rfl (by first | rfl | exact rf_cat _) dX4_spreadRound_49 rfl (nI_1 i) (by decide) rfl ?_
        refine w_goto (tgt := 4) C dX4_spreadRound_52 (by decide) ?_
        refine w_sub [0, 2, 3, 4] rfl (hc0 ▸ ih (i + 1) z2 (by omega) hF2 (fun v hv => ?_) (fun v hv hv2 => ?_))
        · rw [(hs2 v (by omega)).1, (hs2 v (by omega)).2]
          by_cases hvi2 : v = i
          · rw [hvi2, hvi.1, hvi.2, nR_keep N hk, hk]; exact ⟨rfl, rfl⟩
          · exact h1 v (by omega)
        · rw [(hs2 v hv2).1, (hs2 v hv2).2]; exact h2 v (by omega) hv2
      refine w_iload_n C 0 dX4_spreadRound_4 rfl rfl ?_
      refine w_aload_n C 2 dX4_spreadRound_5 rfl rfl (by first | rfl | exact isRef_rf _) ?_
      refine w_getRs (ci := 5) (k := 0) (f := 160) C rfl i5 (by decide +kernel) (by decide) (by decide) rfl rfl dX4_spreadRound_6 hg1.1.1 hg1.1.2.1 ?_
      refine w_callV (ci := 0) (As := []) (rest := [.int (nI i)]) C (cwV 0 C.1.2.2.2.2 gX4_spreadRound_Jx4a65c_size_8abf5 rfl rfl rfl (by decide +kernel) ⟨Nat.le_of_ble_eq_true rfl, Nat.le_of_ble_eq_true rfl⟩) hl1.1 rfl (by decide) rfl rfl (by first | decide | simp [cat_ref, cat_null, cat_int, cat_long, rf_cat]) dX4_spreadRound_9 ⟨Nat.le_of_ble_eq_true rfl, Nat.le_of_ble_eq_true rfl⟩ (c_size l G z1 hl1) (fun rv z2 h9 => ?_)
      obtain ⟨rfl, e9⟩ := h9
      replace e9 := e9.symm
      subst e9
      refine w_icmp_ge (tgt := 55) C dX4_spreadRound_12 (by decide) (fun c1 => ?_) (fun c1 => ?_)
      · exact absurd c1 (nI_ge hin (by omega))
      · refine w_aload_n C 2 dX4_spreadRound_15 rfl rfl (by first | rfl | exact isRef_rf _) ?_
        refine w_getRs (ci := 5) (k := 0) (f := 160) C rfl i5 (by decide +kernel) (by decide) (by decide) rfl rfl dX4_spreadRound_16 hg1.1.1 hg1.1.2.1 ?_
        refine w_iload_n C 0 dX4_spreadRound_19 rfl rfl ?_
        refine w_callV (ci := 0) (As := [.int (nI i)]) (rest := []) C (cwV 1 C.1.2.2.2.2 gX4_spreadRound_Jx4a65c_get_915e3 rfl rfl rfl (by decide +kernel) ⟨Nat.le_of_ble_eq_true rfl, Nat.le_of_ble_eq_true rfl⟩) hl1.1 rfl (by decide) rfl rfl (by first | decide | simp [cat_ref, cat_null, cat_int, cat_long, rf_cat]) dX4_spreadRound_20 ⟨Nat.le_of_ble_eq_true rfl, Nat.le_of_ble_eq_true rfl⟩ (c_get l G z1 hl1 hin) (fun rv z2 h9 => ?_)
        obtain ⟨rfl, e9⟩ := h9
        replace e9 := e9.symm
        subst e9
        refine w_cast (ci := 2) C (by decide +kernel) gi1 rfl (by decide) dX4_spreadRound_23 ?_
        refine w_astoreB (lvq := [(4, _), (3, _), (2, _), (0, _), (1, _)]) C 0 rfl rfl (by first | rfl | exact rf_cat _) dX4_spreadRound_26 (by first | rfl | exact isRef_rf _) (by decide) rfl ?_
        refine w_aload C 0 dX4_spreadRound_28 rfl (by first | rfl | exact isRef_rf _) ?_
        refine w_getI (ci := 2) (k := 5) (f := 69) C rfl i2 (by decide +kernel) (by decide) (by decide) rfl rfl dX4_spreadRound_30 gi1 hvi.1 ?_
        refine w_iconst (v := 2) C dX4_spreadRound_33 (by decide) ?_
        refine w_icmp_ne (tgt := 49) C dX4_spreadRound_34 (by decide) (fun c2 => ?_) (fun c2 => ?_)
        · exact w_sub [0, 1, 2, 3, 4] rfl (step0 (nV_keep N c2) z1 hF (fun v _ => ⟨rfl, rfl⟩))
        · refine w_aload C 0 dX4_spreadRound_37 rfl (by first | rfl | exact isRef_rf _) ?_
          refine w_iload_n C 4 dX4_spreadRound_39 rfl rfl ?_
          refine w_callV (ci := 2) (As := [.int (nI (k + 1))]) (rest := []) C (cwV 1 C.1.2.2.2.2 gX4_spreadRound_X1_becomesKnown rfl rfl rfl (by decide +kernel) ⟨Nat.le_of_ble_eq_true rfl, Nat.le_of_ble_eq_true rfl⟩) gi1 rfl (by decide) rfl rfl (by first | decide | simp [cat_ref, cat_null, cat_int, cat_long, rf_cat]) dX4_spreadRound_40 ⟨Nat.le_of_ble_eq_true rfl, Nat.le_of_ble_eq_true rfl⟩ (c_becomesKnown l G z1 gi1 gi4) (fun rv z2 h9 => ?_)
          rcases h9 with ⟨hlg, rfl, rfl⟩ | ⟨hlg, ⟨hv2, rfl, rfl⟩ | ⟨hv2, rfl, rfl⟩⟩
          · rw [gi3] at hlg
            refine w_if_eq (tgt := 49) C dX4_spreadRound_43 (by decide) (fun c3 => ?_) (fun c3 => absurd rfl c3)
            exact step0 (by show (if isLog (nSo N i) = true ∧ _ then _ else nV N k i) = _; rw [if_neg (fun q => by rw [hlg] at q; cases q.1)]) _ hF (fun v _ => ⟨rfl, rfl⟩)
          · rw [gi3] at hlg
            rw [hval hlg c2] at hv2
            refine w_if_eq (tgt := 49) C dX4_spreadRound_43 (by decide) (fun c3 => ?_) (fun c3 => absurd rfl c3)
            refine step0 (hv2.trans c2.symm) _ (hF.tr (iF_I _ _ 69 _ _ rfl)) (fun v hv => ⟨?_, rI_If (by decide) rfl⟩)
            by_cases hvi2 : v = i
            · rw [hvi2]; exact rI_Is.trans ((hval hlg c2).trans (hv2.trans (hvi.1.trans c2).symm))
            · exact rI_Ia (hgne v hv hvi2) rfl
          · rw [gi3] at hlg
            rw [hval hlg c2] at hv2
            refine w_if_eq (tgt := 49) C dX4_spreadRound_43 (by decide) (fun c3 => absurd c3 (by decide)) (fun c3 => ?_)
            have hc1 := hcs true (decide_eq_true ⟨c2, hv2⟩)
            simp only [if_true] at hc1
            have hR1 : nR N (k + 1) i = nI (k + 1) := by
              show (if nV N k i = 2 ∧ ¬ nV N (k + 1) i = 2 then nI (k + 1) else nR N k i) = _
              rw [if_pos ⟨c2, hv2⟩]
            refine w_iincB (v := nI (cnt (fun j => decide (nV N k j = 2 ∧ ¬ nV N (k + 1) j = 2)) i + 1)) (lvq := [(2, _), (4, _), (3, _), (0, _), (1, _)]) C 2 4 rfl rfl (by first | rfl | exact rf_cat _) dX4_spreadRound_46 rfl (nI_1 _) (by decide) rfl ?_
            refine w_iincB (v := nI (i + 1)) (lvq := [(3, _), (2, _), (4, _), (0, _), (1, _)]) C 2 0 rfl rfl (by first | rfl | exact rf_cat _) dX4_spreadRound_49 rfl (nI_1 i) (by decide) rfl ?_
            refine w_goto (tgt := 4) C dX4_spreadRound_52 (by decide) ?_
            refine w_sub [0, 1, 3, 4] rfl (hc1 ▸ ih (i + 1) _ (by omega) ((hF.tr (iF_I _ _ 69 _ _ rfl)).tr (iF_I _ _ 70 _ _ rfl)) (fun v hv => ?_) (fun v hv hv2 => ⟨rI_If (by decide) (rI_Ia (hgne v hv2 (by omega)) (h2 v (by omega) hv2).1), rI_Ia (hgne v hv2 (by omega)) (rI_If (by decide) (h2 v (by omega) hv2).2)⟩))
            by_cases hvi2 : v = i
            · rw [hvi2]; exact ⟨rI_If (by decide) (rI_Is.trans (hval hlg c2)), rI_Is.trans hR1.symm⟩
            · exact ⟨rI_If (by decide) (rI_Ia (hgne v (by omega) hvi2) (h1 v (by omega)).1), rI_Ia (hgne v (by omega) hvi2) (rI_If (by decide) (h1 v (by omega)).2)⟩
  refine w_iconst (v := 0) C dX4_spreadRound_0 (by decide) ?_
  refine w_istore_nB (lvq := [(2, _), (0, _), (1, _)]) C 1 rfl rfl (by first | rfl | exact rf_cat _) dX4_spreadRound_1 rfl (by decide) rfl ?_
  refine w_iconst (v := 0) C dX4_spreadRound_2 (by decide) ?_
  refine w_istore_nB (lvq := [(3, _), (2, _), (0, _), (1, _)]) C 0 rfl rfl (by first | rfl | exact rf_cat _) dX4_spreadRound_3 rfl (by decide) rfl ?_
  exact w_sub [0, 1, 2, 3] rfl (loop (nN N) 0 z (by omega) (iF.rf _ z) (fun v hv => by cases hv) (fun v _ hv => hv0 v hv))
