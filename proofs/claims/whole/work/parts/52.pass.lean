/-! ===== Lanes: the passes ===== -/
def lrep (z : Sto) (ga : Nat → Nat) (n : Nat) (W : Wt) : Prop := ∀ i, i < n → ∀ b, b < 64 → tb (sJ z 79 (ga i)) b = decide (W b i = 1) ∧ tb (sJ z 80 (ga i)) b = decide (W b i = 0) ∧ (W b i = 0 ∨ W b i = 1 ∨ W b i = 2)
/-- a store that differs in longs alone -/
def jF (z z' : Sto) : Prop := sL z' = sL z ∧ sK z' = sK z ∧ sI z' = sI z ∧ sR z' = sR z ∧ sN z' = sN z ∧ sE z' = sE z ∧ sF z' = sF z ∧ sQ z' = sQ z
theorem jF.rf (z : Sto) : jF z z := ⟨rfl, rfl, rfl, rfl, rfl, rfl, rfl, rfl⟩
theorem jF.tr {z z1 z2 : Sto} (h1 : jF z z1) (h2 : jF z1 z2) : jF z z2 := by
  obtain ⟨a1, a2, a3, a4, a5, a6, a7, a8⟩ := h1
  obtain ⟨b1, b2, b3, b4, b5, b6, b7, b8⟩ := h2
  exact ⟨b1.trans a1, b2.trans a2, b3.trans a3, b4.trans a4, b5.trans a5, b6.trans a6, b7.trans a7, b8.trans a8⟩
theorem jF_J (z : Sto) (f b : Nat) (v : Int64) : jF z (putJ z f b v) := ⟨rfl, rfl, rfl, rfl, rfl, rfl, rfl, rfl⟩
theorem jF.is {z z' : Sto} (h : jF z z') {b k : Nat} (hb : is z b k) : is z' b k := ⟨by rw [h.1]; exact hb.1, by rw [h.2.1]; exact hb.2⟩
theorem jF.I {z z' : Sto} (h : jF z z') (f b : Nat) : sI z' f b = sI z f b := by rw [h.2.2.1]
theorem jF.R {z z' : Sto} (h : jF z z') (f b : Nat) : sR z' f b = sR z f b := by rw [h.2.2.2.1]
theorem jF.lst {z z' : Sto} (h : jF z z') {G : Gx} {a n cap : Nat} {f : Nat → Nat} (hl : lst G z a n f cap) : lst G z' a n f cap := lst_ext hl (fun _ _ q => h.is q) (h.I 2 a) (h.R 1 a) (fun d _ _ => ⟨by rw [h.2.2.2.2.1], by rw [h.2.2.2.2.2.2.2]⟩)
theorem jF.chn {z z' : Sto} (h : jF z z') {L : List (Nat × Int32)} {r : Option Nat} (hc : chn z r L) : chn z' r L := chn_ext (fun _ _ q => h.is q) (fun b => h.R 32 b) (fun b => h.I 33 b) (fun b => h.R 34 b) hc
theorem jF.gts {z z' : Sto} (h : jF z z') {n : Nat} {ga : Nat → Nat} {so : Nat → Int32} {fd : Nat → List (Nat × Int32)} (hg : gts z n ga so fd) : gts z' n ga so fd := gts_ext hg (fun _ _ q => h.is q) (fun f b _ => h.I f b) (fun f b _ => h.R f b)
theorem jF.kfr {z z' : Sto} (h : jF z z') : kfr z z' := ⟨fun _ _ q => h.is q, fun f b _ _ => h.I f b, fun f b _ _ => h.R f b, fun b _ => ⟨by rw [h.2.2.2.2.1], by rw [h.2.2.2.2.2.1], by rw [h.2.2.2.2.2.2.1]⟩⟩
theorem jF.netI {z z' : Sto} (h : jF z z') {G : Gx} {x gl pt ol : Nat} {ga : Nat → Nat} {N : NT} (hN : netI G z x gl pt ol ga N) : netI G z' x gl pt ol ga N := by
  obtain ⟨hO, ⟨⟨a1, a2, a3⟩, ⟨b1, b2, b3⟩, ⟨cg, c1, c2⟩, ⟨no, fo, cap, d1, d2⟩, e1, e2, f1, f2, f3⟩, ⟨vs, v1, v2⟩, ps, p1, p2⟩ := hN
  refine ⟨hO, ⟨⟨h.is a1, (h.R _ _).trans a2, (h.R _ _).trans a3⟩, ⟨h.is b1, (h.R _ _).trans b2, rsep_of b3 h.1 h.2.1 (h.R _ _) (h.R _ _)⟩, ⟨cg, h.lst c1, c2⟩, ⟨no, fo, cap, h.lst d1, d2⟩, h.gts e1, fun i hi => ⟨(h.I _ _).trans (e2 i hi).1, (h.I _ _).trans (e2 i hi).2⟩, (h.I _ _).trans f1, (h.I _ _).trans f2, (h.I _ _).trans f3⟩, ⟨vs, (h.I _ _).trans v1, fun q => ?_⟩, ps, (h.I _ _).trans p1, fun q => ?_⟩
  · obtain ⟨w1, w2, w3⟩ := v2 q
    exact ⟨fun i hi => ⟨(h.I _ _).trans (w1 i hi).1, (h.I _ _).trans (w1 i hi).2⟩, (h.I _ _).trans w2, (h.I _ _).trans w3⟩
  · obtain ⟨w1, w2, os, cap9, w3, w4⟩ := p2 q
    refine ⟨fun v hv => by rw [h.I]; exact w1 v hv, ?_, os, cap9, h.lst w3, w4⟩
    rw [h.I, w2]
    congr 1
    exact cnt_congr (fun i _ => by rw [h.I])
theorem tb_laA (t : Nat × Int32 → Int64) (b : Nat) : ∀ (L : List (Nat × Int32)) (a : Int64), tb (laA t L a) b = (tb a b && L.all (fun x => tb (t x) b)) := by
  intro L
  induction L with
  | nil => intro a; simp [laA]
  | cons x tl ih => intro a; show tb (laA t tl (a &&& t x)) b = _; rw [ih, tb_and, List.all_cons, Bool.and_assoc]
theorem tb_laO (t : Nat × Int32 → Int64) (b : Nat) : ∀ (L : List (Nat × Int32)) (a : Int64), tb (laO t L a) b = (tb a b || L.any (fun x => tb (t x) b)) := by
  intro L
  induction L with
  | nil => intro a; simp [laO]
  | cons x tl ih => intro a; show tb (laO t tl (a ||| t x)) b = _; rw [ih, tb_or, List.any_cons, Bool.or_assoc]
theorem tkv_3 {v g : Int32} (hv : v = 0 ∨ v = 1 ∨ v = 2) (hg : g = 0 ∨ g = 1) : tkv v g = 0 ∨ tkv v g = 1 ∨ tkv v g = 2 := by
  rcases hv with rfl | rfl | rfl <;> rcases hg with rfl | rfl <;> decide
theorem gvf_3 (L : List Int32) {dec : Int32} (hd : dec = 0 ∨ dec = 1) : gvf dec L = 0 ∨ gvf dec L = 1 ∨ gvf dec L = 2 := by
  unfold gvf
  rcases hd with rfl | rfl
  · split
    · exact Or.inl rfl
    · split
      · exact Or.inr (Or.inr rfl)
      · exact Or.inr (Or.inl rfl)
  · split
    · exact Or.inr (Or.inl rfl)
    · split
      · exact Or.inr (Or.inr rfl)
      · exact Or.inl rfl
theorem dcd_01 (s : Int32) : dcd s = 0 ∨ dcd s = 1 := by unfold dcd; split; exact Or.inl rfl; exact Or.inr rfl
/-- and: one where all are one, zero where one is zero -/
theorem gvf_bits (L : List Int32) {dec : Int32} (hd : dec = 0 ∨ dec = 1) (h : ∀ x ∈ L, x = 0 ∨ x = 1 ∨ x = 2) : (decide (gvf dec L = 1 - dec) = L.all (fun x => decide (x = 1 - dec))) ∧ (decide (gvf dec L = dec) = L.any (fun x => decide (x = dec))) := by
  have hne : (1 : Int32) - dec ≠ dec ∧ (1 : Int32) - dec ≠ 2 ∧ dec ≠ 2 := by rcases hd with rfl | rfl <;> decide
  have hx : ∀ x ∈ L, x = dec ∨ x = 1 - dec ∨ x = 2 := fun x hx => by
    rcases hd with rfl | rfl
    · rcases h x hx with q | q | q
      · exact Or.inl q
      · exact Or.inr (Or.inl q)
      · exact Or.inr (Or.inr q)
    · rcases h x hx with q | q | q
      · exact Or.inr (Or.inl q)
      · exact Or.inl q
      · exact Or.inr (Or.inr q)
  unfold gvf
  by_cases h1 : dec ∈ L
  · rw [if_pos h1]
    constructor
    · rw [decide_eq_false (fun e => hne.1 e.symm)]
      symm
      rw [Bool.eq_false_iff]
      intro q
      exact hne.1 (of_decide_eq_true (List.all_eq_true.mp q dec h1)).symm
    · rw [decide_eq_true rfl]
      symm
      exact List.any_eq_true.mpr ⟨dec, h1, decide_eq_true rfl⟩
  · rw [if_neg h1]
    have ha : L.any (fun x => decide (x = dec)) = false := by
      rw [Bool.eq_false_iff]
      intro q
      obtain ⟨y, hy, e⟩ := List.any_eq_true.mp q
      exact h1 ((of_decide_eq_true e) ▸ hy)
    by_cases h2 : (2 : Int32) ∈ L
    · rw [if_pos h2, ha]
      refine ⟨?_, decide_eq_false (fun e => hne.2.2 e.symm)⟩
      rw [decide_eq_false (fun e => hne.2.1 e.symm)]
      symm
      rw [Bool.eq_false_iff]
      intro q
      exact hne.2.1 (of_decide_eq_true (List.all_eq_true.mp q 2 h2)).symm
    · rw [if_neg h2, ha]
      refine ⟨?_, decide_eq_false hne.1⟩
      rw [decide_eq_true rfl]
      symm
      refine List.all_eq_true.mpr (fun y hy => decide_eq_true ?_)
      rcases hx y hy with q | q | q
      · exact absurd (q ▸ hy) h1
      · exact q
      · exact absurd (q ▸ hy) h2
theorem tk_bits {z : Sto} {ga : Nat → Nat} {n b : Nat} {W : Wt} (h : lrep z ga n W) (hb : b < 64) {u : Nat} (hu : u < n) {g : Int32} (hg : g = 0 ∨ g = 1) : tb (tk1 z (ga u, g)) b = decide (tkv (W b u) g = 1) ∧ tb (tk0 z (ga u, g)) b = decide (tkv (W b u) g = 0) := by
  obtain ⟨h1, h2, h3⟩ := h u hu b hb
  unfold tk1 tk0
  rcases hg with rfl | rfl
  · show tb (if (0 : Int32) = 0 then sJ z 79 (ga u) else sJ z 80 (ga u)) b = _ ∧ tb (if (0 : Int32) = 0 then sJ z 80 (ga u) else sJ z 79 (ga u)) b = _
    rw [if_pos rfl, if_pos rfl, h1, h2]
    rcases h3 with q | q | q <;> rw [q] <;> decide
  · show tb (if (1 : Int32) = 0 then sJ z 79 (ga u) else sJ z 80 (ga u)) b = _ ∧ tb (if (1 : Int32) = 0 then sJ z 80 (ga u) else sJ z 79 (ga u)) b = _
    rw [if_neg (by decide), if_neg (by decide), h1, h2]
    rcases h3 with q | q | q <;> rw [q] <;> decide
theorem lg_bits {z : Sto} {ga : Nat → Nat} {N : NT} {W : Wt} (hO : nOK N) (h : lrep z ga (nN N) W) {i : Nat} (hi : i < nN N) (hl : isLog (nSo N i) = true) (e65 : sI z 65 (ga i) = nSo N i) {b : Nat} (hb : b < 64) :
    tb (lgO z (ga i) ((nFd N i).map (fun x => (ga x.1, x.2)))) b = decide (gvN N (W b) i = 1) ∧ tb (lgZ z (ga i) ((nFd N i).map (fun x => (ga x.1, x.2)))) b = decide (gvN N (W b) i = 0) := by
  have hfd : ∀ x ∈ nFd N i, x.1 < nN N ∧ (x.2 = 0 ∨ x.2 = 1) := fun x hx => ⟨(hO.2.2.1 _ (nFd_mem hx)).2.1, (hO.2.2.1 _ (nFd_mem hx)).2.2⟩
  have b1 : ∀ x ∈ nFd N i, tb (tk1 z (ga x.1, x.2)) b = decide (tkv (W b x.1) x.2 = 1) := fun x hx => (tk_bits h hb (hfd x hx).1 (hfd x hx).2).1
  have b0 : ∀ x ∈ nFd N i, tb (tk0 z (ga x.1, x.2)) b = decide (tkv (W b x.1) x.2 = 0) := fun x hx => (tk_bits h hb (hfd x hx).1 (hfd x hx).2).2
  have v3 : ∀ y ∈ (nFd N i).map (fun x => tkv (W b x.1) x.2), y = 0 ∨ y = 1 ∨ y = 2 := fun y hy => by
    obtain ⟨x, hx, rfl⟩ := List.mem_map.mp hy
    exact tkv_3 (h x.1 (hfd x hx).1 b hb).2.2 (hfd x hx).2
  have allc : ∀ (t : Nat × Int32 → Int64) (c : Int32), (∀ x ∈ nFd N i, tb (t (ga x.1, x.2)) b = decide (tkv (W b x.1) x.2 = c)) → ((nFd N i).map (fun x => (ga x.1, x.2))).all (fun x => tb (t x) b) = ((nFd N i).map (fun x => tkv (W b x.1) x.2)).all (fun y => decide (y = c)) := fun t c ht => by
    rw [List.all_map, List.all_map]
    rw [Bool.eq_iff_iff, List.all_eq_true, List.all_eq_true]
    exact ⟨fun q x hx => ((ht x hx).symm.trans (q x hx) : decide (tkv (W b x.1) x.2 = c) = true), fun q x hx => ((ht x hx).trans (q x hx) : tb (t (ga x.1, x.2)) b = true)⟩
  have anyc : ∀ (t : Nat × Int32 → Int64) (c : Int32), (∀ x ∈ nFd N i, tb (t (ga x.1, x.2)) b = decide (tkv (W b x.1) x.2 = c)) → ((nFd N i).map (fun x => (ga x.1, x.2))).any (fun x => tb (t x) b) = ((nFd N i).map (fun x => tkv (W b x.1) x.2)).any (fun y => decide (y = c)) := fun t c ht => by
    rw [List.any_map, List.any_map]
    rw [Bool.eq_iff_iff, List.any_eq_true, List.any_eq_true]
    constructor
    · rintro ⟨x, hx, e⟩; exact ⟨x, hx, ((ht x hx).symm.trans e : decide (tkv (W b x.1) x.2 = c) = true)⟩
    · rintro ⟨x, hx, e⟩; exact ⟨x, hx, ((ht x hx).trans e : tb (t (ga x.1, x.2)) b = true)⟩
  unfold lgO lgZ gvN
  rw [e65]
  by_cases hs : nSo N i = 2
  · have hd : dcd (nSo N i) = 0 := by unfold dcd; rw [if_pos hs]
    obtain ⟨g1', g2'⟩ := gvf_bits _ (Or.inl rfl : (0 : Int32) = 0 ∨ (0 : Int32) = 1) v3
    rw [if_pos hs, if_pos hs, tb_laA, tb_laO, tb_m1 b hb, tb_0, Bool.true_and, Bool.false_or, allc _ 1 b1, anyc _ 0 b0, hd]
    exact ⟨g1'.symm, g2'.symm⟩
  · have hd : dcd (nSo N i) = 1 := by unfold dcd; rw [if_neg hs]
    obtain ⟨g1', g2'⟩ := gvf_bits _ (Or.inr rfl : (1 : Int32) = 0 ∨ (1 : Int32) = 1) v3
    rw [if_neg hs, if_neg hs, tb_laA, tb_laO, tb_m1 b hb, tb_0, Bool.true_and, Bool.false_or, allc _ 0 b0, anyc _ 1 b1, hd]
    exact ⟨g2'.symm, g1'.symm⟩
/-- one gate's turn -/
theorem lstep {z : Sto} {ga : Nat → Nat} {N : NT} {W Vi : Wt} (hO : nOK N) (hV : Vfix N Vi) (hg : ∀ i j, i < nN N → j < nN N → ga i = ga j → i = j) (h : lrep z ga (nN N) W) (hI : LInv N Vi W) {i : Nat} (hi : i < nN N) (hl : isLog (nSo N i) = true) (e65 : sI z 65 (ga i) = nSo N i) {O Z : Int64}
    (hOO : O = lgO z (ga i) ((nFd N i).map (fun x => (ga x.1, x.2)))) (hZZ : Z = lgZ z (ga i) ((nFd N i).map (fun x => (ga x.1, x.2)))) :
    ((O = sJ z 79 (ga i) ∧ Z = sJ z 80 (ga i)) → lrep (putJ (putJ z 79 (ga i) O) 80 (ga i) Z) ga (nN N) W ∧ ∀ b, b < 64 → W b i = gvN N (W b) i) ∧
    (¬ (O = sJ z 79 (ga i) ∧ Z = sJ z 80 (ga i)) → ∃ W', lrep (putJ (putJ z 79 (ga i) O) 80 (ga i) Z) ga (nN N) W' ∧ LInv N Vi W' ∧ unW N W' < unW N W) := by
  have hb9 : ∀ b, b < 64 → tb O b = decide (gvN N (W b) i = 1) ∧ tb Z b = decide (gvN N (W b) i = 0) := fun b hb => by rw [hOO, hZZ]; exact lg_bits hO h hi hl e65 hb
  have g3 : ∀ b, gvN N (W b) i = 0 ∨ gvN N (W b) i = 1 ∨ gvN N (W b) i = 2 := fun b => gvf_3 _ (dcd_01 _)
  have same : ∀ b, b < 64 → (tb O b = tb (sJ z 79 (ga i)) b ∧ tb Z b = tb (sJ z 80 (ga i)) b) → W b i = gvN N (W b) i := fun b hb q => by
    obtain ⟨a1, a2, a3⟩ := h i hi b hb
    obtain ⟨c1, c2⟩ := hb9 b hb
    rw [a1, c1, a2, c2] at q
    obtain ⟨q1, q2⟩ := q
    have k1 := decide_eq_decide.mp q1
    have k2 := decide_eq_decide.mp q2
    rcases g3 b with w | w | w
    · rw [w]; exact k2.mp w
    · rw [w]; exact k1.mp w
    · rcases a3 with v | v | v
      · exact absurd (k2.mpr v) (by rw [w]; decide)
      · exact absurd (k1.mpr v) (by rw [w]; decide)
      · rw [w, v]
  have ne : ∀ j, j < nN N → j ≠ i → ga j ≠ ga i := fun j hj hne e => hne (hg j i hj hi e)
  constructor
  · rintro ⟨q1, q2⟩
    refine ⟨fun j hj b hb => ?_, fun b hb => same b hb ⟨by rw [q1], by rw [q2]⟩⟩
    have e1 : sJ (putJ (putJ z 79 (ga i) O) 80 (ga i) Z) 79 (ga j) = sJ z 79 (ga j) := by
      refine rJ_Jf (by decide) ?_
      by_cases hji : j = i
      · rw [hji, q1]; exact rJ_Js
      · exact rJ_Ja (ne j hj hji) rfl
    have e2 : sJ (putJ (putJ z 79 (ga i) O) 80 (ga i) Z) 80 (ga j) = sJ z 80 (ga j) := by
      by_cases hji : j = i
      · rw [hji, q2]; exact rJ_Js
      · exact rJ_Ja (ne j hj hji) (rJ_Jf (by decide) rfl)
    rw [e1, e2]
    exact h j hj b hb
  · intro hn
    have hex : ∃ b0, b0 < 64 ∧ ¬ gvN N (W b0) i = W b0 i := by
      refine Decidable.byContradiction fun hno => hn ?_
      have all : ∀ b, b < 64 → gvN N (W b) i = W b i := fun b hb => Decidable.byContradiction fun q => hno ⟨b, hb, q⟩
      constructor
      · exact tb_ext (fun b hb => by rw [(hb9 b hb).1, (h i hi b hb).1, all b hb])
      · exact tb_ext (fun b hb => by rw [(hb9 b hb).2, (h i hi b hb).2.1, all b hb])
    obtain ⟨b0, hb0, hne⟩ := hex
    refine ⟨updW N W i, fun j hj b hb => ?_, LInv_upd hO hV hI hi hl, unW_lt hI hi hl hb0 hne⟩
    by_cases hji : j = i
    · subst hji
      have un : updW N W j b j = gvN N (W b) j := va_up_self _ _ _
      have e1 : sJ (putJ (putJ z 79 (ga j) O) 80 (ga j) Z) 79 (ga j) = O := rJ_Jf (by decide) rJ_Js
      have e2 : sJ (putJ (putJ z 79 (ga j) O) 80 (ga j) Z) 80 (ga j) = Z := rJ_Js
      rw [e1, e2, un]
      exact ⟨(hb9 b hb).1, (hb9 b hb).2, g3 b⟩
    · have uo : updW N W i b j = W b j := va_up_ne _ _ hji
      have e1 : sJ (putJ (putJ z 79 (ga i) O) 80 (ga i) Z) 79 (ga j) = sJ z 79 (ga j) := rJ_Jf (by decide) (rJ_Ja (ne j hj hji) rfl)
      have e2 : sJ (putJ (putJ z 79 (ga i) O) 80 (ga i) Z) 80 (ga j) = sJ z 80 (ga j) := rJ_Ja (ne j hj hji) (rJ_Jf (by decide) rfl)
      rw [e1, e2, uo]
      exact h j hj b hb
/-- where the Lanes object stands -/
def lnH (G : Gx) (z : Sto) (la gl ol n : Nat) (ga : Nat → Nat) (N : NT) (os : List Nat) : Prop :=
  (is z la 3 ∧ sR z 96 la = some gl ∧ sR z 97 la = some ol) ∧ nN N = n ∧ (∃ capg, lst G z gl n ga capg) ∧ (∃ cap, lst G z ol os.length (fun i => ga (os.getD i 0)) cap) ∧ (∀ v ∈ os, v < n ∧ isLog (nSo N v) = true) ∧ (∀ v, v < n → isLog (nSo N v) = true → v ∈ os) ∧ os.length ≤ n ∧ gts z n ga (nSo N) (nFd N) ∧ (∀ i, i < n → sI z 68 (ga i) = nV N 0 i) ∧ nOK N
theorem lnH_jF {G : Gx} {z z' : Sto} {la gl ol n : Nat} {ga : Nat → Nat} {N : NT} {os : List Nat} (h : lnH G z la gl ol n ga N os) (hF : jF z z') : lnH G z' la gl ol n ga N os := by
  obtain ⟨⟨a1, a2, a3⟩, a4, ⟨cg, a5⟩, ⟨co, a6⟩, a7, a8, a9, a10, a11, a12⟩ := h
  exact ⟨⟨hF.is a1, (hF.R _ _).trans a2, (hF.R _ _).trans a3⟩, a4, ⟨cg, hF.lst a5⟩, ⟨co, hF.lst a6⟩, a7, a8, a9, hF.gts a10, fun i hi => (hF.I _ _).trans (a11 i hi), a12⟩
theorem os_get {os : List Nat} {i : Nat} (h : i < os.length) : os.getD i 0 ∈ os := by
  rw [List.getD_eq_getElem?_getD, List.getElem?_eq_getElem h]
  exact List.getElem_mem h
theorem os_idx {os : List Nat} {v : Nat} (h : v ∈ os) : ∃ i, i < os.length ∧ os.getD i 0 = v := by
  obtain ⟨i, hi, e⟩ := List.getElem_of_mem h
  exact ⟨i, hi, by rw [List.getD_eq_getElem?_getD, List.getElem?_eq_getElem hi]; exact e⟩
/-- what a pass tells -/
def psP (z z' : Sto) (ga : Nat → Nat) (N : NT) (Vi W : Wt) (g : Bool) (S : Nat → Prop) : Prop := jF z z' ∧ ∃ W1, lrep z' ga (nN N) W1 ∧ LInv N Vi W1 ∧ (g = false → ∀ i, S i → ∀ b, b < 64 → W1 b i = gvN N (W1 b) i) ∧ (g = true → unW N W1 < unW N W) ∧ unW N W1 ≤ unW N W
theorem psP_step {z z1 : Sto} {ga : Nat → Nat} {N : NT} {Vi W : Wt} {g : Bool} {S : Nat → Prop} (hO : nOK N) (hV : Vfix N Vi) (hg : ∀ i j, i < nN N → j < nN N → ga i = ga j → i = j) (h : psP z z1 ga N Vi W g S) {i : Nat} (hi : i < nN N) (hl : isLog (nSo N i) = true) (e65 : sI z1 65 (ga i) = nSo N i) {O Z : Int64}
    (hOO : O = lgO z1 (ga i) ((nFd N i).map (fun x => (ga x.1, x.2)))) (hZZ : Z = lgZ z1 (ga i) ((nFd N i).map (fun x => (ga x.1, x.2)))) :
    psP z (putJ (putJ z1 79 (ga i) O) 80 (ga i) Z) ga N Vi W (g || !decide (O = sJ z1 79 (ga i) ∧ Z = sJ z1 80 (ga i))) (fun j => S j ∨ j = i) := by
  obtain ⟨hF, W1, h1, h2, h3, h4, h5⟩ := h
  have hs := lstep hO hV hg h1 h2 hi hl e65 hOO hZZ
  have hF2 : jF z (putJ (putJ z1 79 (ga i) O) 80 (ga i) Z) := (hF.tr (jF_J z1 79 (ga i) O)).tr (jF_J _ 80 (ga i) Z)
  by_cases q : O = sJ z1 79 (ga i) ∧ Z = sJ z1 80 (ga i)
  · obtain ⟨s1, s2⟩ := hs.1 q
    rw [decide_eq_true q]
    refine ⟨hF2, W1, s1, h2, fun hgf j hj b hb => ?_, fun hgt => h4 (by simpa using hgt), h5⟩
    rcases hj with hj | rfl
    · exact h3 (by simpa using hgf) j hj b hb
    · exact s2 b hb
  · obtain ⟨W2, s1, s2, s3⟩ := hs.2 q
    rw [decide_eq_false q]
    exact ⟨hF2, W2, s1, s2, fun hgf => by simp at hgf, fun _ => by omega, by omega⟩

set_option maxHeartbeats 4000000 in
set_option maxRecDepth 100000 in
theorem c_passForwards (l : Launch) (G : Gx) (z : Sto) {la gl ol n : Nat} {ga : Nat → Nat} {N : NT} {os : List Nat} {W Vi : Wt} (h : lnH G z la gl ol n ga N os) (hV : Vfix N Vi) (hr : lrep z ga (nN N) W) (hI : LInv N Vi W) : Ct l yX2_passForwards wsX2_passForwards ({ frames := 3, cells := 0, slots := 0, locals := 80 } : Room) G z [.ref la] (fun rv z' => ∃ g, rv = some (.int (bI g)) ∧ psP z z' ga N Vi W g (fun i => i ∈ os)) := by
  refine ct_of (cc := cX2_passForwards) (maxL := 3) (ret := (some .boolean)) (lv0 := [(0, .ref la)]) (by decide) rfl (by simp [lg_sl, cat_ref, cat_null, cat_int, cat_long, rf_cat]) (by simp [lv_args, cat_ref, cat_null, cat_int, cat_long, rf_cat]) ?_
  intro p e s m args below meth c C hin
  have i3 : ∀ w ∈ u_ws RX2 TX2 2, w ∈ wsX2_passForwards := by decide +kernel
  obtain ⟨⟨hla, hl96, hl97⟩, hnn, ⟨cg, hgl⟩, ⟨co, hol⟩, hos, hall, hlen, hgts, h68, hO⟩ := id h
  subst hnn
  have hn := hO.1
  have hga := hgts.2
  have loop : ∀ (r i : Nat) (z1 : Sto) (g : Bool), i + r = os.length → psP z z1 ga N Vi W g (fun v => ∃ j, j < i ∧ os.getD j 0 = v) → Wp p l e ({ frames := 3, cells := 0, slots := 0, locals := 80 } : Room) s m args below meth c G 3 0 0 (MQ below (cPost G (fun rv z' => ∃ g, rv = some (.int (bI g)) ∧ psP z z' ga N Vi W g (fun i => i ∈ os))) args s (0) (0) (gA G)) z1 4 [(2, .int (nI i)), (1, .int (bI g)), (0, .ref la)] [] := by
    intro r
    induction r with
    | zero =>
      intro i z1 g hi hps
      have hin : i = os.length := by omega
      have hx1 := lnH_jF h hps.1
      have hl1 := hps.1.lst hol
      refine w_iload_n C 0 dX2_passForwards_4 rfl rfl ?_
      refine w_aload_n C 2 dX2_passForwards_5 rfl rfl (by first | rfl | exact isRef_rf _) ?_
      refine w_getRs (ci := 3) (k := 1) (f := 97) C rfl i3 (by decide +kernel) (by decide) (by decide) rfl rfl dX2_passForwards_6 hx1.1.1 hx1.1.2.2 ?_
      refine w_callV (ci := 0) (As := []) (rest := [.int (nI i)]) C (cwV 0 C.1.2.2.2.2 gX2_passForwards_Jx4a65c_size_8abf5 rfl rfl rfl (by decide +kernel) ⟨Nat.le_of_ble_eq_true rfl, Nat.le_of_ble_eq_true rfl⟩) hl1.1 rfl (by decide) rfl rfl (by first | decide | simp [cat_ref, cat_null, cat_int, cat_long, rf_cat]) dX2_passForwards_9 ⟨Nat.le_of_ble_eq_true rfl, Nat.le_of_ble_eq_true rfl⟩ (c_size l G z1 hl1) (fun rv z2 h9 => ?_)
      obtain ⟨rfl, e9⟩ := h9
      replace e9 := e9.symm
      subst e9
      refine w_icmp_ge (tgt := 40) C dX2_passForwards_12 (by decide) (fun c1 => ?_) (fun c1 => ?_)
      · refine w_iload_n C 1 dX2_passForwards_40 rfl rfl ?_
        exact w_zret C dX2_passForwards_41 (bI_nar g) ⟨g, rfl, hps.1, by obtain ⟨-, W1, w1, w2, w3, w4⟩ := hps; exact ⟨W1, w1, w2, fun q v hv => w3 q v (by obtain ⟨j, hj, e9⟩ := os_idx hv; exact ⟨j, by omega, e9⟩), w4⟩⟩
      · exact absurd (nI_le (a := os.length) (b := i) (by omega) (by omega)) c1
    | succ r ih =>
      intro i z1 g hi hps
      have hin : i < os.length := by omega
      have hx1 := lnH_jF h hps.1
      have hl1 := hps.1.lst hol
      obtain ⟨v, hv⟩ : ∃ v, v = os.getD i 0 := ⟨_, rfl⟩
      have hvn := hos v (by rw [hv]; exact os_get hin)
      obtain ⟨gi1, gi2, gi3, gi4, gi5⟩ := (hps.1.gts hgts).1 v hvn.1
      refine w_iload_n C 0 dX2_passForwards_4 rfl rfl ?_
      refine w_aload_n C 2 dX2_passForwards_5 rfl rfl (by first | rfl | exact isRef_rf _) ?_
      refine w_getRs (ci := 3) (k := 1) (f := 97) C rfl i3 (by decide +kernel) (by decide) (by decide) rfl rfl dX2_passForwards_6 hx1.1.1 hx1.1.2.2 ?_
      refine w_callV (ci := 0) (As := []) (rest := [.int (nI i)]) C (cwV 0 C.1.2.2.2.2 gX2_passForwards_Jx4a65c_size_8abf5 rfl rfl rfl (by decide +kernel) ⟨Nat.le_of_ble_eq_true rfl, Nat.le_of_ble_eq_true rfl⟩) hl1.1 rfl (by decide) rfl rfl (by first | decide | simp [cat_ref, cat_null, cat_int, cat_long, rf_cat]) dX2_passForwards_9 ⟨Nat.le_of_ble_eq_true rfl, Nat.le_of_ble_eq_true rfl⟩ (c_size l G z1 hl1) (fun rv z2 h9 => ?_)
      obtain ⟨rfl, e9⟩ := h9
      replace e9 := e9.symm
      subst e9
      refine w_icmp_ge (tgt := 40) C dX2_passForwards_12 (by decide) (fun c1 => ?_) (fun c1 => ?_)
      · exact absurd c1 (nI_ge hin (by omega))
      · refine w_aload_n C 2 dX2_passForwards_15 rfl rfl (by first | rfl | exact isRef_rf _) ?_
        refine w_getRs (ci := 3) (k := 1) (f := 97) C rfl i3 (by decide +kernel) (by decide) (by decide) rfl rfl dX2_passForwards_16 hx1.1.1 hx1.1.2.2 ?_
        refine w_iload_n C 0 dX2_passForwards_19 rfl rfl ?_
        refine w_callV (ci := 0) (As := [.int (nI i)]) (rest := []) C (cwV 1 C.1.2.2.2.2 gX2_passForwards_Jx4a65c_get_915e3 rfl rfl rfl (by decide +kernel) ⟨Nat.le_of_ble_eq_true rfl, Nat.le_of_ble_eq_true rfl⟩) hl1.1 rfl (by decide) rfl rfl (by first | decide | simp [cat_ref, cat_null, cat_int, cat_long, rf_cat]) dX2_passForwards_20 ⟨Nat.le_of_ble_eq_true rfl, Nat.le_of_ble_eq_true rfl⟩ (c_get l G z1 hl1 hin) (fun rv z2 h9 => ?_)
        obtain ⟨rfl, e9⟩ := h9
        replace e9 := e9.symm
        subst e9
        rw [← hv]
        refine w_cast (ci := 2) C (by decide +kernel) gi1 rfl (by decide) dX2_passForwards_23 ?_
        refine w_callV (ci := 2) (As := []) (rest := []) C (cwV 0 C.1.2.2.2.2 gX2_passForwards_X1_lanesGrow rfl rfl rfl (by decide +kernel) ⟨Nat.le_of_ble_eq_true rfl, Nat.le_of_ble_eq_true rfl⟩) gi1 rfl (by decide) rfl rfl (by first | decide | simp [cat_ref, cat_null, cat_int, cat_long, rf_cat]) dX2_passForwards_26 ⟨Nat.le_of_ble_eq_true rfl, Nat.le_of_ble_eq_true rfl⟩ (c_lanesGrow l G z1 gi1 gi4) (fun rv z2 h9 => ?_)
        obtain ⟨rfl, e9⟩ := h9
        replace e9 := e9.symm
        have hst := psP_step hO hV hga hps hvn.1 hvn.2 gi3 rfl rfl
        rw [e9] at hst
        subst e9
        generalize hgd : (!decide (lgO z1 (ga v) ((nFd N v).map (fun x => (ga x.1, x.2))) = sJ z1 79 (ga v) ∧ lgZ z1 (ga v) ((nFd N v).map (fun x => (ga x.1, x.2))) = sJ z1 80 (ga v))) = gd at hst ⊢
        refine w_if_eq (tgt := 34) C dX2_passForwards_29 (by decide) (fun c2 => ?_) (fun c2 => ?_)
        · rw [bI_0] at c2
          subst c2
          rw [Bool.or_false] at hst
          refine w_iincB (v := nI (i + 1)) (lvq := [(2, _), (1, _), (0, _)]) C 0 1 rfl rfl (by first | rfl | exact rf_cat _) dX2_passForwards_34 rfl (nI_1 i) (by decide) rfl ?_
          refine w_goto (tgt := 4) C dX2_passForwards_37 (by decide) ?_
          first | exact w_sub [0, 1, 2] rfl (ih (i + 1) _ g (by omega) (by obtain ⟨w0, W1, w1, w2, w3, w4⟩ := hst; exact ⟨w0, W1, w1, w2, fun q u hu => w3 q u (by obtain ⟨j, hj, e9⟩ := hu; by_cases hji : j = i; exact Or.inr (by rw [← e9, hji, hv]); exact Or.inl ⟨j, by omega, e9⟩), w4⟩)) | exact w_sub [0, 1, 2] rfl (ih (i + 1) _ true (by omega) (by obtain ⟨w0, W1, w1, w2, w3, w4⟩ := hst; exact ⟨w0, W1, w1, w2, fun q u hu => w3 q u (by obtain ⟨j, hj, e9⟩ := hu; by_cases hji : j = i; exact Or.inr (by rw [← e9, hji, hv]); exact Or.inl ⟨j, by omega, e9⟩), w4⟩))
        · have c3 : gd = true := by cases gd with | true => rfl | false => exact absurd rfl c2
          subst c3
          rw [Bool.or_true] at hst
          refine w_iconst (v := 1) C dX2_passForwards_32 (by decide) ?_
          refine w_istore_nB (lvq := [(1, _), (2, _), (0, _)]) C 2 rfl rfl (by first | rfl | exact rf_cat _) dX2_passForwards_33 rfl (by decide) rfl ?_
          refine w_iincB (v := nI (i + 1)) (lvq := [(2, _), (1, _), (0, _)]) C 1 0 rfl rfl (by first | rfl | exact rf_cat _) dX2_passForwards_34 rfl (nI_1 i) (by decide) rfl ?_
          refine w_goto (tgt := 4) C dX2_passForwards_37 (by decide) ?_
          first | exact w_sub [0, 1, 2] rfl (ih (i + 1) _ g (by omega) (by obtain ⟨w0, W1, w1, w2, w3, w4⟩ := hst; exact ⟨w0, W1, w1, w2, fun q u hu => w3 q u (by obtain ⟨j, hj, e9⟩ := hu; by_cases hji : j = i; exact Or.inr (by rw [← e9, hji, hv]); exact Or.inl ⟨j, by omega, e9⟩), w4⟩)) | exact w_sub [0, 1, 2] rfl (ih (i + 1) _ true (by omega) (by obtain ⟨w0, W1, w1, w2, w3, w4⟩ := hst; exact ⟨w0, W1, w1, w2, fun q u hu => w3 q u (by obtain ⟨j, hj, e9⟩ := hu; by_cases hji : j = i; exact Or.inr (by rw [← e9, hji, hv]); exact Or.inl ⟨j, by omega, e9⟩), w4⟩))
  refine w_iconst (v := 0) C dX2_passForwards_0 (by decide) ?_
  refine w_istore_nB (lvq := [(1, _), (0, _)]) C 0 rfl rfl (by first | rfl | exact rf_cat _) dX2_passForwards_1 rfl (by decide) rfl ?_
  refine w_iconst (v := 0) C dX2_passForwards_2 (by decide) ?_
  refine w_istore_nB (lvq := [(2, _), (1, _), (0, _)]) C 0 rfl rfl (by first | rfl | exact rf_cat _) dX2_passForwards_3 rfl (by decide) rfl ?_
  exact w_sub [0, 1, 2] rfl (loop os.length 0 z false (by omega) ⟨jF.rf z, W, hr, hI, fun _ v hv => (by obtain ⟨j, hj, -⟩ := hv; cases hj), fun q => (by cases q), Nat.le_refl _⟩)
set_option maxHeartbeats 4000000 in
set_option maxRecDepth 100000 in
theorem c_passBackwards (l : Launch) (G : Gx) (z : Sto) {la gl ol n : Nat} {ga : Nat → Nat} {N : NT} {os : List Nat} {W Vi : Wt} (h : lnH G z la gl ol n ga N os) (hV : Vfix N Vi) (hr : lrep z ga (nN N) W) (hI : LInv N Vi W) : Ct l yX2_passBackwards wsX2_passBackwards ({ frames := 3, cells := 0, slots := 0, locals := 80 } : Room) G z [.ref la] (fun rv z' => ∃ g, rv = some (.int (bI g)) ∧ psP z z' ga N Vi W g (fun i => i ∈ os)) := by
  refine ct_of (cc := cX2_passBackwards) (maxL := 3) (ret := (some .boolean)) (lv0 := [(0, .ref la)]) (by decide) rfl (by simp [lg_sl, cat_ref, cat_null, cat_int, cat_long, rf_cat]) (by simp [lv_args, cat_ref, cat_null, cat_int, cat_long, rf_cat]) ?_
  intro p e s m args below meth c C hin
  have i3 : ∀ w ∈ u_ws RX2 TX2 2, w ∈ wsX2_passBackwards := by decide +kernel
  obtain ⟨⟨hla, hl96, hl97⟩, hnn, ⟨cg, hgl⟩, ⟨co, hol⟩, hos, hall, hlen, hgts, h68, hO⟩ := id h
  subst hnn
  have hn := hO.1
  have hga := hgts.2
  have loop : ∀ (i : Nat) (z1 : Sto) (g : Bool), i ≤ os.length → psP z z1 ga N Vi W g (fun v => ∃ j, i ≤ j ∧ j < os.length ∧ os.getD j 0 = v) → Wp p l e ({ frames := 3, cells := 0, slots := 0, locals := 80 } : Room) s m args below meth c G 3 0 0 (MQ below (cPost G (fun rv z' => ∃ g, rv = some (.int (bI g)) ∧ psP z z' ga N Vi W g (fun i => i ∈ os))) args s (0) (0) (gA G)) z1 12 [(2, .int (nI i - 1)), (1, .int (bI g)), (0, .ref la)] [] := by
    intro i
    induction i with
    | zero =>
      intro z1 g hi hps
      have hx1 := lnH_jF h hps.1
      refine w_iload_n C 0 dX2_passBackwards_12 rfl rfl ?_
      refine w_if_lt (tgt := 41) C dX2_passBackwards_13 (by decide) (fun c1 => ?_) (fun c1 => ?_)
      · refine w_iload_n C 1 dX2_passBackwards_41 rfl rfl ?_
        exact w_zret C dX2_passBackwards_42 (bI_nar g) ⟨g, rfl, hps.1, by obtain ⟨-, W1, w1, w2, w3, w4⟩ := hps; exact ⟨W1, w1, w2, fun q v hv => w3 q v (by obtain ⟨j, hj, e9⟩ := os_idx hv; exact ⟨j, by omega, hj, e9⟩), w4⟩⟩
      · exact absurd (by decide : (nI 0 - 1 : Int32) < 0) c1
    | succ i ih =>
      intro z1 g hi hps
      have hin : i < os.length := by omega
      have hx1 := lnH_jF h hps.1
      have hl1 := hps.1.lst hol
      obtain ⟨v, hv⟩ : ∃ v, v = os.getD i 0 := ⟨_, rfl⟩
      have hvn := hos v (by rw [hv]; exact os_get hin)
      obtain ⟨gi1, gi2, gi3, gi4, gi5⟩ := (hps.1.gts hgts).1 v hvn.1
      rw [nI_pred i]
      refine w_iload_n C 0 dX2_passBackwards_12 rfl rfl ?_
      refine w_if_lt (tgt := 41) C dX2_passBackwards_13 (by decide) (fun c1 => ?_) (fun c1 => ?_)
      · exact absurd c1 (nI_pos (by omega))
      · refine w_aload_n C 2 dX2_passBackwards_16 rfl rfl (by first | rfl | exact isRef_rf _) ?_
        refine w_getRs (ci := 3) (k := 1) (f := 97) C rfl i3 (by decide +kernel) (by decide) (by decide) rfl rfl dX2_passBackwards_17 hx1.1.1 hx1.1.2.2 ?_
        refine w_iload_n C 0 dX2_passBackwards_20 rfl rfl ?_
        refine w_callV (ci := 0) (As := [.int (nI i)]) (rest := []) C (cwV 1 C.1.2.2.2.2 gX2_passBackwards_Jx4a65c_get_915e3 rfl rfl rfl (by decide +kernel) ⟨Nat.le_of_ble_eq_true rfl, Nat.le_of_ble_eq_true rfl⟩) hl1.1 rfl (by decide) rfl rfl (by first | decide | simp [cat_ref, cat_null, cat_int, cat_long, rf_cat]) dX2_passBackwards_21 ⟨Nat.le_of_ble_eq_true rfl, Nat.le_of_ble_eq_true rfl⟩ (c_get l G z1 hl1 hin) (fun rv z2 h9 => ?_)
        obtain ⟨rfl, e9⟩ := h9
        replace e9 := e9.symm
        subst e9
        rw [← hv]
        refine w_cast (ci := 2) C (by decide +kernel) gi1 rfl (by decide) dX2_passBackwards_24 ?_
        refine w_callV (ci := 2) (As := []) (rest := []) C (cwV 0 C.1.2.2.2.2 gX2_passBackwards_X1_lanesGrow rfl rfl rfl (by decide +kernel) ⟨Nat.le_of_ble_eq_true rfl, Nat.le_of_ble_eq_true rfl⟩) gi1 rfl (by decide) rfl rfl (by first | decide | simp [cat_ref, cat_null, cat_int, cat_long, rf_cat]) dX2_passBackwards_27 ⟨Nat.le_of_ble_eq_true rfl, Nat.le_of_ble_eq_true rfl⟩ (c_lanesGrow l G z1 gi1 gi4) (fun rv z2 h9 => ?_)
        obtain ⟨rfl, e9⟩ := h9
        replace e9 := e9.symm
        have hst := psP_step hO hV hga hps hvn.1 hvn.2 gi3 rfl rfl
        rw [e9] at hst
        subst e9
        generalize hgd : (!decide (lgO z1 (ga v) ((nFd N v).map (fun x => (ga x.1, x.2))) = sJ z1 79 (ga v) ∧ lgZ z1 (ga v) ((nFd N v).map (fun x => (ga x.1, x.2))) = sJ z1 80 (ga v))) = gd at hst ⊢
        refine w_if_eq (tgt := 35) C dX2_passBackwards_30 (by decide) (fun c2 => ?_) (fun c2 => ?_)
        · rw [bI_0] at c2
          subst c2
          rw [Bool.or_false] at hst
          refine w_iincB (v := (nI i - 1)) (lvq := [(2, _), (1, _), (0, _)]) C 0 1 rfl rfl (by first | rfl | exact rf_cat _) dX2_passBackwards_35 rfl (by rw [show Int32.ofInt (-1) = -1 from by decide]; exact (Int32.sub_eq_add_neg _ _).symm) (by decide) rfl ?_
          refine w_goto (tgt := 12) C dX2_passBackwards_38 (by decide) ?_
          first | exact w_sub [0, 1, 2] rfl (ih _ g (by omega) (by obtain ⟨w0, W1, w1, w2, w3, w4⟩ := hst; exact ⟨w0, W1, w1, w2, fun q u hu => w3 q u (by obtain ⟨j, hj, hj2, e9⟩ := hu; by_cases hji : j = i; exact Or.inr (by rw [← e9, hji, hv]); exact Or.inl ⟨j, by omega, hj2, e9⟩), w4⟩)) | exact w_sub [0, 1, 2] rfl (ih _ true (by omega) (by obtain ⟨w0, W1, w1, w2, w3, w4⟩ := hst; exact ⟨w0, W1, w1, w2, fun q u hu => w3 q u (by obtain ⟨j, hj, hj2, e9⟩ := hu; by_cases hji : j = i; exact Or.inr (by rw [← e9, hji, hv]); exact Or.inl ⟨j, by omega, hj2, e9⟩), w4⟩))
        · have c3 : gd = true := by cases gd with | true => rfl | false => exact absurd rfl c2
          subst c3
          rw [Bool.or_true] at hst
          refine w_iconst (v := 1) C dX2_passBackwards_33 (by decide) ?_
          refine w_istore_nB (lvq := [(1, _), (2, _), (0, _)]) C 2 rfl rfl (by first | rfl | exact rf_cat _) dX2_passBackwards_34 rfl (by decide) rfl ?_
          refine w_iincB (v := (nI i - 1)) (lvq := [(2, _), (1, _), (0, _)]) C 1 0 rfl rfl (by first | rfl | exact rf_cat _) dX2_passBackwards_35 rfl (by rw [show Int32.ofInt (-1) = -1 from by decide]; exact (Int32.sub_eq_add_neg _ _).symm) (by decide) rfl ?_
          refine w_goto (tgt := 12) C dX2_passBackwards_38 (by decide) ?_
          first | exact w_sub [0, 1, 2] rfl (ih _ g (by omega) (by obtain ⟨w0, W1, w1, w2, w3, w4⟩ := hst; exact ⟨w0, W1, w1, w2, fun q u hu => w3 q u (by obtain ⟨j, hj, hj2, e9⟩ := hu; by_cases hji : j = i; exact Or.inr (by rw [← e9, hji, hv]); exact Or.inl ⟨j, by omega, hj2, e9⟩), w4⟩)) | exact w_sub [0, 1, 2] rfl (ih _ true (by omega) (by obtain ⟨w0, W1, w1, w2, w3, w4⟩ := hst; exact ⟨w0, W1, w1, w2, fun q u hu => w3 q u (by obtain ⟨j, hj, hj2, e9⟩ := hu; by_cases hji : j = i; exact Or.inr (by rw [← e9, hji, hv]); exact Or.inl ⟨j, by omega, hj2, e9⟩), w4⟩))
  refine w_iconst (v := 0) C dX2_passBackwards_0 (by decide) ?_
  refine w_istore_nB (lvq := [(1, _), (0, _)]) C 0 rfl rfl (by first | rfl | exact rf_cat _) dX2_passBackwards_1 rfl (by decide) rfl ?_
  refine w_aload_n C 1 dX2_passBackwards_2 rfl rfl (by first | rfl | exact isRef_rf _) ?_
  refine w_getRs (ci := 3) (k := 1) (f := 97) C rfl i3 (by decide +kernel) (by decide) (by decide) rfl rfl dX2_passBackwards_3 hla hl97 ?_
  refine w_callV (ci := 0) (As := []) (rest := []) C (cwV 0 C.1.2.2.2.2 gX2_passBackwards_Jx4a65c_size_8abf5 rfl rfl rfl (by decide +kernel) ⟨Nat.le_of_ble_eq_true rfl, Nat.le_of_ble_eq_true rfl⟩) hol.1 rfl (by decide) rfl rfl (by first | decide | simp [cat_ref, cat_null, cat_int, cat_long, rf_cat]) dX2_passBackwards_6 ⟨Nat.le_of_ble_eq_true rfl, Nat.le_of_ble_eq_true rfl⟩ (c_size l G z hol) (fun rv z2 h9 => ?_)
  obtain ⟨rfl, e9⟩ := h9
  replace e9 := e9.symm
  subst e9
  refine w_iconst (v := 1) C dX2_passBackwards_9 (by decide) ?_
  refine w_isub C dX2_passBackwards_10 ?_
  refine w_istore_nB (lvq := [(2, _), (1, _), (0, _)]) C 0 rfl rfl (by first | rfl | exact rf_cat _) dX2_passBackwards_11 rfl (by decide) rfl ?_
  exact w_sub [0, 1, 2] rfl (loop os.length z false (Nat.le_refl _) ⟨jF.rf z, W, hr, hI, fun _ v hv => (by obtain ⟨j, hj, hj2, -⟩ := hv; omega), fun q => (by cases q), Nat.le_refl _⟩)
