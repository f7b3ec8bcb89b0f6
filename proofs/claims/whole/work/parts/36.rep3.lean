/-! ===== the store follows the walk: a part is closed ===== -/
theorem cps_I (v : Int32) {f b : Nat} (h1 : f ≠ 76) (h2 : f ≠ 78) : ∀ (L : List Nat) (z : Sto), sI (cps v L z) f b = sI z f b := by
  intro L
  induction L with
  | nil => intro z; rfl
  | cons g tl ih => intro z; exact (ih _).trans (rI_If h2 (rI_If h1 rfl))
theorem cps_76n (v : Int32) {b : Nat} : ∀ (L : List Nat) (z : Sto), b ∉ L → sI (cps v L z) 76 b = sI z 76 b := by
  intro L
  induction L with
  | nil => intro z _; rfl
  | cons g tl ih => intro z hb; exact (ih _ (fun q => hb (List.mem_cons_of_mem _ q))).trans (rI_If (by decide) (rI_Ia (fun e => hb (e ▸ List.mem_cons_self)) rfl))
theorem cps_78n (v : Int32) {b : Nat} : ∀ (L : List Nat) (z : Sto), b ∉ L → sI (cps v L z) 78 b = sI z 78 b := by
  intro L
  induction L with
  | nil => intro z _; rfl
  | cons g tl ih => intro z hb; exact (ih _ (fun q => hb (List.mem_cons_of_mem _ q))).trans (rI_Ia (fun e => hb (e ▸ List.mem_cons_self)) (rI_If (by decide) rfl))
theorem cps_76 (v : Int32) {b : Nat} : ∀ (L : List Nat) (z : Sto), b ∈ L → sI (cps v L z) 76 b = 0 := by
  intro L
  induction L with
  | nil => intro z hb; cases hb
  | cons g tl ih =>
    intro z hb
    by_cases h : b ∈ tl
    · exact ih _ h
    · rcases List.mem_cons.mp hb with rfl | hb
      · exact (cps_76n v tl _ h).trans (rI_If (by decide) rI_Is)
      · exact absurd hb h
theorem cps_78 (v : Int32) {b : Nat} : ∀ (L : List Nat) (z : Sto), b ∈ L → sI (cps v L z) 78 b = v := by
  intro L
  induction L with
  | nil => intro z hb; cases hb
  | cons g tl ih =>
    intro z hb
    by_cases h : b ∈ tl
    · exact ih _ h
    · rcases List.mem_cons.mp hb with rfl | hb
      · exact (cps_78n v tl _ h).trans rI_Is
      · exact absurd hb h
theorem cpS_I (z : Sto) (pt g : Nat) (L : List Nat) {f b : Nat} (h : f ≠ 129) : sI (cpS z pt g L) f b = sI (cps (cpV z pt g L) L z) f b := by
  unfold cpS
  refine rI_R ?_
  unfold cpS1
  split
  · exact rI_If h rfl
  · rfl
theorem cpS_129 (z : Sto) (pt g : Nat) (L : List Nat) : sI (cpS z pt g L) 129 pt = sI z 129 pt + (if hasB z pt g then 1 else 0) := by
  unfold cpS
  refine rI_R ?_
  unfold cpS1
  cases hasB z pt g with
  | true =>
    simp only [if_true]
    refine rI_Is.trans ?_
    rw [cps_I _ (by decide) (by decide)]
  | false =>
    simp only [Bool.false_eq_true, if_false, Int32.add_zero]
    exact cps_I _ (by decide) (by decide) _ _
theorem bch_split {z : Sto} {g : Nat} : ∀ {L1 L2 : List Nat} {r : Option Nat}, bch z r (L1 ++ g :: L2) none → (∀ b ∈ L1 ++ [g], b ∉ L2) → bch z r (L1 ++ [g]) (sR z 75 g) ∧ bch z (sR z 75 g) L2 none := by
  intro L1
  induction L1 with
  | nil =>
    intro L2 r h hd
    obtain ⟨h1, h2, h3, h4⟩ := h
    refine ⟨⟨h1, h2, fun e => ?_, rfl⟩, h4⟩
    cases L2 with
    | nil => rw [show sR z 75 g = none from h4] at e; cases e
    | cons x tl =>
      rw [h4.1] at e
      exact hd g List.mem_cons_self (by rw [Option.some.inj e]; exact List.mem_cons_self)
  | cons x tl ih =>
    intro L2 r h hd
    obtain ⟨h1, h2, h3, h4⟩ := h
    obtain ⟨i1, i2⟩ := ih h4 (fun b hb => hd b (List.mem_cons_of_mem _ hb))
    refine ⟨⟨h1, h2, fun e => ?_, i1⟩, i2⟩
    cases L2 with
    | nil => rw [show sR z 75 g = none from i2] at e; cases e
    | cons y t2 =>
      rw [i2.1] at e
      exact hd x List.mem_cons_self (by rw [Option.some.inj e]; exact List.mem_cons_self)
theorem mnl_nI {z : Sto} {ga : Nat → Nat} : ∀ (L : List Nat) (m : Nat), (∀ v ∈ L, sI z 64 (ga v) = nI v ∧ v < 2 ^ 31) → m < 2 ^ 31 → mnl z (L.map ga) (nI m) = nI (lstm L m) := by
  intro L
  induction L with
  | nil => intro m _ _; rfl
  | cons x tl ih =>
    intro m hL hm
    obtain ⟨e1, e2⟩ := hL x List.mem_cons_self
    show mnl z (tl.map ga) (if sI z 64 (ga x) < nI m then sI z 64 (ga x) else nI m) = nI (lstm tl (min x m))
    rw [e1, nI_min hm e2, Nat.min_comm m x]
    exact ih _ (fun v hv => hL v (List.mem_cons_of_mem _ hv)) (by omega)
theorem lstm_mem : ∀ (L : List Nat) (m : Nat), lstm L m = m ∨ lstm L m ∈ L := by
  intro L
  induction L with
  | nil => intro m; exact Or.inl rfl
  | cons x tl ih =>
    intro m
    show lstm tl (min x m) = m ∨ lstm tl (min x m) ∈ x :: tl
    rcases ih (min x m) with h | h
    · rw [h]
      rcases Nat.le_total x m with q | q
      · rw [Nat.min_eq_left q]; exact Or.inr List.mem_cons_self
      · rw [Nat.min_eq_right q]; exact Or.inl rfl
    · exact Or.inr (List.mem_cons_of_mem _ h)
theorem lstm_le : ∀ (L : List Nat) (m : Nat), lstm L m ≤ m ∧ ∀ v ∈ L, lstm L m ≤ v := by
  intro L
  induction L with
  | nil => intro m; exact ⟨Nat.le_refl _, fun v hv => by cases hv⟩
  | cons x tl ih =>
    intro m
    obtain ⟨h1, h2⟩ := ih (min x m)
    refine ⟨Nat.le_trans h1 (Nat.min_le_right _ _), fun v hv => ?_⟩
    rcases List.mem_cons.mp hv with rfl | hv
    · exact Nat.le_trans h1 (Nat.min_le_left _ _)
    · exact h2 v hv
section Rep36
variable {G : Gx} {z : Sto} {pt ol n : Nat} {ga : Nat → Nat} {so : Nat → Int32} {fd : Nat → List (Nat × Int32)} {A : AS}
theorem wrp_bch (h : wrp G z pt ol n ga so fd A) {p : Nat} (hsp : aSt A = segA A p ++ p :: rstA A p) (hnd : ∀ v ∈ segA A p ++ [p], v ∉ rstA A p) : bch z (sR z 131 pt) ((segA A p ++ [p]).map ga) (sR z 75 (ga p)) ∧ bch z (sR z 75 (ga p)) ((rstA A p).map ga) none := by
  obtain ⟨-, ⟨-, -, b3, -⟩, -, c2, -⟩ := id h
  rw [hsp, List.map_append, List.map_cons] at b3
  have := bch_split b3 (fun b hb q => by
    obtain ⟨w, hw, rfl⟩ := List.mem_map.mp q
    have hb' : ga w ∈ (segA A p ++ [p]).map ga := by simpa using hb
    obtain ⟨v, hv, e⟩ := List.mem_map.mp hb'
    have hvst : v ∈ aSt A := by rw [hsp]; rcases List.mem_append.mp hv with q | q; exact List.mem_append_left _ q; rw [List.mem_singleton.mp q]; exact List.mem_append_right _ List.mem_cons_self
    have hwst : w ∈ aSt A := by rw [hsp]; exact List.mem_append_right _ (List.mem_cons_of_mem _ hw)
    have := h.1.2.2.2 v w (c2 v hvst).1 (c2 w hwst).1 e
    exact hnd v hv (this ▸ hw))
  refine ⟨?_, this.2⟩
  have h1 := this.1
  rw [List.map_append]
  exact h1
theorem wrp_has (h : wrp G z pt ol n ga so fd A) {p : Nat} (hp : p ∈ aSt A) (hsp : aSt A = segA A p ++ p :: rstA A p) (hsg : ∀ v ∈ segA A p, v ≠ p) : hasB z pt (ga p) = hasA A p := by
  obtain ⟨-, ⟨-, -, b3, -⟩, -, c2, -⟩ := id h
  unfold hasB hasA
  rw [(c2 p hp).2.2.1]
  have e2 : (!decide (bI (aFi A p) = 0)) = aFi A p := by cases aFi A p <;> rfl
  rw [e2]
  have e1 : decide (sR z 131 pt = some (ga p)) = decide (segA A p = []) := by
    refine decide_eq_decide.mpr ?_
    rw [hsp, List.map_append, List.map_cons] at b3
    constructor
    · intro q
      cases hs : segA A p with
      | nil => rfl
      | cons x tl =>
        rw [hs] at b3
        have hb2 : sR z 131 pt = some (ga x) := b3.1
        rw [q] at hb2
        have hx : x ∈ segA A p := by rw [hs]; exact List.mem_cons_self
        have hxst : x ∈ aSt A := by rw [hsp]; exact List.mem_append_left _ hx
        exact absurd (h.1.2.2.2 p x (c2 p hp).1 (c2 x hxst).1 (Option.some.inj hb2)).symm (hsg x hx)
    · intro q
      rw [q] at b3
      exact b3.1
  rw [e1]
theorem wrp_close (h : wrp G z pt ol n ga so fd A) (hn : n < 2 ^ 31) {p : Nat} (hp : p ∈ aSt A) (hsp : aSt A = segA A p ++ p :: rstA A p) (hsg : ∀ v ∈ segA A p, v ≠ p) (hnd : ∀ v ∈ segA A p ++ [p], v ∉ rstA A p) :
    wrp G (cpS z pt (ga p) ((segA A p ++ [p]).map ga)) pt ol n ga so fd (clsA A p) := by
  obtain ⟨⟨a1, a2, a3⟩, ⟨b1, b2, b3, b4⟩, c1, c2, c3, c4, c5⟩ := id h
  obtain ⟨L, hL⟩ : ∃ L, L = (segA A p ++ [p]).map ga := ⟨_, rfl⟩
  have hin : ∀ v ∈ segA A p ++ [p], v ∈ aSt A := fun v hv => by
    rw [hsp]
    rcases List.mem_append.mp hv with q | q
    · exact List.mem_append_left _ q
    · rw [List.mem_singleton.mp q]; exact List.mem_append_right _ List.mem_cons_self
  have hrs : ∀ v ∈ rstA A p, v ∈ aSt A := fun v hv => by rw [hsp]; exact List.mem_append_right _ (List.mem_cons_of_mem _ hv)
  have hst : ∀ v, v ∈ aSt A → v ∈ segA A p ++ [p] ∨ v ∈ rstA A p := fun v hv => by
    rw [hsp] at hv
    rcases List.mem_append.mp hv with q | q
    · exact Or.inl (List.mem_append_left _ q)
    · rcases List.mem_cons.mp q with rfl | q
      · exact Or.inl (List.mem_append_right _ List.mem_cons_self)
      · exact Or.inr q
  have hmem : ∀ v, v < n → (ga v ∈ L ↔ v ∈ segA A p ++ [p]) := fun v hv => by
    rw [hL]
    refine ⟨fun q => ?_, fun q => List.mem_map.mpr ⟨v, q, rfl⟩⟩
    obtain ⟨w, hw, e⟩ := List.mem_map.mp q
    rw [← a3.2 w v (c2 w (hin w hw)).1 hv e]
    exact hw
  have hh := wrp_has h hp hsp hsg
  have hcv : cpV z pt (ga p) L = parA A p := by
    unfold cpV parA
    rw [hh]
    cases hasA A p with
    | true =>
      simp only [if_true]
      rw [(a3.1 p (c2 p hp).1).2.1, hL]
      exact mnl_nI _ _ (fun v hv => ⟨(a3.1 v (c2 v (hin v hv)).1).2.1, by have := (c2 v (hin v hv)).1; omega⟩) (by have := (c2 p hp).1; omega)
    | false => rfl
  rw [← hL]
  have I : ∀ f b, f ≠ 129 → f ≠ 76 → f ≠ 78 → sI (cpS z pt (ga p) L) f b = sI z f b := fun f b h1 h2 h3 => (cpS_I z pt (ga p) L h1).trans (cps_I _ h2 h3 _ _)
  have R : ∀ f b, f ≠ 131 → sR (cpS z pt (ga p) L) f b = sR z f b := fun f b h1 => cpS_R z pt (ga p) L h1
  have S : ∀ b k, is z b k → is (cpS z pt (ga p) L) b k := fun b k q => cpS_is q
  have hch : ∀ {M : List (Nat × Int32)} {r : Option Nat}, chn z r M → chn (cpS z pt (ga p) L) r M := fun hc => chn_ext (z := z) (z' := cpS z pt (ga p) L) S (fun b => R 32 b (by decide)) (fun b => I 33 b (by decide) (by decide) (by decide)) (fun b => R 34 b (by decide)) hc
  refine ⟨⟨S _ _ a1, (R 128 pt (by decide)).trans a2, gts_ext (z := z) (z' := cpS z pt (ga p) L) a3 S (fun f b hf => by rcases hf with rfl | rfl | rfl <;> exact I _ b (by decide) (by decide) (by decide)) (fun f b hf => by rcases hf with rfl | rfl | rfl <;> exact R _ b (by decide))⟩,
    ⟨(I 130 pt (by decide) (by decide) (by decide)).trans b1, ?_, ?_, cmf_ext b4 (fun v _ => R 74 _ (by decide))⟩, fun v hv => (I 71 _ (by decide) (by decide) (by decide)).trans (c1 v hv), fun v hv => ?_, fun v hv hs => ?_, fun v hv hs hns => ?_, ?_⟩
  · rw [cpS_129, hh, b2]
    show nI (aCy A) + (if hasA A p then 1 else 0) = nI (aCy A + (if hasA A p then 1 else 0))
    cases hasA A p with
    | true => exact nI_1 _
    | false => simp only [Bool.false_eq_true, if_false, Int32.add_zero, Nat.add_zero]
  · have e1 : sR (cpS z pt (ga p) L) 131 pt = sR z 75 (ga p) := by unfold cpS; exact rR_Rs
    rw [e1]
    exact bch_ext (z := z) (z' := cpS z pt (ga p) L) S (wrp_bch h hsp hnd).2 (fun b _ => R 75 b (by decide))
  · obtain ⟨d1, d2, d3, d4⟩ := c2 v (hrs v hv)
    refine ⟨d1, (I 72 _ (by decide) (by decide) (by decide)).trans d2, (I 77 _ (by decide) (by decide) (by decide)).trans d3, ?_⟩
    rw [R 73 _ (by decide)]
    exact hch d4
  · rw [cpS_I z pt (ga p) L (by decide)]
    by_cases hvL : v ∈ segA A p ++ [p]
    · rw [cps_76 _ _ _ ((hmem v hv).mpr hvL)]
      have : decide (v ∈ aSt (clsA A p)) = false := decide_eq_false (hnd v hvL)
      rw [this]; rfl
    · rw [cps_76n _ _ _ (fun q => hvL ((hmem v hv).mp q)), c3 v hv hs]
      have : decide (v ∈ aSt A) = decide (v ∈ aSt (clsA A p)) := decide_eq_decide.mpr ⟨fun q => (hst v q).resolve_left hvL, fun q => hrs v q⟩
      rw [this]
  · rw [cpS_I z pt (ga p) L (by decide)]
    show _ = if v ∈ segA A p ++ [p] then parA A p else aPt A v
    by_cases hvL : v ∈ segA A p ++ [p]
    · rw [cps_78 _ _ _ ((hmem v hv).mpr hvL), hcv, if_pos hvL]
    · rw [cps_78n _ _ _ (fun q => hvL ((hmem v hv).mp q)), if_neg hvL]
      exact c4 v hv hs (fun q => (hst v q).elim hvL hns)
  · refine lst_ext (z := z) (z' := cpS z pt (ga p) L) c5 S (I 2 _ (by decide) (by decide) (by decide)) (R 1 _ (by decide)) (fun d _ _ => ?_)
    have hN : ∀ (M : List Nat) (x : Int32) (y : Sto), sN (cps x M y) = sN y ∧ sQ (cps x M y) = sQ y := by
      intro M
      induction M with
      | nil => intro x y; exact ⟨rfl, rfl⟩
      | cons g tl ih => intro x y; exact ⟨(ih x _).1, (ih x _).2⟩
    unfold cpS cpS1
    split
    · exact ⟨congrFun (hN L _ z).1 d, congrFun (hN L _ z).2 d⟩
    · exact ⟨congrFun (hN L _ z).1 d, congrFun (hN L _ z).2 d⟩
end Rep36
