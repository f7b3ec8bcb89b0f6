/-! ===== the walk's invariant on numbers, and its measure ===== -/
theorem mup (f : Nat → List (Nat × Int32)) (k : Nat) (x : List (Nat × Int32)) : (fun v => (va_up f k x v).map Prod.fst) = va_up (fun v => (f v).map Prod.fst) k (x.map Prod.fst) := by
  funext v
  by_cases h : v = k
  · subst h; rw [va_up_self, va_up_self]
  · rw [va_up_ne _ _ h, va_up_ne _ _ h]
theorem nsc_nrm (so : Nat → Int32) (fd : Nat → List (Nat × Int32)) (u : Nat) : (nrm so fd u).map Prod.fst = nsc so fd u := by
  unfold nrm nsc
  split <;> rfl
theorem seg_split {p : Nat} : ∀ {seg rest : List Nat}, (∀ v ∈ seg, v ≠ p) → (seg ++ p :: rest).takeWhile (fun v => decide (v ≠ p)) = seg ∧ ((seg ++ p :: rest).dropWhile (fun v => decide (v ≠ p))).tail = rest := by
  intro seg
  induction seg with
  | nil => intro rest _; simp
  | cons x tl ih =>
    intro rest h
    have hx := h x List.mem_cons_self
    obtain ⟨i1, i2⟩ := ih (rest := rest) (fun v hv => h v (List.mem_cons_of_mem _ hv))
    constructor
    · rw [List.cons_append, List.takeWhile_cons, decide_eq_true hx, if_pos rfl, i1]
    · rw [List.cons_append, List.dropWhile_cons, decide_eq_true hx, if_pos rfl, i2]
def lo1A (A : AS) (p : Nat) : List Nat → (Nat → Nat)
  | [] => aLo A
  | q :: _ => va_up (aLo A) q (min (aLo A q) (aLo A p))
def orA (so : Nat → Int32) (A : AS) (p : Nat) : List Nat := if isLog (so p) then aOr A ++ [p] else aOr A
def cpA (so : Nat → Int32) (A : AS) (p : Nat) : Nat := if isLog (so p) then (if (aOr A).length < aCp A then aCp A else gcap (aCp A)) else aCp A
theorem lA_t (so : Nat → Int32) {A : AS} {p : Nat} (ps : List Nat) (hl : aLo A p = aSa A p) : lA so A p ps = (aC A, aSe A, aSa A, lo1A A p ps, aRm A, aFi A, ps, rstA A p, (fun v => if v ∈ segA A p ++ [p] then parA A p else aPt A v), aCy A + (if hasA A p then 1 else 0), orA so A p, cpA so A p) := by
  unfold lA
  simp only []
  rw [if_pos hl]
  cases ps <;> rfl
theorem lA_f (so : Nat → Int32) {A : AS} {p : Nat} (ps : List Nat) (hl : ¬ aLo A p = aSa A p) : lA so A p ps = (aC A, aSe A, aSa A, lo1A A p ps, aRm A, aFi A, ps, aSt A, aPt A, aCy A, orA so A p, cpA so A p) := by
  unfold lA
  simp only []
  rw [if_neg hl]
  cases ps <;> rfl
section Inv37
variable {n : Nat} {so : Nat → Int32} {fd : Nat → List (Nat × Int32)} {A : AS}
theorem TIA_enter0 (h : TIA n so fd A) (hp : aPa A = []) {u : Nat} (hu : u < n) (hs : aSe A u = false) : TIA n so fd (eA so fd A (aRm A) u) := by
  have h1 := TI.enter (rm1 := fun v => (aRm A v).map Prod.fst) h hu hs (Or.inl ⟨hp, rfl⟩)
  show TI n (nsc so fd) _ _ _ _ (fun v => (va_up (aRm A) u (nrm so fd u) v).map Prod.fst) _ _ _
  rw [mup, nsc_nrm]
  exact h1
theorem TIA_enter1 (h : TIA n so fd A) {p : Nat} {ps : List Nat} {x : Nat × Int32} {rs : List (Nat × Int32)} (hp : aPa A = p :: ps) (hr : aRm A p = x :: rs) (hu : x.1 < n) (hs : aSe A x.1 = false) : TIA n so fd (eA so fd A (va_up (aRm A) p rs) x.1) := by
  have h1 := TI.enter (rm1 := va_up (fun v => (aRm A v).map Prod.fst) p (rs.map Prod.fst)) h hu hs (Or.inr ⟨p, ps, rs.map Prod.fst, hp, by show (aRm A p).map Prod.fst = _; rw [hr]; rfl, rfl⟩)
  show TI n (nsc so fd) _ _ _ _ (fun v => (va_up (va_up (aRm A) p rs) x.1 (nrm so fd x.1) v).map Prod.fst) _ _ _
  rw [mup, mup, nsc_nrm]
  exact h1
theorem TIA_follow (h : TIA n so fd A) {p : Nat} {ps : List Nat} {x : Nat × Int32} {rs : List (Nat × Int32)} (hp : aPa A = p :: ps) (hr : aRm A p = x :: rs) (hs : aSe A x.1 = true) : TIA n so fd (fA A p x.1 rs) := by
  have h0 : TI n (nsc so fd) (aC A) (aSe A) (aSa A) (aLo A) (fun v => (aRm A v).map Prod.fst) (aFi A) (p :: ps) (aSt A) := hp ▸ h
  have h1 := TI.follow (rs := rs.map Prod.fst) (u := x.1) (m := if x.1 ∈ aSt A then min (aLo A p) (aSa A x.1) else aLo A p) h0 (by show (aRm A p).map Prod.fst = _; rw [hr]; rfl) hs rfl (by
    by_cases q : x.1 ∈ aSt A
    · exact Or.inl ⟨q, if_pos q⟩
    · exact Or.inr ⟨q, if_neg q⟩)
  show TI n (nsc so fd) (aC A) (aSe A) (aSa A) _ (fun v => (va_up (aRm A) p rs v).map Prod.fst) _ (aPa A) (aSt A)
  rw [mup, hp]
  exact h1
theorem TIA_sub (h : TIA n so fd A) : ∀ v ∈ aPa A, v ∈ aSt A := h.2.2.2.2.2.sub
theorem TIA_np (h : TIA n so fd A) {p : Nat} {ps : List Nat} (hp : aPa A = p :: ps) : p ∉ ps ∧ aSt A = segA A p ++ p :: rstA A p ∧ (∀ v ∈ segA A p, v ≠ p) ∧ (∀ v ∈ segA A p ++ [p], v ∉ rstA A p) ∧ (∀ v ∈ ps, v ∈ rstA A p) ∧ (∀ v ∈ ps, aSa A v < aSa A p) := by
  obtain ⟨a1, a2, a3, a4, a5, a6⟩ := id h
  rw [hp] at a6
  obtain ⟨seg, rest, e, h1, h2, h3⟩ := a6
  rw [e] at a2
  have pw := List.pairwise_append.mp a2
  have pw2 := List.pairwise_cons.mp pw.2.1
  have hsg : ∀ v ∈ seg, v ≠ p := fun v hv q => by
    have := pw.2.2 v hv p List.mem_cons_self
    rw [q] at this; omega
  obtain ⟨e1, e2⟩ := seg_split (rest := rest) hsg
  have f1 : segA A p = seg := by unfold segA; rw [e, e1]
  have f2 : rstA A p = rest := by unfold rstA; rw [e, e2]
  rw [f1, f2]
  have hr : p ∉ rest := fun q => by have := pw2.1 p q; omega
  refine ⟨fun q => hr (h3.sub p q), e, hsg, fun v hv q => ?_, h3.sub, fun v hv => pw2.1 v (h3.sub v hv)⟩
  rcases List.mem_append.mp hv with w | w
  · have := pw.2.2 v w v (List.mem_cons_of_mem _ q); omega
  · rw [List.mem_singleton.mp w] at q; exact hr q
theorem lo1_close (h : TIA n so fd A) {p : Nat} {ps : List Nat} (hp : aPa A = p :: ps) (hl : aLo A p = aSa A p) : lo1A A p ps = aLo A := by
  cases ps with
  | nil => rfl
  | cons q tl =>
    have hq := (TIA_np h hp).2.2.2.2.2 q List.mem_cons_self
    have h5 := (h.2.2.2.2.1 q (TIA_sub h q (by rw [hp]; exact List.mem_cons_of_mem _ List.mem_cons_self))).1
    show va_up (aLo A) q (min (aLo A q) (aLo A p)) = aLo A
    rw [Nat.min_eq_left (by omega)]
    exact va_up_id _ _
/-- what closing a part tells -/
theorem TIA_close (hfd : ∀ v, v < n → ∀ x ∈ fd v, x.1 < n) (h : TIA n so fd A) {p : Nat} {ps : List Nat} (hp : aPa A = p :: ps) (hr : aRm A p = []) (hl : aLo A p = aSa A p) :
    TI n (nsc so fd) (aC A) (aSe A) (aSa A) (aLo A) (fun v => (aRm A v).map Prod.fst) (aFi A) ps (rstA A p) ∧ (∀ v ∈ p :: segA A p, rS (nsc so fd) p v ∧ rS (nsc so fd) v p) ∧ (∀ v, rS (nsc so fd) p v → rS (nsc so fd) v p → v ∈ p :: segA A p) ∧ (aFi A p = true ↔ p ∈ nsc so fd p) := by
  have h0 : TI n (nsc so fd) (aC A) (aSe A) (aSa A) (aLo A) (fun v => (aRm A v).map Prod.fst) (aFi A) (p :: ps) (aSt A) := hp ▸ h
  have hsc : ∀ v, v < n → ∀ u ∈ nsc so fd v, u < n := fun v hv u hu => by
    unfold nsc at hu
    split at hu
    · obtain ⟨x, hx, rfl⟩ := List.mem_map.mp hu
      exact hfd v hv x hx
    · cases hu
  obtain ⟨seg, rest, e, t1, t2, t3, t4, t5, t6⟩ := TI.close hsc h0 (by show (aRm A p).map Prod.fst = _; rw [hr]; rfl) hl
  obtain ⟨e1, e2⟩ := seg_split (rest := rest) t5
  have f1 : segA A p = seg := by unfold segA; rw [e, e1]
  have f2 : rstA A p = rest := by unfold rstA; rw [e, e2]
  rw [f1, f2]
  exact ⟨t1, t2, t3, t4⟩
theorem TIA_leave (hfd : ∀ v, v < n → ∀ x ∈ fd v, x.1 < n) (h : TIA n so fd A) {p : Nat} {ps : List Nat} (hp : aPa A = p :: ps) (hr : aRm A p = []) : TIA n so fd (lA so A p ps) := by
  by_cases hl : aLo A p = aSa A p
  · have h1 := (TIA_close hfd h hp hr hl).1
    rw [lA_t so ps hl, lo1_close h hp hl]
    exact h1
  · rw [lA_f so ps hl]
    cases ps with
    | nil =>
      exfalso
      obtain ⟨a1, a2, a3, a4, a5, a6⟩ := id h
      rw [hp] at a6
      obtain ⟨seg, rest, e, h1, h2, h3⟩ := a6
      have hrest : rest = [] := h3
      subst hrest
      have hpin : p ∈ aSt A := by rw [e]; exact List.mem_append_right _ List.mem_cons_self
      obtain ⟨b1, y, b2, b3, b4⟩ := a5 p hpin
      rw [e] at a2 b2
      have pw := List.pairwise_append.mp a2
      rcases List.mem_append.mp b2 with q | q
      · have := pw.2.2 y q p List.mem_cons_self; omega
      · rcases List.mem_cons.mp q with rfl | q
        · exact hl b3.symm
        · cases q
    | cons q tl =>
      have h0 : TI n (nsc so fd) (aC A) (aSe A) (aSa A) (aLo A) (fun v => (aRm A v).map Prod.fst) (aFi A) (p :: q :: tl) (aSt A) := hp ▸ h
      exact TI.back h0 (by show (aRm A p).map Prod.fst = _; rw [hr]; rfl) hl
/-- all that the walk keeps -/
def TIX (n : Nat) (so : Nat → Int32) (fd : Nat → List (Nat × Int32)) (A : AS) : Prop :=
  TIA n so fd A ∧ aC A = cnt (aSe A) n ∧ (∀ v, v < n → aSe A v = true → v ∉ aSt A → isPart (nsc so fd) v (aPt A v)) ∧
  aCy A = cnt (fun v => aSe A v && !decide (v ∈ aSt A) && decide (aPt A v = nI v)) n ∧ (aOr A).length + (aPa A).length ≤ aC A ∧ (∀ v ∈ aOr A, v < n ∧ isLog (so v) = true) ∧
  (∀ v, v < n → aSe A v = true → isLog (so v) = true → v ∈ aOr A ∨ v ∈ aPa A) ∧ aCp A ≤ 900 ∧ ∀ v, v < n → aSe A v = true → aSa A v < aC A
theorem TIX_enter (h : TIX n so fd A) {rm1 : Nat → List (Nat × Int32)} {u : Nat} (hu : u < n) (hs : aSe A u = false) (ht : TIA n so fd (eA so fd A rm1 u)) : TIX n so fd (eA so fd A rm1 u) := by
  obtain ⟨t, x1, x2, x3, x4, x5, x6, x7⟩ := h
  have se : ∀ v, aSe (eA so fd A rm1 u) v = va_up (aSe A) u true v := fun _ => rfl
  refine ⟨ht, ?_, fun v hv q1 q2 => ?_, ?_, ?_, x5, fun v hv q1 q2 => ?_, x7.1, fun v hv q1 => ?_⟩
  · show aC A + 1 = _
    rw [x1]
    exact (cnt_add hu hs (show aSe (eA so fd A rm1 u) u = true from va_up_self _ _ _) (fun i _ hi => (va_up_ne _ _ hi).symm)).symm
  · have hvu : v ≠ u := fun e => q2 (by rw [e]; exact (show u ∈ u :: aSt A from List.mem_cons_self))
    rw [se, va_up_ne _ _ hvu] at q1
    exact x2 v hv q1 (fun q => q2 (show v ∈ u :: aSt A from List.mem_cons_of_mem _ q))
  · show aCy A = _
    rw [x3]
    refine cnt_congr (fun i hi => ?_)
    rw [se]
    by_cases hiu : i = u
    · subst hiu
      have : decide (i ∈ aSt (eA so fd A rm1 i)) = true := decide_eq_true (show i ∈ i :: aSt A from List.mem_cons_self)
      rw [this, hs]
      simp
    · have e2 : decide (i ∈ aSt (eA so fd A rm1 u)) = decide (i ∈ aSt A) := decide_eq_decide.mpr ⟨fun q => (List.mem_cons.mp q).resolve_left hiu, fun q => List.mem_cons_of_mem _ q⟩
      rw [va_up_ne _ _ hiu, e2]
      rfl
  · show (aOr A).length + (u :: aPa A).length ≤ aC A + 1
    rw [List.length_cons]
    omega
  · by_cases hvu : v = u
    · rw [hvu]; exact Or.inr (show u ∈ u :: aPa A from List.mem_cons_self)
    · rw [se, va_up_ne _ _ hvu] at q1
      exact (x6 v hv q1 q2).imp id (fun q => List.mem_cons_of_mem _ q)
  · show va_up (aSa A) u (aC A) v < aC A + 1
    by_cases hvu : v = u
    · rw [hvu, va_up_self]; omega
    · rw [se, va_up_ne _ _ hvu] at q1
      rw [va_up_ne _ _ hvu]
      have := x7.2 v hv q1
      omega
theorem TIX_follow (h : TIX n so fd A) {p : Nat} {ps : List Nat} {x : Nat × Int32} {rs : List (Nat × Int32)} (hp : aPa A = p :: ps) (hr : aRm A p = x :: rs) (hs : aSe A x.1 = true) : TIX n so fd (fA A p x.1 rs) := by
  obtain ⟨t, x1, x2, x3, x4, x5, x6, x7⟩ := h
  exact ⟨TIA_follow t hp hr hs, x1, x2, x3, x4, x5, x6, x7⟩
theorem gcap_le {c : Nat} (h : c < 600) : gcap c ≤ 900 := by unfold gcap; split <;> omega
theorem TIX_leave (hn : n ≤ 600) (hfd : ∀ v, v < n → ∀ x ∈ fd v, x.1 < n) (h : TIX n so fd A) (hlc : (aOr A).length ≤ aCp A) {p : Nat} {ps : List Nat} (hp : aPa A = p :: ps) (hr : aRm A p = []) : TIX n so fd (lA so A p ps) := by
  have hT := TIA_leave hfd h.1 hp hr
  obtain ⟨t, x1, x2, x3, x4, x5, x6, x7⟩ := id h
  obtain ⟨n1, n2, n3, n4, n5, n6⟩ := TIA_np t hp
  have hcn : aC A ≤ 600 := by rw [x1]; have := cnt_le (aSe A) n; omega
  have hpin : p ∈ aSt A := TIA_sub t p (by rw [hp]; exact List.mem_cons_self)
  have hpn : p < n := (t.1 p hpin).1
  have h4 : (orA so A p).length + ps.length ≤ aC A := by
    rw [hp, List.length_cons] at x4
    unfold orA
    split
    · rw [List.length_append, List.length_singleton]; omega
    · omega
  have h5 : ∀ v ∈ orA so A p, v < n ∧ isLog (so v) = true := fun v hv => by
    unfold orA at hv
    split at hv
    · next q =>
      rcases List.mem_append.mp hv with w | w
      · exact x5 v w
      · rw [List.mem_singleton.mp w]; exact ⟨hpn, q⟩
    · exact x5 v hv
  have h6 : ∀ v, v < n → aSe A v = true → isLog (so v) = true → v ∈ orA so A p ∨ v ∈ ps := fun v hv q1 q2 => by
    unfold orA
    rcases x6 v hv q1 q2 with w | w
    · refine Or.inl ?_
      split
      · exact List.mem_append_left _ w
      · exact w
    · rw [hp] at w
      rcases List.mem_cons.mp w with e | w
      · rw [e] at q2 ⊢
        rw [if_pos q2]
        exact Or.inl (List.mem_append_right _ List.mem_cons_self)
      · exact Or.inr w
  have h7 : cpA so A p ≤ 900 := by
    unfold cpA
    split
    · split
      · exact x7.1
      · next q =>
        have : (aOr A).length + 1 ≤ aC A := by rw [hp, List.length_cons] at x4; omega
        have : aCp A < 600 := by omega
        exact gcap_le this
    · exact x7.1
  by_cases hl : aLo A p = aSa A p
  · have hc := TIA_close hfd t hp hr hl
    obtain ⟨c1, c2, c3, c4⟩ := hc
    rw [lA_t so ps hl] at hT ⊢
    have hms : ∀ v, v ∈ segA A p ++ [p] ↔ v ∈ p :: segA A p := fun v => by
      rw [List.mem_append, List.mem_singleton, List.mem_cons]; exact Or.comm
    have hlm : lstm (segA A p ++ [p]) p ∈ p :: segA A p := by
      rcases lstm_mem (segA A p ++ [p]) p with q | q
      · rw [q]; exact List.mem_cons_self
      · exact (hms _).mp q
    have hP := part_close (least := lstm (segA A p ++ [p]) p) (b := hasA A p) c2 c3 c4 n3 hlm (fun v hv => (lstm_le _ _).2 v ((hms v).mpr hv)) (by
      unfold hasA
      rw [Bool.or_eq_true, Bool.not_eq_true', decide_eq_false_iff_not])
    have hin : ∀ v, v ∈ segA A p ++ [p] → v ∈ aSt A := fun v hv => by
      rw [n2]
      rcases List.mem_append.mp hv with q | q
      · exact List.mem_append_left _ q
      · rw [List.mem_singleton.mp q]; exact List.mem_append_right _ List.mem_cons_self
    have hst : ∀ v, v ∉ segA A p ++ [p] → (v ∈ rstA A p ↔ v ∈ aSt A) := fun v hv => by
      rw [n2]
      refine ⟨fun q => List.mem_append_right _ (List.mem_cons_of_mem _ q), fun q => ?_⟩
      rcases List.mem_append.mp q with q | q
      · exact absurd (List.mem_append_left _ q) hv
      · rcases List.mem_cons.mp q with e | q
        · rw [e] at hv; exact absurd (List.mem_append_right _ List.mem_cons_self) hv
        · exact q
    refine ⟨hT, x1, fun v hv q1 q2 => ?_, ?_, h4, h5, h6, h7, x7.2⟩
    · show isPart (nsc so fd) v (if v ∈ segA A p ++ [p] then parA A p else aPt A v)
      by_cases hv2 : v ∈ segA A p ++ [p]
      · rw [if_pos hv2]
        exact hP.1 v ((hms v).mp hv2)
      · rw [if_neg hv2]
        exact x2 v hv q1 (fun q => q2 ((hst v hv2).mpr q))
    · show aCy A + (if hasA A p then 1 else 0) = cnt (fun v => aSe A v && !decide (v ∈ rstA A p) && decide ((if v ∈ segA A p ++ [p] then parA A p else aPt A v) = nI v)) n
      have old : ∀ i, i < n → i ∉ segA A p ++ [p] → (aSe A i && !decide (i ∈ aSt A) && decide (aPt A i = nI i)) = (aSe A i && !decide (i ∈ rstA A p) && decide ((if i ∈ segA A p ++ [p] then parA A p else aPt A i) = nI i)) := fun i hi hi2 => by
        rw [if_neg hi2, decide_eq_decide.mpr (hst i hi2)]
      have oldf : ∀ i, i ∈ segA A p ++ [p] → (aSe A i && !decide (i ∈ aSt A) && decide (aPt A i = nI i)) = false := fun i hi => by
        rw [decide_eq_true (hin i hi)]; simp
      rw [x3]
      cases hb : hasA A p with
      | true =>
        rw [if_pos rfl]
        have hk : lstm (segA A p ++ [p]) p ∈ segA A p ++ [p] := (hms _).mpr hlm
        have hpar : parA A p = nI (lstm (segA A p ++ [p]) p) := by unfold parA; rw [hb, if_pos rfl]
        have hkn := (t.1 _ (hin _ hk)).1
        refine (cnt_add (k := lstm (segA A p ++ [p]) p) hkn (oldf _ hk) ?_ (fun i hi hik => ?_)).symm
        · rw [if_pos hk, hpar, decide_eq_false (n4 _ hk), (t.1 _ (hin _ hk)).2.1]
          simp
        · by_cases hi2 : i ∈ segA A p ++ [p]
          · rw [oldf i hi2, if_pos hi2, hpar]
            have : ¬ nI (lstm (segA A p ++ [p]) p) = nI i := fun e => hik ((nI_eq (by omega) (by omega)).mp e).symm
            rw [decide_eq_false this]
            simp
          · exact old i hi hi2
      | false =>
        rw [if_neg (by decide), Nat.add_zero]
        refine cnt_congr (fun i hi => ?_)
        by_cases hi2 : i ∈ segA A p ++ [p]
        · have hpar : parA A p = -1 := by unfold parA; rw [hb, if_neg (by decide)]
          rw [oldf i hi2, if_pos hi2, hpar]
          have : ¬ (-1 : Int32) = nI i := fun e => absurd (e ▸ nI_pos (n := i) (by omega) : ¬ (-1 : Int32) < 0) (by decide)
          rw [decide_eq_false this]
          simp
        · exact old i hi hi2
  · rw [lA_f so ps hl] at hT ⊢
    exact ⟨hT, x1, x2, x3, h4, h5, h6, h7, x7.2⟩
end Inv37
