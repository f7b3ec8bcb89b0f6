/-! ===== REACHABILITY AND THE WALK FOR CYCLE PARTS, on numbers alone ===== -/
def rk (sc : Nat → List Nat) : Nat → Nat → Nat → Prop
  | 0, u, v => u = v
  | k + 1, u, v => ∃ w, w ∈ sc u ∧ rk sc k w v
def rS (sc : Nat → List Nat) (u v : Nat) : Prop := ∃ k, rk sc k u v
def rP (sc : Nat → List Nat) (u v : Nat) : Prop := ∃ k, rk sc (k + 1) u v
theorem rk_trans {sc : Nat → List Nat} : ∀ {j k : Nat} {u v w : Nat}, rk sc j u v → rk sc k v w → rk sc (j + k) u w := by
  intro j
  induction j with
  | zero => intro k u v w h1 h2; cases h1; rw [Nat.zero_add]; exact h2
  | succ j ih =>
    intro k u v w h1 h2
    obtain ⟨x, hx, h1⟩ := h1
    rw [Nat.succ_add]
    exact ⟨x, hx, ih h1 h2⟩
theorem rS.refl (sc : Nat → List Nat) (u : Nat) : rS sc u u := ⟨0, rfl⟩
theorem rS.trans {sc : Nat → List Nat} {u v w : Nat} (h1 : rS sc u v) (h2 : rS sc v w) : rS sc u w := by
  obtain ⟨j, h1⟩ := h1
  obtain ⟨k, h2⟩ := h2
  exact ⟨j + k, rk_trans h1 h2⟩
theorem rP.of {sc : Nat → List Nat} {u v : Nat} (h : v ∈ sc u) : rP sc u v := ⟨0, v, h, rfl⟩
theorem rP.S {sc : Nat → List Nat} {u v : Nat} (h : rP sc u v) : rS sc u v := by
  obtain ⟨k, h⟩ := h
  exact ⟨k + 1, h⟩
theorem rS.P {sc : Nat → List Nat} {u v w : Nat} (h1 : rS sc u v) (h2 : rP sc v w) : rP sc u w := by
  obtain ⟨j, h1⟩ := h1
  obtain ⟨k, h2⟩ := h2
  have h := rk_trans h1 h2
  exact ⟨j + k, h⟩
theorem rP.S' {sc : Nat → List Nat} {u v w : Nat} (h1 : rP sc u v) (h2 : rS sc v w) : rP sc u w := by
  obtain ⟨j, h1⟩ := h1
  obtain ⟨k, h2⟩ := h2
  refine ⟨j + k, ?_⟩
  have h := rk_trans h1 h2
  rw [show j + 1 + k = j + k + 1 by omega] at h
  exact h
theorem rS.of {sc : Nat → List Nat} {u v : Nat} (h : v ∈ sc u) : rS sc u v := (rP.of h).S
theorem rS.cases {sc : Nat → List Nat} {u v : Nat} (h : rS sc u v) : u = v ∨ rP sc u v := by
  obtain ⟨k, h⟩ := h
  cases k with
  | zero => exact Or.inl h
  | succ k => exact Or.inr ⟨k, h⟩
/-- a set that no edge leaves is left by no way -/
theorem rS.stays {sc : Nat → List Nat} {P : Nat → Prop} (hP : ∀ u, P u → ∀ w ∈ sc u, P w) : ∀ {u v : Nat}, rS sc u v → P u → P v := by
  intro u v h
  obtain ⟨k, h⟩ := h
  induction k generalizing u with
  | zero => intro hu; cases h; exact hu
  | succ k ih =>
    intro hu
    obtain ⟨w, hw, h⟩ := h
    exact ih h (hP u hu w hw)
/-- what the walk's stacks are: the way (from here back to its start), and the open ones, from the top down: above each of the way lie finished ones that it reaches, each of which sees deeper than itself, but not deeper than it does -/
def SP (sc : Nat → List Nat) (sa lo : Nat → Nat) (rm : Nat → List Nat) : List Nat → List Nat → Prop
  | [], st => st = []
  | p :: ps, st => ∃ seg rest, st = seg ++ p :: rest ∧ (∀ v ∈ seg, rm v = [] ∧ lo v < sa v ∧ lo p ≤ lo v ∧ rS sc p v) ∧ (∀ q, ps.head? = some q → p ∈ sc q) ∧ SP sc sa lo rm ps rest
/-- the walk's invariant. se: seen; sa: when; lo: how deep it sees; rm: feeds still to follow; fi: feeds itself -/
def TI (n : Nat) (sc : Nat → List Nat) (c : Nat) (se : Nat → Bool) (sa lo : Nat → Nat) (rm : Nat → List Nat) (fi : Nat → Bool) (path st : List Nat) : Prop :=
  (∀ v ∈ st, v < n ∧ se v = true ∧ sa v < c) ∧
  st.Pairwise (fun a b => sa b < sa a) ∧
  (∀ v, v < n → se v = true → v ∉ st → ∀ u ∈ sc v, se u = true ∧ u ∉ st) ∧
  (∀ v ∈ st, ∃ dn, sc v = dn ++ rm v ∧ (∀ u ∈ dn, se u = true ∧ (u ∈ st → lo v ≤ sa u)) ∧ (fi v = true ↔ v ∈ dn)) ∧
  (∀ v ∈ st, lo v ≤ sa v ∧ ∃ y ∈ st, sa y = lo v ∧ rS sc v y) ∧
  SP sc sa lo rm path st
theorem SP.sub {sc : Nat → List Nat} {sa lo : Nat → Nat} {rm : Nat → List Nat} : ∀ {path st : List Nat}, SP sc sa lo rm path st → ∀ v ∈ path, v ∈ st := by
  intro path
  induction path with
  | nil => intro st _ v hv; cases hv
  | cons p ps ih =>
    intro st h v hv
    obtain ⟨seg, rest, rfl, -, -, h⟩ := h
    rcases List.mem_cons.mp hv with rfl | hv
    · exact List.mem_append_right _ List.mem_cons_self
    · exact List.mem_append_right _ (List.mem_cons_of_mem _ (ih h v hv))
/-- the stacks' words speak of the open ones alone -/
theorem SP.congr {sc : Nat → List Nat} {sa lo sa' lo' : Nat → Nat} {rm rm' : Nat → List Nat} : ∀ {path st : List Nat}, SP sc sa lo rm path st → (∀ v ∈ st, sa' v = sa v ∧ lo' v = lo v ∧ (rm v = [] → rm' v = [])) → SP sc sa' lo' rm' path st := by
  intro path
  induction path with
  | nil => intro st h _; exact h
  | cons p ps ih =>
    intro st h he
    obtain ⟨seg, rest, rfl, h1, h2, h3⟩ := h
    refine ⟨seg, rest, rfl, fun v hv => ?_, h2, ih h3 (fun v hv => he v (List.mem_append_right _ (List.mem_cons_of_mem _ hv)))⟩
    obtain ⟨e1, e2, e3⟩ := he v (List.mem_append_left _ hv)
    obtain ⟨-, f2, -⟩ := he p (List.mem_append_right _ List.mem_cons_self)
    obtain ⟨g1, g2, g3, g4⟩ := h1 v hv
    rw [e1, e2, f2]
    exact ⟨e3 g1, g2, g3, g4⟩
theorem up_s {α : Type} (f : Nat → α) (k : Nat) (v : α) : va_up f k v k = v := va_up_self f k v
theorem up_n {α : Type} (f : Nat → α) {k j : Nat} (v : α) (h : j ≠ k) : va_up f k v j = f j := va_up_ne f v h
/-- a gate is entered: from nowhere, or over a feed of the one where the walk stands -/
theorem TI.enter {n : Nat} {sc : Nat → List Nat} {c : Nat} {se : Nat → Bool} {sa lo : Nat → Nat} {rm rm1 : Nat → List Nat} {fi : Nat → Bool} {path st : List Nat} {u : Nat} (h : TI n sc c se sa lo rm fi path st) (hu : u < n) (hs : se u = false)
    (hp : (path = [] ∧ rm1 = rm) ∨ ∃ p ps rs, path = p :: ps ∧ rm p = u :: rs ∧ rm1 = va_up rm p rs) :
    TI n sc (c + 1) (va_up se u true) (va_up sa u c) (va_up lo u c) (va_up rm1 u (sc u)) (va_up fi u false) (u :: path) (u :: st) := by
  obtain ⟨a1, a2, a3, a4, a5, a6⟩ := h
  have hun : u ∉ st := fun q => by have := (a1 u q).2.1; rw [hs] at this; cases this
  have ne : ∀ v ∈ st, v ≠ u := fun v hv e => hun (e ▸ hv)
  have hse : ∀ v, se v = true → v ≠ u := fun v hv e => by rw [e, hs] at hv; cases hv
  refine ⟨fun v hv => ?_, ?_, fun v hv h1 h2 w hw => ?_, fun v hv => ?_, fun v hv => ?_, ?_⟩
  · rcases List.mem_cons.mp hv with rfl | hv
    · exact ⟨hu, up_s _ _ _, by rw [up_s]; omega⟩
    · obtain ⟨b1, b2, b3⟩ := a1 v hv
      rw [up_n _ _ (ne v hv), up_n _ _ (ne v hv)]
      exact ⟨b1, b2, by omega⟩
  · refine List.Pairwise.cons (fun v hv => ?_) (List.Pairwise.imp_of_mem (fun {x y} hx hy hxy => ?_) a2)
    · rw [up_s, up_n _ _ (ne v hv)]
      exact (a1 v hv).2.2
    · rw [up_n _ _ (ne x hx), up_n _ _ (ne y hy)]
      exact hxy
  · have hvu : v ≠ u := fun e => h2 (by rw [e]; exact List.mem_cons_self)
    rw [up_n _ _ hvu] at h1
    obtain ⟨b1, b2⟩ := a3 v hv h1 (fun q => h2 (List.mem_cons_of_mem _ q)) w hw
    have hwu := hse w b1
    rw [up_n _ _ hwu]
    exact ⟨b1, fun q => (List.mem_cons.mp q).elim hwu b2⟩
  · rcases List.mem_cons.mp hv with rfl | hv
    · exact ⟨[], by rw [up_s]; rfl, fun w hw => (by cases hw), by rw [up_s]; simp⟩
    · have hvu := ne v hv
      obtain ⟨dn, b1, b2, b3⟩ := a4 v hv
      rw [up_n _ _ hvu, up_n _ _ hvu, up_n _ _ hvu]
      have old : ∀ w ∈ dn, va_up se u true w = true ∧ (w ∈ u :: st → lo v ≤ va_up sa u c w) := fun w hw => by
        obtain ⟨d1, d2⟩ := b2 w hw
        have hwu := hse w d1
        rw [up_n _ _ hwu, up_n _ _ hwu]
        exact ⟨d1, fun q => d2 ((List.mem_cons.mp q).resolve_left hwu)⟩
      rcases hp with ⟨-, rfl⟩ | ⟨p, ps, rs, -, hrm, rfl⟩
      · exact ⟨dn, b1, old, b3⟩
      · by_cases hvp : v = p
        · subst hvp
          rw [hrm] at b1
          rw [up_s]
          refine ⟨dn ++ [u], by rw [b1, List.append_assoc]; rfl, fun w hw => ?_, ?_⟩
          · rcases List.mem_append.mp hw with hw | hw
            · exact old w hw
            · rw [List.mem_singleton.mp hw, up_s, up_s]
              exact ⟨rfl, fun _ => by have := (a5 v hv).1; have := (a1 v hv).2.2; omega⟩
          · rw [b3]
            exact ⟨fun q => List.mem_append_left _ q, fun q => (List.mem_append.mp q).elim id (fun q => absurd (List.mem_singleton.mp q) hvu)⟩
        · rw [up_n _ _ hvp]
          exact ⟨dn, b1, old, b3⟩
  · rcases List.mem_cons.mp hv with rfl | hv
    · rw [up_s, up_s]
      exact ⟨Nat.le_refl _, v, List.mem_cons_self, up_s _ _ _, rS.refl _ _⟩
    · rw [up_n _ _ (ne v hv), up_n _ _ (ne v hv)]
      obtain ⟨b1, y, b2, b3, b4⟩ := a5 v hv
      exact ⟨b1, y, List.mem_cons_of_mem _ b2, by rw [up_n _ _ (ne y b2)]; exact b3, b4⟩
  · refine ⟨[], st, rfl, fun v hv => (by cases hv), fun q hq => ?_, ?_⟩
    · rcases hp with ⟨rfl, -⟩ | ⟨p, ps, rs, rfl, hrm, rfl⟩
      · cases hq
      · obtain rfl : p = q := by simpa using hq
        obtain ⟨dn, b1, -, -⟩ := a4 p (a6.sub p List.mem_cons_self)
        rw [b1, hrm]
        exact List.mem_append_right _ List.mem_cons_self
    · refine a6.congr (fun v hv => ⟨up_n _ _ (ne v hv), up_n _ _ (ne v hv), fun q => ?_⟩)
      rw [up_n _ _ (ne v hv)]
      rcases hp with ⟨-, rfl⟩ | ⟨p, ps, rs, -, hrm, rfl⟩
      · exact q
      · by_cases hvp : v = p
        · subst hvp; rw [hrm] at q; cases q
        · rw [up_n _ _ hvp]; exact q
/-- a feed leads to a gate that was seen before -/
theorem TI.follow {n : Nat} {sc : Nat → List Nat} {c : Nat} {se : Nat → Bool} {sa lo : Nat → Nat} {rm : Nat → List Nat} {fi fi' : Nat → Bool} {ps st rs : List Nat} {p u m : Nat} (h : TI n sc c se sa lo rm fi (p :: ps) st) (hr : rm p = u :: rs) (hs : se u = true)
    (hf : fi' = va_up fi p (fi p || decide (u = p))) (hm : (u ∈ st ∧ m = min (lo p) (sa u)) ∨ (u ∉ st ∧ m = lo p)) :
    TI n sc c se sa (va_up lo p m) (va_up rm p rs) fi' (p :: ps) st := by
  obtain ⟨a1, a2, a3, a4, a5, a6⟩ := h
  subst hf
  have hml : m ≤ lo p := by rcases hm with ⟨-, rfl⟩ | ⟨-, rfl⟩; exact Nat.min_le_left _ _; exact Nat.le_refl _
  have hps := a6.sub p List.mem_cons_self
  refine ⟨a1, a2, a3, fun v hv => ?_, fun v hv => ?_, ?_⟩
  · obtain ⟨dn, b1, b2, b3⟩ := a4 v hv
    by_cases hvp : v = p
    · subst hvp
      rw [up_s, up_s, up_s]
      rw [hr] at b1
      refine ⟨dn ++ [u], by rw [b1, List.append_assoc]; rfl, fun w hw => ?_, ?_⟩
      · rcases List.mem_append.mp hw with hw | hw
        · exact ⟨(b2 w hw).1, fun q => Nat.le_trans hml ((b2 w hw).2 q)⟩
        · rw [List.mem_singleton.mp hw]
          refine ⟨hs, fun q => ?_⟩
          rcases hm with ⟨-, rfl⟩ | ⟨q2, -⟩
          · exact Nat.min_le_right _ _
          · exact absurd q q2
      · rw [Bool.or_eq_true, b3, decide_eq_true_iff, List.mem_append, List.mem_singleton]
        exact ⟨fun q => q.imp id (fun e => e.symm), fun q => q.imp id (fun e => e.symm)⟩
    · rw [up_n _ _ hvp, up_n _ _ hvp, up_n _ _ hvp]
      exact ⟨dn, b1, b2, b3⟩
  · obtain ⟨b1, y, b2, b3, b4⟩ := a5 v hv
    by_cases hvp : v = p
    · subst hvp
      rw [up_s]
      refine ⟨Nat.le_trans hml b1, ?_⟩
      rcases hm with ⟨q, rfl⟩ | ⟨-, rfl⟩
      · by_cases hle : lo v ≤ sa u
        · exact ⟨y, b2, by rw [Nat.min_eq_left hle]; exact b3, b4⟩
        · refine ⟨u, q, by rw [Nat.min_eq_right (by omega)], ?_⟩
          obtain ⟨dn, d1, -, -⟩ := a4 v hv
          exact rS.of (by rw [d1, hr]; exact List.mem_append_right _ List.mem_cons_self)
      · exact ⟨y, b2, b3, b4⟩
    · rw [up_n _ _ hvp]
      exact ⟨b1, y, b2, b3, b4⟩
  · obtain ⟨seg, rest, e, h1, h2, h3⟩ := a6
    subst e
    have hnd : ∀ v ∈ seg ++ rest, v ≠ p := fun v hv e => by
      subst e
      have hp2 := List.pairwise_append.mp a2
      rcases List.mem_append.mp hv with hv | hv
      · exact Nat.lt_irrefl _ (hp2.2.2 v hv v List.mem_cons_self)
      · exact Nat.lt_irrefl _ (List.rel_of_pairwise_cons hp2.2.1 hv)
    refine ⟨seg, rest, rfl, fun v hv => ?_, h2, h3.congr (fun v hv => ?_)⟩
    · have hvp := hnd v (List.mem_append_left _ hv)
      obtain ⟨g1, g2, g3, g4⟩ := h1 v hv
      rw [up_n _ _ hvp, up_n _ _ hvp, up_s]
      exact ⟨g1, g2, Nat.le_trans hml g3, g4⟩
    · have hvp := hnd v (List.mem_append_right _ hv)
      rw [up_n _ _ hvp, up_n _ _ hvp]
      exact ⟨rfl, rfl, id⟩
/-- the walk goes back from a gate that sees deeper than itself -/
theorem TI.back {n : Nat} {sc : Nat → List Nat} {c : Nat} {se : Nat → Bool} {sa lo : Nat → Nat} {rm : Nat → List Nat} {fi : Nat → Bool} {ps st : List Nat} {p q : Nat} (h : TI n sc c se sa lo rm fi (p :: q :: ps) st) (hr : rm p = []) (hlo : lo p ≠ sa p) :
    TI n sc c se sa (va_up lo q (min (lo q) (lo p))) rm fi (q :: ps) st := by
  obtain ⟨a1, a2, a3, a4, a5, a6⟩ := h
  obtain ⟨seg, rest, e, h1, h2, seg2, rest2, e2, h4, h5, h6⟩ := a6
  subst e2
  subst e
  have hpq : p ∈ sc q := h2 q rfl
  have pw := List.pairwise_append.mp a2
  have pw2 := List.pairwise_cons.mp pw.2.1
  have pw3 := List.pairwise_append.mp pw2.2
  have hqm : q ∈ seg2 ++ q :: rest2 := List.mem_append_right _ List.mem_cons_self
  have nq : ∀ v, (v ∈ seg ∨ v = p ∨ v ∈ seg2 ∨ v ∈ rest2) → v ≠ q := fun v hv e => by
    subst e
    rcases hv with hv | rfl | hv | hv
    · exact Nat.lt_irrefl _ (pw.2.2 v hv v (List.mem_cons_of_mem _ hqm))
    · exact Nat.lt_irrefl _ (pw2.1 v hqm)
    · exact Nat.lt_irrefl _ (pw3.2.2 v hv v List.mem_cons_self)
    · exact Nat.lt_irrefl _ (List.rel_of_pairwise_cons pw3.2.1 hv)
  have hml : min (lo q) (lo p) ≤ lo q := Nat.min_le_left _ _
  have hst : ∀ v, v ∈ seg ++ p :: (seg2 ++ q :: rest2) → v = q ∨ v ≠ q := fun v _ => Decidable.em _
  refine ⟨a1, a2, a3, fun v hv => ?_, fun v hv => ?_, ?_⟩
  · obtain ⟨dn, b1, b2, b3⟩ := a4 v hv
    by_cases hvq : v = q
    · subst hvq
      rw [up_s]
      exact ⟨dn, b1, fun w hw => ⟨(b2 w hw).1, fun z => Nat.le_trans hml ((b2 w hw).2 z)⟩, b3⟩
    · rw [up_n _ _ hvq]
      exact ⟨dn, b1, b2, b3⟩
  · obtain ⟨b1, y, b2, b3, b4⟩ := a5 v hv
    by_cases hvq : v = q
    · subst hvq
      rw [up_s]
      refine ⟨Nat.le_trans hml b1, ?_⟩
      by_cases hle : lo v ≤ lo p
      · exact ⟨y, b2, by rw [Nat.min_eq_left hle]; exact b3, b4⟩
      · obtain ⟨-, y2, c2, c3, c4⟩ := a5 p (List.mem_append_right _ List.mem_cons_self)
        exact ⟨y2, c2, by rw [Nat.min_eq_right (by omega)]; exact c3, (rS.of hpq).trans c4⟩
    · rw [up_n _ _ hvq]
      exact ⟨b1, y, b2, b3, b4⟩
  · refine ⟨seg ++ p :: seg2, rest2, by simp, fun v hv => ?_, h5, h6.congr (fun v hv => ?_)⟩
    · rcases List.mem_append.mp hv with hv | hv
      · obtain ⟨g1, g2, g3, g4⟩ := h1 v hv
        rw [up_n _ _ (nq v (Or.inl hv)), up_s]
        exact ⟨g1, g2, Nat.le_trans (Nat.min_le_right _ _) g3, (rS.of hpq).trans g4⟩
      · rcases List.mem_cons.mp hv with rfl | hv
        · rw [up_n _ _ (nq v (Or.inr (Or.inl rfl))), up_s]
          have := (a5 v (List.mem_append_right _ List.mem_cons_self)).1
          exact ⟨hr, by omega, Nat.min_le_right _ _, rS.of hpq⟩
        · obtain ⟨g1, g2, g3, g4⟩ := h4 v hv
          rw [up_n _ _ (nq v (Or.inr (Or.inr (Or.inl hv)))), up_s]
          exact ⟨g1, g2, Nat.le_trans hml g3, g4⟩
    · rw [up_n _ _ (nq v (Or.inr (Or.inr (Or.inr hv))))]
      exact ⟨rfl, rfl, id⟩
/-- a part is closed: what is left open, and what the closed ones are -/
theorem TI.close {n : Nat} {sc : Nat → List Nat} {c : Nat} {se : Nat → Bool} {sa lo : Nat → Nat} {rm : Nat → List Nat} {fi : Nat → Bool} {ps st : List Nat} {p : Nat} (hsc : ∀ v, v < n → ∀ u ∈ sc v, u < n) (h : TI n sc c se sa lo rm fi (p :: ps) st) (hr : rm p = []) (hlo : lo p = sa p) :
    ∃ seg rest, st = seg ++ p :: rest ∧ TI n sc c se sa lo rm fi ps rest ∧ (∀ v ∈ p :: seg, rS sc p v ∧ rS sc v p) ∧ (∀ v, rS sc p v → rS sc v p → v ∈ p :: seg) ∧ (fi p = true ↔ p ∈ sc p) ∧ (∀ v ∈ seg, v ≠ p) ∧ (∀ v ∈ seg ++ [p], v ∉ rest) := by
  obtain ⟨a1, a2, a3, a4, a5, a6⟩ := h
  obtain ⟨seg, rest, e, h1, h2, h3⟩ := a6
  subst e
  have pw := List.pairwise_append.mp a2
  have pw2 := List.pairwise_cons.mp pw.2.1
  have hrest : ∀ v ∈ rest, sa v < sa p := pw2.1
  have hseg : ∀ v ∈ seg, sa p < sa v := fun v hv => pw.2.2 v hv p List.mem_cons_self
  have hpin : p ∈ seg ++ p :: rest := List.mem_append_right _ List.mem_cons_self
  have low : ∀ v ∈ p :: seg, sa p ≤ lo v := fun v hv => by
    rcases List.mem_cons.mp hv with rfl | hv
    · omega
    · have := (h1 v hv).2.2.1; omega
  have rmn : ∀ v ∈ p :: seg, rm v = [] := fun v hv => by
    rcases List.mem_cons.mp hv with rfl | hv
    · exact hr
    · exact (h1 v hv).1
  have inst : ∀ v ∈ p :: seg, v ∈ seg ++ p :: rest := fun v hv => by
    rcases List.mem_cons.mp hv with rfl | hv
    · exact hpin
    · exact List.mem_append_left _ hv
  have split : ∀ v ∈ seg ++ p :: rest, v ∈ p :: seg ∨ v ∈ rest := fun v hv => by
    rcases List.mem_append.mp hv with hv | hv
    · exact Or.inl (List.mem_cons_of_mem _ hv)
    · rcases List.mem_cons.mp hv with rfl | hv
      · exact Or.inl List.mem_cons_self
      · exact Or.inr hv
  have apart : ∀ v ∈ p :: seg, v ∉ rest := fun v hv q => by
    have h9 := hrest v q
    rcases List.mem_cons.mp hv with rfl | hv
    · omega
    · have := hseg v hv; omega
  have edges : ∀ v ∈ p :: seg, ∀ u ∈ sc v, se u = true ∧ u ∉ rest := fun v hv u hu => by
    obtain ⟨dn, b1, b2, -⟩ := a4 v (inst v hv)
    rw [rmn v hv, List.append_nil] at b1
    rw [b1] at hu
    obtain ⟨d1, d2⟩ := b2 u hu
    refine ⟨d1, fun q => ?_⟩
    have := d2 (List.mem_append_right _ (List.mem_cons_of_mem _ q))
    have := low v hv
    have := hrest u q
    omega
  have toP : ∀ k, ∀ v ∈ p :: seg, sa v ≤ k → rS sc v p := by
    intro k
    induction k with
    | zero =>
      intro v hv hk
      rcases List.mem_cons.mp hv with rfl | hv
      · exact rS.refl _ _
      · have := hseg v hv; omega
    | succ k ih =>
      intro v hv hk
      rcases List.mem_cons.mp hv with rfl | hv2
      · exact rS.refl _ _
      · obtain ⟨-, g2, -, -⟩ := h1 v hv2
        obtain ⟨-, y, b2, b3, b4⟩ := a5 v (inst v hv)
        have hl := low v hv
        rcases split y b2 with hy | hy
        · exact b4.trans (ih y hy (by omega))
        · have := hrest y hy; omega
  have fromP : ∀ v ∈ p :: seg, rS sc p v := fun v hv => by
    rcases List.mem_cons.mp hv with rfl | hv
    · exact rS.refl _ _
    · exact (h1 v hv).2.2.2
  refine ⟨seg, rest, rfl, ⟨fun v hv => a1 v (List.mem_append_right _ (List.mem_cons_of_mem _ hv)), pw2.2, fun v hv q1 q2 u hu => ?_, fun v hv => ?_, fun v hv => ?_, h3⟩, fun v hv => ⟨fromP v hv, toP _ v hv (Nat.le_refl _)⟩, fun v hv hv2 => ?_, ?_, fun v hv e => ?_, fun v hv => ?_⟩
  · by_cases hin : v ∈ p :: seg
    · exact edges v hin u hu
    · have hn : v ∉ seg ++ p :: rest := fun q => (split v q).elim hin q2
      obtain ⟨d1, d2⟩ := a3 v hv q1 hn u hu
      exact ⟨d1, fun q => d2 (List.mem_append_right _ (List.mem_cons_of_mem _ q))⟩
  · obtain ⟨dn, b1, b2, b3⟩ := a4 v (List.mem_append_right _ (List.mem_cons_of_mem _ hv))
    exact ⟨dn, b1, fun w hw => ⟨(b2 w hw).1, fun q => (b2 w hw).2 (List.mem_append_right _ (List.mem_cons_of_mem _ q))⟩, b3⟩
  · obtain ⟨b1, y, b2, b3, b4⟩ := a5 v (List.mem_append_right _ (List.mem_cons_of_mem _ hv))
    refine ⟨b1, y, ?_, b3, b4⟩
    rcases split y b2 with hy | hy
    · have h9 := hrest v hv
      rcases List.mem_cons.mp hy with rfl | hy
      · omega
      · have := hseg y hy; omega
    · exact hy
  · have hpn : p < n := (a1 p hpin).1
    have hP : v ∈ p :: seg ∨ (v < n ∧ se v = true ∧ v ∉ seg ++ p :: rest) := by
      refine rS.stays (P := fun u => u ∈ p :: seg ∨ (u < n ∧ se u = true ∧ u ∉ seg ++ p :: rest)) (fun u hu w hw => ?_) hv (Or.inl List.mem_cons_self)
      rcases hu with hu | ⟨u1, u2, u3⟩
      · obtain ⟨e1, e2⟩ := edges u hu w hw
        by_cases hin : w ∈ p :: seg
        · exact Or.inl hin
        · exact Or.inr ⟨hsc u (a1 u (inst u hu)).1 w hw, e1, fun q => (split w q).elim hin e2⟩
      · obtain ⟨e1, e2⟩ := a3 u u1 u2 u3 w hw
        exact Or.inr ⟨hsc u u1 w hw, e1, e2⟩
    rcases hP with hP | hP
    · exact hP
    · have hQ := rS.stays (P := fun u => u < n ∧ se u = true ∧ u ∉ seg ++ p :: rest) (fun u hu w hw => by
        obtain ⟨e1, e2⟩ := a3 u hu.1 hu.2.1 hu.2.2 w hw
        exact ⟨hsc u hu.1 w hw, e1, e2⟩) hv2 hP
      exact absurd hpin hQ.2.2
  · obtain ⟨dn, b1, -, b3⟩ := a4 p hpin
    rw [hr, List.append_nil] at b1
    rw [b1]
    exact b3
  · have := hseg v hv
    subst e
    omega
  · rcases List.mem_append.mp hv with hv | hv
    · exact apart v (List.mem_cons_of_mem _ hv)
    · rw [List.mem_singleton.mp hv]
      exact apart p List.mem_cons_self
