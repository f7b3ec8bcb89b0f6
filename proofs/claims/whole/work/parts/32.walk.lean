/-! ===== THE WALK ON NUMBERS, AND WHAT THE STORE HOLDS OF IT ===== -/
abbrev AS : Type := Nat × (Nat → Bool) × (Nat → Nat) × (Nat → Nat) × (Nat → List (Nat × Int32)) × (Nat → Bool) × List Nat × List Nat × (Nat → Int32) × Nat × List Nat × Nat
def aC (A : AS) : Nat := A.1
def aSe (A : AS) : Nat → Bool := A.2.1
def aSa (A : AS) : Nat → Nat := A.2.2.1
def aLo (A : AS) : Nat → Nat := A.2.2.2.1
def aRm (A : AS) : Nat → List (Nat × Int32) := A.2.2.2.2.1
def aFi (A : AS) : Nat → Bool := A.2.2.2.2.2.1
def aPa (A : AS) : List Nat := A.2.2.2.2.2.2.1
def aSt (A : AS) : List Nat := A.2.2.2.2.2.2.2.1
def aPt (A : AS) : Nat → Int32 := A.2.2.2.2.2.2.2.2.1
def aCy (A : AS) : Nat := A.2.2.2.2.2.2.2.2.2.1
def aOr (A : AS) : List Nat := A.2.2.2.2.2.2.2.2.2.2.1
def aCp (A : AS) : Nat := A.2.2.2.2.2.2.2.2.2.2.2
/-- the gates that the walk goes to from a gate -/
def nsc (so : Nat → Int32) (fd : Nat → List (Nat × Int32)) (v : Nat) : List Nat := if isLog (so v) then (fd v).map Prod.fst else []
def nrm (so : Nat → Int32) (fd : Nat → List (Nat × Int32)) (v : Nat) : List (Nat × Int32) := if isLog (so v) then fd v else []
/-- enter u -/
def eA (so : Nat → Int32) (fd : Nat → List (Nat × Int32)) (A : AS) (rm1 : Nat → List (Nat × Int32)) (u : Nat) : AS :=
  (aC A + 1, va_up (aSe A) u true, va_up (aSa A) u (aC A), va_up (aLo A) u (aC A), va_up rm1 u (nrm so fd u), va_up (aFi A) u false, u :: aPa A, u :: aSt A, aPt A, aCy A, aOr A, aCp A)
/-- u was seen before -/
def fA (A : AS) (p u : Nat) (rs : List (Nat × Int32)) : AS :=
  (aC A, aSe A, aSa A, va_up (aLo A) p (if u ∈ aSt A then min (aLo A p) (aSa A u) else aLo A p), va_up (aRm A) p rs, va_up (aFi A) p (aFi A p || decide (u = p)), aPa A, aSt A, aPt A, aCy A, aOr A, aCp A)
/-- the least of a list of numbers -/
def lstm : List Nat → Nat → Nat
  | [], m => m
  | x :: tl, m => lstm tl (min x m)
/-- leave p: what is open above p, p with it; what is left -/
def segA (A : AS) (p : Nat) : List Nat := (aSt A).takeWhile (fun v => decide (v ≠ p))
def rstA (A : AS) (p : Nat) : List Nat := ((aSt A).dropWhile (fun v => decide (v ≠ p))).tail
def hasA (A : AS) (p : Nat) : Bool := !decide (segA A p = []) || aFi A p
def parA (A : AS) (p : Nat) : Int32 := if hasA A p then nI (lstm (segA A p ++ [p]) p) else -1
def lA (so : Nat → Int32) (A : AS) (p : Nat) (ps : List Nat) : AS :=
  let or1 := if isLog (so p) then aOr A ++ [p] else aOr A
  let cp1 := if isLog (so p) then (if (aOr A).length < aCp A then aCp A else gcap (aCp A)) else aCp A
  let lo1 := match ps with
    | [] => aLo A
    | q :: _ => va_up (aLo A) q (min (aLo A q) (aLo A p))
  if aLo A p = aSa A p then
    (aC A, aSe A, aSa A, lo1, aRm A, aFi A, ps, rstA A p, fun v => if v ∈ segA A p ++ [p] then parA A p else aPt A v, aCy A + (if hasA A p then 1 else 0), or1, cp1)
  else (aC A, aSe A, aSa A, lo1, aRm A, aFi A, ps, aSt A, aPt A, aCy A, or1, cp1)
def sA (so : Nat → Int32) (fd : Nat → List (Nat × Int32)) (A : AS) : AS := match aPa A with
  | [] => A
  | p :: ps => match aRm A p with
    | [] => lA so A p ps
    | x :: rs => if aSe A x.1 then fA A p x.1 rs else eA so fd A (va_up (aRm A) p rs) x.1
def rA (so : Nat → Int32) (fd : Nat → List (Nat × Int32)) : Nat → AS → AS
  | 0, A => A
  | k + 1, A => match aPa A with
    | [] => A
    | _ :: _ => rA so fd k (sA so fd A)
/-- the gates in the store -/
def gts (z : Sto) (n : Nat) (ga : Nat → Nat) (so : Nat → Int32) (fd : Nat → List (Nat × Int32)) : Prop :=
  (∀ i, i < n → is z (ga i) 2 ∧ sI z 64 (ga i) = nI i ∧ sI z 65 (ga i) = so i ∧ chn z (sR z 66 (ga i)) ((fd i).map (fun x => (ga x.1, x.2))) ∧ ∀ x ∈ fd i, x.1 < n) ∧ (∀ i j, i < n → j < n → ga i = ga j → i = j)
/-- whence the walk came -/
def cmf (z : Sto) (ga : Nat → Nat) : List Nat → Prop
  | [] => True
  | p :: ps => sR z 74 (ga p) = ps.head?.map ga ∧ cmf z ga ps
/-- what the store holds of the walk -/
def wrp (G : Gx) (z : Sto) (pt ol n : Nat) (ga : Nat → Nat) (so : Nat → Int32) (fd : Nat → List (Nat × Int32)) (A : AS) : Prop :=
  (is z pt 4 ∧ sR z 128 pt = some ol ∧ gts z n ga so fd) ∧
  (sI z 130 pt = nI (aC A) ∧ sI z 129 pt = nI (aCy A) ∧ bch z (sR z 131 pt) ((aSt A).map ga) none ∧ cmf z ga (aPa A)) ∧
  (∀ v, v < n → sI z 71 (ga v) = (if aSe A v then nI (aSa A v) else -1)) ∧
  (∀ v ∈ aSt A, v < n ∧ sI z 72 (ga v) = nI (aLo A v) ∧ sI z 77 (ga v) = bI (aFi A v) ∧ chn z (sR z 73 (ga v)) ((aRm A v).map (fun x => (ga x.1, x.2)))) ∧
  (∀ v, v < n → aSe A v = true → sI z 76 (ga v) = bI (decide (v ∈ aSt A))) ∧
  (∀ v, v < n → aSe A v = true → v ∉ aSt A → sI z 78 (ga v) = aPt A v) ∧
  lst G z ol (aOr A).length (fun i => ga ((aOr A).getD i 0)) (aCp A)
/-- chains speak of feeds alone -/
theorem chn_ext {z z' : Sto} (h1 : ∀ b k, is z b k → is z' b k) (h2 : ∀ b, sR z' 32 b = sR z 32 b) (h3 : ∀ b, sI z' 33 b = sI z 33 b) (h4 : ∀ b, sR z' 34 b = sR z 34 b) : ∀ {L : List (Nat × Int32)} {r : Option Nat}, chn z r L → chn z' r L := by
  intro L
  induction L with
  | nil => intro r h; exact h
  | cons x tl ih =>
    intro r h
    obtain ⟨a, e1, e2, e3, e4, e5, e6⟩ := h
    exact ⟨a, e1, h1 _ _ e2, by rw [h2]; exact e3, h1 _ _ e4, by rw [h3]; exact e5, by rw [h4]; exact ih e6⟩
theorem bch_ext {z z' : Sto} (h1 : ∀ b k, is z b k → is z' b k) : ∀ {L : List Nat} {r e : Option Nat}, bch z r L e → (∀ b ∈ L, sR z' 75 b = sR z 75 b) → bch z' r L e := by
  intro L
  induction L with
  | nil => intro r e h _; exact h
  | cons g tl ih => intro r e h hb; exact ⟨h.1, h1 _ _ h.2.1, h.2.2.1, by rw [hb g List.mem_cons_self]; exact ih h.2.2.2 (fun b hm => hb b (List.mem_cons_of_mem _ hm))⟩
theorem cmf_ext {z z' : Sto} {ga : Nat → Nat} : ∀ {L : List Nat}, cmf z ga L → (∀ v ∈ L, sR z' 74 (ga v) = sR z 74 (ga v)) → cmf z' ga L := by
  intro L
  induction L with
  | nil => intro _ _; trivial
  | cons p ps ih => intro h hb; exact ⟨by rw [hb p List.mem_cons_self]; exact h.1, ih h.2 (fun v hv => hb v (List.mem_cons_of_mem _ hv))⟩
theorem gts_ext {z z' : Sto} {n : Nat} {ga : Nat → Nat} {so : Nat → Int32} {fd : Nat → List (Nat × Int32)} (h : gts z n ga so fd) (h1 : ∀ b k, is z b k → is z' b k) (hI : ∀ f b, (f = 33 ∨ f = 64 ∨ f = 65) → sI z' f b = sI z f b) (hR : ∀ f b, (f = 32 ∨ f = 34 ∨ f = 66) → sR z' f b = sR z f b) : gts z' n ga so fd := by
  refine ⟨fun i hi => ?_, h.2⟩
  obtain ⟨a1, a2, a3, a4, a5⟩ := h.1 i hi
  exact ⟨h1 _ _ a1, by rw [hI 64 _ (by simp)]; exact a2, by rw [hI 65 _ (by simp)]; exact a3, by rw [hR 66 _ (by simp)]; exact chn_ext h1 (fun b => hR 32 b (by simp)) (fun b => hI 33 b (by simp)) (fun b => hR 34 b (by simp)) a4, a5⟩
theorem lst_ext {G : Gx} {z z' : Sto} {a n cap : Nat} {f : Nat → Nat} (h : lst G z a n f cap) (h1 : ∀ b k, is z b k → is z' b k) (h2 : sI z' 2 a = sI z 2 a) (h3 : sR z' 1 a = sR z 1 a) (h4 : ∀ d, sR z 1 a = some d → is z d 9 → sN z' d = sN z d ∧ sQ z' d = sQ z d) : lst G z' a n f cap := by
  obtain ⟨a1, a2, a3, a4, a5⟩ := h
  refine ⟨h1 _ _ a1, by rw [h2]; exact a2, a3, a4, ?_⟩
  rcases a5 with ⟨b1, b2⟩ | ⟨b1, d, b2, b3, b4, b5⟩
  · exact Or.inl ⟨b1, by rw [h3]; exact b2⟩
  · obtain ⟨e1, e2⟩ := h4 d b2 b3
    exact Or.inr ⟨b1, d, by rw [h3]; exact b2, h1 _ _ b3, by rw [e1]; exact b4, fun i hi => by rw [e2]; exact ⟨(b5 i hi).1, h1 _ _ (b5 i hi).2⟩⟩
