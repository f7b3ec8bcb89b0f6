/-! ===== CYCLE PARTS ===== -/
/-- x is the answer of cycle(v) -/
def isPart (sc : Nat → List Nat) (v : Nat) (x : Int32) : Prop :=
  (rP sc v v ∧ ∃ u, x = nI u ∧ rP sc v u ∧ rP sc u v ∧ ∀ w, rP sc v w → rP sc w v → u ≤ w) ∨ (¬ rP sc v v ∧ x = -1)
theorem isPart.uniq {sc : Nat → List Nat} {v : Nat} {x y : Int32} (h1 : isPart sc v x) (h2 : isPart sc v y) : x = y := by
  rcases h1 with ⟨a, u, rfl, b1, b2, b3⟩ | ⟨a, rfl⟩ <;> rcases h2 with ⟨c, w, rfl, d1, d2, d3⟩ | ⟨c, rfl⟩
  · rw [show u = w from Nat.le_antisymm (b3 w d1 d2) (d3 u b1 b2)]
  · exact absurd a c
  · exact absurd c a
  · rfl
theorem rP_of_ne {sc : Nat → List Nat} {u v : Nat} (h : rS sc u v) (hn : u ≠ v) : rP sc u v := h.cases.resolve_left hn
/-- a closed part's answers -/
theorem part_close {sc : Nat → List Nat} {p : Nat} {seg : List Nat} {fi : Bool} {least : Nat} {b : Bool} (hA : ∀ v ∈ p :: seg, rS sc p v ∧ rS sc v p) (hB : ∀ v, rS sc p v → rS sc v p → v ∈ p :: seg) (hC : fi = true ↔ p ∈ sc p) (hD : ∀ v ∈ seg, v ≠ p)
    (hl : least ∈ p :: seg) (hm : ∀ v ∈ p :: seg, least ≤ v) (hb : b = true ↔ (seg ≠ [] ∨ fi = true)) :
    (∀ v ∈ p :: seg, isPart sc v (if b then nI least else -1)) ∧ (b = true → ∀ v ∈ p :: seg, rP sc v v) := by
  have cyc : b = true → ∀ v ∈ p :: seg, rP sc v v := by
    intro h v hv
    obtain ⟨a1, a2⟩ := hA v hv
    rcases hb.mp h with hs | hf
    · obtain ⟨u, hu⟩ := List.exists_mem_of_ne_nil _ hs
      have hup := hD u hu
      obtain ⟨c1, c2⟩ := hA u (List.mem_cons_of_mem _ hu)
      exact a2.P ((rP_of_ne c1 (fun e => hup e.symm)).S' (c2.trans a1))
    · exact a2.P ((rP.of (hC.mp hf)).S' a1)
  refine ⟨fun v hv => ?_, cyc⟩
  cases hbb : b with
  | true =>
    rw [if_pos rfl]
    obtain ⟨a1, a2⟩ := hA v hv
    obtain ⟨l1, l2⟩ := hA least hl
    have hvv := cyc hbb v hv
    refine Or.inl ⟨hvv, least, rfl, hvv.S' (a2.trans l1), (cyc hbb least hl).S' (l2.trans a1), fun w h1 h2 => hm w (hB w (a1.trans h1.S) (h2.S.trans a2))⟩
  | false =>
    rw [if_neg (by decide)]
    have hno : ¬ (seg ≠ [] ∨ fi = true) := fun h => by rw [hb.mpr h] at hbb; cases hbb
    have hs : seg = [] := Decidable.byContradiction (fun h => hno (Or.inl h))
    subst hs
    have hvp : v = p := by simpa using hv
    subst hvp
    refine Or.inr ⟨fun h => hno (Or.inr (hC.mpr ?_)), rfl⟩
    obtain ⟨k, w, hw, hk⟩ := h
    have : w ∈ v :: [] := hB w (rS.of hw) ⟨k, hk⟩
    have hwv : w = v := by simpa using this
    rw [hwv] at hw
    exact hw
/-- how many below n -/
def cnt (P : Nat → Bool) : Nat → Nat
  | 0 => 0
  | n + 1 => cnt P n + (if P n then 1 else 0)
theorem cnt_le (P : Nat → Bool) (n : Nat) : cnt P n ≤ n := by
  induction n with
  | zero => exact Nat.le_refl _
  | succ n ih => unfold cnt; split <;> omega
theorem cnt_congr {P Q : Nat → Bool} {n : Nat} (h : ∀ i, i < n → P i = Q i) : cnt P n = cnt Q n := by
  induction n with
  | zero => rfl
  | succ n ih => unfold cnt; rw [ih (fun i hi => h i (by omega)), h n (by omega)]
theorem cnt_add {P Q : Nat → Bool} {n k : Nat} (hk : k < n) (hP : P k = false) (hQ : Q k = true) (h : ∀ i, i < n → i ≠ k → P i = Q i) : cnt Q n = cnt P n + 1 := by
  induction n with
  | zero => omega
  | succ n ih =>
    unfold cnt
    by_cases hkn : k = n
    · subst hkn
      rw [cnt_congr (P := Q) (Q := P) (fun i hi => (h i (by omega) (by omega)).symm), hP, hQ]
      simp
    · rw [ih (by omega) (fun i hi hik => h i (by omega) hik), h n (by omega) (fun e => hkn e.symm)]
      omega
theorem cnt_zero {P : Nat → Bool} {n : Nat} (h : ∀ i, i < n → P i = false) : cnt P n = 0 := by
  induction n with
  | zero => rfl
  | succ n ih => unfold cnt; rw [ih (fun i hi => h i (by omega)), h n (by omega)]; rfl
theorem cnt_pos {P : Nat → Bool} {n : Nat} (h : cnt P n = 0) : ∀ i, i < n → P i = false := by
  induction n with
  | zero => intro i hi; omega
  | succ n ih =>
    intro i hi
    unfold cnt at h
    cases hPn : P n with
    | true => rw [hPn] at h; simp at h
    | false =>
      rw [hPn] at h
      by_cases hin : i = n
      · rw [hin]; exact hPn
      · exact ih (by simpa using h) i (by omega)
