/-! ===== the store follows the walk: follow, leave ===== -/
def setLo (A : AS) (p l : Nat) : AS := (aC A, aSe A, aSa A, va_up (aLo A) p l, aRm A, aFi A, aPa A, aSt A, aPt A, aCy A, aOr A, aCp A)
def setFi (A : AS) (p : Nat) (b : Bool) : AS := (aC A, aSe A, aSa A, aLo A, aRm A, va_up (aFi A) p b, aPa A, aSt A, aPt A, aCy A, aOr A, aCp A)
def setPa (A : AS) (ps : List Nat) : AS := (aC A, aSe A, aSa A, aLo A, aRm A, aFi A, ps, aSt A, aPt A, aCy A, aOr A, aCp A)
def setOr (A : AS) (os : List Nat) (cp : Nat) : AS := (aC A, aSe A, aSa A, aLo A, aRm A, aFi A, aPa A, aSt A, aPt A, aCy A, os, cp)
def clsA (A : AS) (p : Nat) : AS := (aC A, aSe A, aSa A, aLo A, aRm A, aFi A, aPa A, rstA A p, fun v => if v ∈ segA A p ++ [p] then parA A p else aPt A v, aCy A + (if hasA A p then 1 else 0), aOr A, aCp A)
theorem va_up_id {α : Type} (f : Nat → α) (k : Nat) : va_up f k (f k) = f := by
  funext j
  by_cases h : j = k
  · rw [h, va_up_self]
  · rw [va_up_ne _ _ h]
theorem fB_eq (A : AS) (p u : Nat) : fB A p u = setLo (setFi A p (aFi A p || decide (u = p))) p (if u ∈ aSt A then min (aLo A p) (aSa A u) else aLo A p) := rfl
section Rep35
variable {G : Gx} {z : Sto} {pt ol n : Nat} {ga : Nat → Nat} {so : Nat → Int32} {fd : Nat → List (Nat × Int32)} {A : AS}
theorem bch_putI {f b : Nat} {v : Int32} {L : List Nat} {r e : Option Nat} (h : bch z r L e) : bch (putI z f b v) r L e := bch_I h
theorem gts_I {f b : Nat} {v : Int32} (h : gts z n ga so fd) (hf : f ≠ 33 ∧ f ≠ 64 ∧ f ≠ 65) : gts (putI z f b v) n ga so fd :=
  gts_ext (z := z) (z' := putI z f b v) h (fun _ _ q => q) (fun g c hg => rI_If (by rcases hg with rfl | rfl | rfl; exact fun e => hf.1 e.symm; exact fun e => hf.2.1 e.symm; exact fun e => hf.2.2 e.symm) rfl) (fun _ _ _ => rfl)
theorem lst_I {a m cap f b : Nat} {g : Nat → Nat} {v : Int32} (h : lst G z a m g cap) (hf : f ≠ 2) : lst G (putI z f b v) a m g cap :=
  lst_ext (z := z) (z' := putI z f b v) h (fun _ _ q => q) (rI_If (fun e => hf e.symm) rfl) rfl (fun _ _ _ => ⟨rfl, rfl⟩)
theorem wrp_lo (h : wrp G z pt ol n ga so fd A) {p l : Nat} (hp : p ∈ aSt A) : wrp G (putI z 72 (ga p) (nI l)) pt ol n ga so fd (setLo A p l) := by
  obtain ⟨⟨a1, a2, a3⟩, ⟨b1, b2, b3, b4⟩, c1, c2, c3, c4, c5⟩ := id h
  refine ⟨⟨a1, a2, gts_I a3 (by decide)⟩, ⟨rI_If (by decide) b1, rI_If (by decide) b2, bch_putI b3, cmf_ext b4 (fun _ _ => rfl)⟩, fun v hv => rI_If (by decide) (c1 v hv), fun v hv => ?_, fun v hv hs => rI_If (by decide) (c3 v hv hs), fun v hv hs hn => rI_If (by decide) (c4 v hv hs hn), lst_I c5 (by decide)⟩
  obtain ⟨d1, d2, d3, d4⟩ := c2 v hv
  refine ⟨d1, ?_, rI_If (by decide) d3, chn_I (by decide) d4⟩
  by_cases hvp : v = p
  · subst hvp
    have e1 : aLo (setLo A v l) v = l := va_up_self _ _ _
    rw [e1]
    exact rI_Is
  · have e1 : aLo (setLo A p l) v = aLo A v := va_up_ne _ _ hvp
    rw [e1]
    exact rI_Ia (h.ne d1 (c2 p hp).1 hvp) d2
theorem wrp_fi (h : wrp G z pt ol n ga so fd A) {p : Nat} {b : Bool} (hp : p ∈ aSt A) : wrp G (putI z 77 (ga p) (bI b)) pt ol n ga so fd (setFi A p b) := by
  obtain ⟨⟨a1, a2, a3⟩, ⟨b1, b2, b3, b4⟩, c1, c2, c3, c4, c5⟩ := id h
  refine ⟨⟨a1, a2, gts_I a3 (by decide)⟩, ⟨rI_If (by decide) b1, rI_If (by decide) b2, bch_putI b3, cmf_ext b4 (fun _ _ => rfl)⟩, fun v hv => rI_If (by decide) (c1 v hv), fun v hv => ?_, fun v hv hs => rI_If (by decide) (c3 v hv hs), fun v hv hs hn => rI_If (by decide) (c4 v hv hs hn), lst_I c5 (by decide)⟩
  obtain ⟨d1, d2, d3, d4⟩ := c2 v hv
  refine ⟨d1, rI_If (by decide) d2, ?_, chn_I (by decide) d4⟩
  by_cases hvp : v = p
  · subst hvp
    have e1 : aFi (setFi A v b) v = b := va_up_self _ _ _
    rw [e1]
    exact rI_Is
  · have e1 : aFi (setFi A p b) v = aFi A v := va_up_ne _ _ hvp
    rw [e1]
    exact rI_Ia (h.ne d1 (c2 p hp).1 hvp) d3
theorem nI_min {a b : Nat} (ha : a < 2 ^ 31) (hb : b < 2 ^ 31) : (if nI b < nI a then nI b else nI a) = nI (min a b) := by
  by_cases h : b < a
  · rw [if_pos (nI_lt h ha), Nat.min_eq_right (by omega)]
  · rw [if_neg (nI_nlt (by omega) hb), Nat.min_eq_left (by omega)]
theorem wrp_follow (h : wrp G z pt ol n ga so fd A) {p u : Nat} (hp : p ∈ aSt A) (hu : u < n) (hs : aSe A u = true) (hb1 : aLo A p < 2 ^ 31) (hb2 : aSa A u < 2 ^ 31) : wrp G (flS z (ga p) (ga u)) pt ol n ga so fd (fB A p u) := by
  obtain ⟨⟨a1, a2, a3⟩, ⟨b1, b2, b3, b4⟩, c1, c2, c3, c4, c5⟩ := id h
  obtain ⟨d1, d2, d3, d4⟩ := c2 p hp
  have e76 := c3 u hu hs
  have e71 := c1 u hu
  rw [hs, if_pos rfl] at e71
  rw [fB_eq]
  by_cases hin : u ∈ aSt A
  · have hne : ¬ sI z 76 (ga u) = 0 := by rw [e76, decide_eq_true hin]; decide
    unfold flS
    rw [if_neg hne, if_pos hin, e71, d2, nI_min hb1 hb2]
    by_cases hup : u = p
    · subst hup
      have e1 : flS1 z (ga u) (ga u) = putI z 77 (ga u) (bI (aFi A u || decide (u = u))) := by simp [flS1, bI]
      rw [e1]
      exact wrp_lo (wrp_fi h hp) hp
    · have e1 : flS1 z (ga p) (ga u) = z := if_neg (h.ne hu d1 hup)
      have e2 : setFi A p (aFi A p || decide (u = p)) = A := by
        rw [decide_eq_false hup, Bool.or_false]
        unfold setFi
        rw [va_up_id]
        rfl
      rw [e1, e2]
      exact wrp_lo h hp
  · have hz : sI z 76 (ga u) = 0 := by rw [e76, decide_eq_false hin]; rfl
    have hup : u ≠ p := fun e => hin (e ▸ hp)
    unfold flS
    rw [if_pos hz, if_neg hin]
    have e1 : flS1 z (ga p) (ga u) = z := if_neg (h.ne hu d1 hup)
    have e2 : setLo (setFi A p (aFi A p || decide (u = p))) p (aLo A p) = A := by
      rw [decide_eq_false hup, Bool.or_false]
      unfold setFi setLo
      rw [va_up_id]
      show (aC A, aSe A, aSa A, va_up (aLo A) p (aLo A p), aRm A, aFi A, aPa A, aSt A, aPt A, aCy A, aOr A, aCp A) = A
      rw [va_up_id]
      rfl
    rw [e1, e2]
    exact h
theorem lst_f {a m cap : Nat} {f g : Nat → Nat} (h : lst G z a m f cap) (hfg : ∀ i, i < m → g i = f i) : lst G z a m g cap := by
  obtain ⟨a1, a2, a3, a4, a5⟩ := h
  refine ⟨a1, a2, a3, a4, ?_⟩
  rcases a5 with q | ⟨b1, d, b2, b3, b4, b5⟩
  · exact Or.inl q
  · exact Or.inr ⟨b1, d, b2, b3, b4, fun i hi => by rw [hfg i hi]; exact b5 i hi⟩
/-- leave's add -/
theorem wrp_add (h : wrp G z pt ol n ga so fd A) {p : Nat} {z1 : Sto} (hpn : p < n) (hA : lvA G z z1 (ga p) ol (aOr A).length (fun i => ga ((aOr A).getD i 0)) (aCp A)) :
    wrp G z1 pt ol n ga so fd (setOr A (if isLog (so p) then aOr A ++ [p] else aOr A) (if isLog (so p) then (if (aOr A).length < aCp A then aCp A else gcap (aCp A)) else aCp A)) := by
  obtain ⟨⟨a1, a2, a3⟩, ⟨b1, b2, b3, b4⟩, c1, c2, c3, c4, c5⟩ := id h
  obtain ⟨g1, g2, g3, g4, g5⟩ := a3.1 p hpn
  have I := fun k b h0 h2 => hA.I k b h0 h2
  have R := fun k b h1 => hA.R k b h1
  have hch : ∀ {L : List (Nat × Int32)} {r : Option Nat}, chn z r L → chn z1 r L := fun hc => chn_ext (z := z) (z' := z1) (fun b k q => hA.is q) (fun b => R 32 b (by decide)) (fun b => I 33 b (by decide) (by decide)) (fun b => R 34 b (by decide)) hc
  refine ⟨⟨hA.is a1, (R 128 pt (by decide)).trans a2, gts_ext (z := z) (z' := z1) a3 (fun b k q => hA.is q) (fun f b hf => by rcases hf with rfl | rfl | rfl <;> exact I _ b (by decide) (by decide)) (fun f b hf => by rcases hf with rfl | rfl | rfl <;> exact R _ b (by decide))⟩,
    ⟨(I 130 pt (by decide) (by decide)).trans b1, (I 129 pt (by decide) (by decide)).trans b2, ?_, cmf_ext b4 (fun v _ => R 74 _ (by decide))⟩, fun v hv => (I 71 _ (by decide) (by decide)).trans (c1 v hv), fun v hv => ?_, fun v hv hs => (I 76 _ (by decide) (by decide)).trans (c3 v hv hs), fun v hv hs hn => (I 78 _ (by decide) (by decide)).trans (c4 v hv hs hn), ?_⟩
  · rw [R 131 pt (by decide)]
    exact hA.bch b3
  · obtain ⟨d1, d2, d3, d4⟩ := c2 v hv
    refine ⟨d1, (I 72 _ (by decide) (by decide)).trans d2, (I 77 _ (by decide) (by decide)).trans d3, ?_⟩
    rw [R 73 _ (by decide)]
    exact hch d4
  · rcases hA with ⟨e1, e2⟩ | ⟨e1, hF, hl⟩
    · rw [g3] at e1
      subst e2
      show lst G z1 ol (if isLog (so p) then aOr A ++ [p] else aOr A).length (fun i => ga ((if isLog (so p) then aOr A ++ [p] else aOr A).getD i 0)) (if isLog (so p) then (if (aOr A).length < aCp A then aCp A else gcap (aCp A)) else aCp A)
      rw [e1]
      exact c5
    · rw [g3] at e1
      show lst G z1 ol (if isLog (so p) then aOr A ++ [p] else aOr A).length (fun i => ga ((if isLog (so p) then aOr A ++ [p] else aOr A).getD i 0)) (if isLog (so p) then (if (aOr A).length < aCp A then aCp A else gcap (aCp A)) else aCp A)
      rw [e1]
      simp only [if_true, List.length_append, List.length_cons, List.length_nil, Nat.zero_add]
      refine lst_f hl (fun i hi => ?_)
      by_cases hin : i = (aOr A).length
      · subst hin
        rw [va_up_self]
        simp [List.getD_eq_getElem?_getD]
      · rw [va_up_ne _ _ hin]
        have : i < (aOr A).length := by omega
        simp [List.getD_eq_getElem?_getD, List.getElem?_append_left this]
end Rep35
