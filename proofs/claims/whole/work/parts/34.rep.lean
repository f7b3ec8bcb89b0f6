/-! ===== the store follows the walk: advance, enter, follow ===== -/
def TIA (n : Nat) (so : Nat → Int32) (fd : Nat → List (Nat × Int32)) (A : AS) : Prop := TI n (nsc so fd) (aC A) (aSe A) (aSa A) (aLo A) (fun v => (aRm A v).map Prod.fst) (aFi A) (aPa A) (aSt A)
def advA (A : AS) (p : Nat) (rs : List (Nat × Int32)) : AS := (aC A, aSe A, aSa A, aLo A, va_up (aRm A) p rs, aFi A, aPa A, aSt A, aPt A, aCy A, aOr A, aCp A)
def fB (A : AS) (p u : Nat) : AS := (aC A, aSe A, aSa A, va_up (aLo A) p (if u ∈ aSt A then min (aLo A p) (aSa A u) else aLo A p), aRm A, va_up (aFi A) p (aFi A p || decide (u = p)), aPa A, aSt A, aPt A, aCy A, aOr A, aCp A)
theorem fA_eq (A : AS) (p u : Nat) (rs : List (Nat × Int32)) : fA A p u rs = fB (advA A p rs) p u := rfl
theorem eA_eq (so : Nat → Int32) (fd : Nat → List (Nat × Int32)) (A : AS) (p u : Nat) (rs : List (Nat × Int32)) : eA so fd A (va_up (aRm A) p rs) u = eA so fd (advA A p rs) (aRm (advA A p rs)) u := rfl
theorem chn_R {z : Sto} {f b : Nat} {r : Option Nat} (h : f ≠ 32) (h2 : f ≠ 34) {L : List (Nat × Int32)} {q : Option Nat} (hc : chn z q L) : chn (putR z f b r) q L :=
  chn_ext (z := z) (z' := putR z f b r) (fun _ _ h => h) (fun b => rR_Rf (fun e => h e.symm) rfl) (fun _ => rfl) (fun b => rR_Rf (fun e => h2 e.symm) rfl) hc
theorem chn_I {z : Sto} {f b : Nat} {v : Int32} (h : f ≠ 33) {L : List (Nat × Int32)} {q : Option Nat} (hc : chn z q L) : chn (putI z f b v) q L :=
  chn_ext (z := z) (z' := putI z f b v) (fun _ _ h => h) (fun _ => rfl) (fun b => rI_If (fun e => h e.symm) rfl) (fun _ => rfl) hc
section Rep34
variable {G : Gx} {z : Sto} {pt ol n : Nat} {ga : Nat → Nat} {so : Nat → Int32} {fd : Nat → List (Nat × Int32)} {A : AS}
theorem wrp.ne (h : wrp G z pt ol n ga so fd A) {u v : Nat} (hu : u < n) (hv : v < n) (hn : u ≠ v) : ga u ≠ ga v := fun e => hn (h.1.2.2.2 u v hu hv e)
theorem wrp_adv (h : wrp G z pt ol n ga so fd A) {p : Nat} {x : Nat × Int32} {rs : List (Nat × Int32)} (hp : p ∈ aSt A) {fa : Nat} (hfa : sR z 73 (ga p) = some fa) (hr : aRm A p = x :: rs) : wrp G (putR z 73 (ga p) (sR z 34 fa)) pt ol n ga so fd (advA A p rs) := by
  obtain ⟨⟨a1, a2, a3⟩, ⟨b1, b2, b3, b4⟩, c1, c2, c3, c4, c5⟩ := id h
  have hpn := (c2 p hp).1
  refine ⟨⟨a1, rR_Rf (by decide) a2, gts_ext a3 (fun _ _ q => q) (fun _ _ _ => rfl) (fun f b hf => rR_Rf (by rcases hf with rfl | rfl | rfl <;> decide) rfl)⟩, ⟨b1, b2, ?_, cmf_ext b4 (fun v _ => rR_Rf (by decide) rfl)⟩, c1, fun v hv => ?_, c3, c4, lst_ext c5 (fun _ _ q => q) rfl (rR_Rf (by decide) rfl) (fun _ _ _ => ⟨rfl, rfl⟩)⟩
  · have e : sR (putR z 73 (ga p) (sR z 34 fa)) 131 pt = sR z 131 pt := rR_Rf (by decide) rfl
    rw [e]
    exact bch_ext (z := z) (z' := putR z 73 (ga p) (sR z 34 fa)) (fun _ _ q => q) b3 (fun b _ => rR_Rf (by decide) rfl)
  · obtain ⟨d1, d2, d3, d4⟩ := c2 v hv
    refine ⟨d1, d2, d3, ?_⟩
    by_cases hvp : v = p
    · subst hvp
      have e1 : aRm (advA A v rs) v = rs := va_up_self _ _ _
      have e2 : sR (putR z 73 (ga v) (sR z 34 fa)) 73 (ga v) = sR z 34 fa := rR_Rs
      rw [e1, e2]
      refine chn_R (by decide) (by decide) ?_
      rw [hr] at d4
      obtain ⟨fa', g1, g2, g3, g4, g5, g6⟩ := d4
      cases hfa.symm.trans g1
      exact g6
    · have e1 : aRm (advA A p rs) v = aRm A v := va_up_ne _ _ hvp
      have e2 : sR (putR z 73 (ga p) (sR z 34 fa)) 73 (ga v) = sR z 73 (ga v) := rR_Ra (h.ne d1 hpn hvp) rfl
      rw [e1, e2]
      exact chn_R (by decide) (by decide) d4
theorem wrp_enter (h : wrp G z pt ol n ga so fd A) (hps : ∀ v ∈ aPa A, v ∈ aSt A) (hst : ∀ v ∈ aSt A, aSe A v = true) {u : Nat} (hu : u < n) (hs : aSe A u = false) : wrp G (enS z pt (ga u) ((aPa A).head?.map ga)) pt ol n ga so fd (eA so fd A (aRm A) u) := by
  obtain ⟨⟨a1, a2, a3⟩, ⟨b1, b2, b3, b4⟩, c1, c2, c3, c4, c5⟩ := id h
  have hun : u ∉ aSt A := fun q => by have := hst u q; rw [hs] at this; cases this
  have ne : ∀ v ∈ aSt A, v ≠ u := fun v hv e => hun (e ▸ hv)
  have gne : ∀ v, v < n → v ≠ u → ga v ≠ ga u := fun v hv hn => h.ne hv hu hn
  obtain ⟨g1, g2, g3, g4, g5⟩ := a3.1 u hu
  have hchn : ∀ {L : List (Nat × Int32)} {r : Option Nat}, chn z r L → chn (enS z pt (ga u) ((aPa A).head?.map ga)) r L := fun hc => chn_ext (fun _ _ q => enS_is q) (fun b => enS_R (by decide)) (fun b => enS_I (by decide)) (fun b => enS_R (by decide)) hc
  refine ⟨⟨enS_is a1, (enS_R (by decide)).trans a2, gts_ext a3 (fun _ _ q => enS_is q) (fun f b hf => enS_I (by rcases hf with rfl | rfl | rfl <;> decide)) (fun f b hf => enS_R (by rcases hf with rfl | rfl | rfl <;> decide))⟩, ⟨?_, (enS_I (by decide)).trans b2, ?_, ?_⟩, fun v hv => ?_, fun v hv => ?_, fun v hv hse => ?_, fun v hv hse hns => ?_, ?_⟩
  · rw [enS_130, b1]
    exact nI_1 _
  · rw [enS_131]
    show some (ga u) = some (ga u) ∧ is (enS z pt (ga u) ((aPa A).head?.map ga)) (ga u) 2 ∧ some (ga u) ≠ none ∧ bch (enS z pt (ga u) ((aPa A).head?.map ga)) (sR (enS z pt (ga u) ((aPa A).head?.map ga)) 75 (ga u)) ((aSt A).map ga) none
    refine ⟨rfl, enS_is g1, fun q => (by cases q), ?_⟩
    rw [enS_75, if_pos rfl]
    refine bch_ext (z := z) (fun _ _ q => enS_is q) b3 (fun b hb => ?_)
    obtain ⟨v, hv, rfl⟩ := List.mem_map.mp hb
    rw [enS_75, if_neg (gne v (c2 v hv).1 (ne v hv))]
  · show sR (enS z pt (ga u) ((aPa A).head?.map ga)) 74 (ga u) = (aPa A).head?.map ga ∧ cmf (enS z pt (ga u) ((aPa A).head?.map ga)) ga (aPa A)
    refine ⟨by rw [enS_74, if_pos rfl], cmf_ext b4 (fun v hv => ?_)⟩
    rw [enS_74, if_neg (gne v (c2 v (hps v hv)).1 (ne v (hps v hv)))]
  · rw [enS_71]
    by_cases hvu : v = u
    · subst hvu
      have e1 : aSe (eA so fd A (aRm A) v) v = true := va_up_self _ _ _
      have e2 : aSa (eA so fd A (aRm A) v) v = aC A := va_up_self _ _ _
      rw [if_pos rfl, e1, e2, if_pos rfl, b1]
    · have e1 : aSe (eA so fd A (aRm A) u) v = aSe A v := va_up_ne _ _ hvu
      have e2 : aSa (eA so fd A (aRm A) u) v = aSa A v := va_up_ne _ _ hvu
      rw [if_neg (gne v hv hvu), e1, e2]
      exact c1 v hv
  · rcases List.mem_cons.mp hv with rfl | hv
    · have e1 : aLo (eA so fd A (aRm A) v) v = aC A := va_up_self _ _ _
      have e2 : aFi (eA so fd A (aRm A) v) v = false := va_up_self _ _ _
      have e3 : aRm (eA so fd A (aRm A) v) v = nrm so fd v := va_up_self _ _ _
      refine ⟨hu, ?_, ?_, ?_⟩
      · rw [enS_72, if_pos rfl, e1, b1]
      · rw [enS_77, if_pos rfl, e2]; rfl
      · rw [enS_73, if_pos rfl, e3, g3]
        unfold nrm
        cases isLog (so v) with
        | true => exact hchn g4
        | false => exact rfl
    · have hvu := ne v hv
      obtain ⟨d1, d2, d3, d4⟩ := c2 v hv
      have hg := gne v d1 hvu
      have e1 : aLo (eA so fd A (aRm A) u) v = aLo A v := va_up_ne _ _ hvu
      have e2 : aFi (eA so fd A (aRm A) u) v = aFi A v := va_up_ne _ _ hvu
      have e3 : aRm (eA so fd A (aRm A) u) v = aRm A v := va_up_ne _ _ hvu
      refine ⟨d1, ?_, ?_, ?_⟩
      · rw [enS_72, if_neg hg, e1]; exact d2
      · rw [enS_77, if_neg hg, e2]; exact d3
      · rw [enS_73, if_neg hg, e3]; exact hchn d4
  · rw [enS_76]
    by_cases hvu : v = u
    · subst hvu
      rw [if_pos rfl]
      have : decide (v ∈ aSt (eA so fd A (aRm A) v)) = true := decide_eq_true (show v ∈ v :: aSt A from List.mem_cons_self)
      rw [this]; rfl
    · have e1 : aSe (eA so fd A (aRm A) u) v = aSe A v := va_up_ne _ _ hvu
      rw [e1] at hse
      rw [if_neg (gne v hv hvu), c3 v hv hse]
      have : decide (v ∈ aSt A) = decide (v ∈ aSt (eA so fd A (aRm A) u)) := by
        have hiff : v ∈ aSt A ↔ v ∈ u :: aSt A := ⟨fun q => List.mem_cons_of_mem _ q, fun q => (List.mem_cons.mp q).resolve_left hvu⟩
        exact decide_eq_decide.mpr hiff
      rw [this]
  · have hvu : v ≠ u := fun e => hns (by rw [e]; exact (show u ∈ u :: aSt A from List.mem_cons_self))
    have e1 : aSe (eA so fd A (aRm A) u) v = aSe A v := va_up_ne _ _ hvu
    rw [e1] at hse
    exact (enS_I (by decide)).trans (c4 v hv hse (fun q => hns (show v ∈ u :: aSt A from List.mem_cons_of_mem _ q)))
  · exact lst_ext c5 (fun _ _ q => enS_is q) (enS_I (by decide)) (enS_R (by decide)) (fun _ _ _ => ⟨rfl, rfl⟩)
end Rep34
