/-! ===== the walk's measure; what the walk leaves as it was ===== -/
def sumN (f : Nat → Nat) : Nat → Nat
  | 0 => 0
  | n + 1 => sumN f n + f n
theorem sumN_congr {f g : Nat → Nat} {n : Nat} (h : ∀ i, i < n → f i = g i) : sumN f n = sumN g n := by
  induction n with
  | zero => rfl
  | succ n ih => unfold sumN; rw [ih (fun i hi => h i (by omega)), h n (by omega)]
theorem sumN_upd {f g : Nat → Nat} {n k : Nat} (hk : k < n) (h : ∀ i, i < n → i ≠ k → f i = g i) : sumN f n + g k = sumN g n + f k := by
  induction n with
  | zero => omega
  | succ n ih =>
    unfold sumN
    by_cases hkn : k = n
    · subst hkn
      rw [sumN_congr (f := f) (g := g) (fun i hi => h i (by omega) (by omega))]
      omega
    · have := ih (by omega) (fun i hi hik => h i (by omega) hik)
      rw [h n (by omega) (fun e => hkn e.symm)]
      omega
theorem sumN_ge {f : Nat → Nat} {n k : Nat} (hk : k < n) : f k ≤ sumN f n := by
  induction n with
  | zero => omega
  | succ n ih =>
    unfold sumN
    by_cases hkn : k = n
    · subst hkn; omega
    · have := ih (by omega); omega
theorem sumN_le {f g : Nat → Nat} {n : Nat} (h : ∀ i, i < n → f i ≤ g i) : sumN f n ≤ sumN g n := by
  induction n with
  | zero => exact Nat.le_refl _
  | succ n ih => unfold sumN; have := ih (fun i hi => h i (by omega)); have := h n (by omega); omega
theorem sumN_add (f : Nat → Nat) (n c : Nat) : sumN (fun i => c + f i) n = c * n + sumN f n := by
  induction n with
  | zero => rfl
  | succ n ih => unfold sumN; rw [ih, Nat.mul_succ]; omega
def tmA (so : Nat → Int32) (fd : Nat → List (Nat × Int32)) (A : AS) (v : Nat) : Nat := if aSe A v then (if v ∈ aPa A then 1 + (aRm A v).length else 0) else 1 + (nrm so fd v).length
def mA (n : Nat) (so : Nat → Int32) (fd : Nat → List (Nat × Int32)) (A : AS) : Nat := sumN (tmA so fd A) n
section Meas38
variable {n : Nat} {so : Nat → Int32} {fd : Nat → List (Nat × Int32)} {A : AS}
theorem mA_enter (hs0 : ∀ v ∈ aPa A, aSe A v = true) {rm1 : Nat → List (Nat × Int32)} {u : Nat} (hs : aSe A u = false) (v : Nat) : tmA so fd (eA so fd A rm1 u) v = if v = u then 1 + (nrm so fd u).length else if aSe A v then (if v ∈ aPa A then 1 + (rm1 v).length else 0) else 1 + (nrm so fd v).length := by
  have e1 : aSe (eA so fd A rm1 u) v = va_up (aSe A) u true v := rfl
  have e2 : aRm (eA so fd A rm1 u) v = va_up rm1 u (nrm so fd u) v := rfl
  have e3 : aPa (eA so fd A rm1 u) = u :: aPa A := rfl
  unfold tmA
  rw [e1, e2, e3]
  by_cases h : v = u
  · subst h
    rw [va_up_self, va_up_self, if_pos rfl, if_pos List.mem_cons_self, if_pos rfl]
  · rw [va_up_ne _ _ h, va_up_ne _ _ h, if_neg h]
    by_cases hv : v ∈ aPa A
    · rw [if_pos hv, if_pos (List.mem_cons_of_mem _ hv)]
    · rw [if_neg hv, if_neg (fun q => (List.mem_cons.mp q).elim h hv)]
theorem mA_enter0 (h : TIA n so fd A) {u : Nat} (hs : aSe A u = false) : mA n so fd (eA so fd A (aRm A) u) = mA n so fd A := by
  refine sumN_congr (fun i _ => ?_)
  have hs0 : ∀ v ∈ aPa A, aSe A v = true := fun v hv => (h.1 v (TIA_sub h v hv)).2.1
  rw [mA_enter hs0 hs]
  unfold tmA
  by_cases hi : i = u
  · rw [if_pos hi, hi, hs, if_neg (by decide)]
  · rw [if_neg hi]
theorem sA_l {p : Nat} {ps : List Nat} (hp : aPa A = p :: ps) (hr : aRm A p = []) : sA so fd A = lA so A p ps := by
  unfold sA
  rw [hp]
  simp only [hr]
theorem sA_f {p : Nat} {ps : List Nat} {x : Nat × Int32} {rs : List (Nat × Int32)} (hp : aPa A = p :: ps) (hr : aRm A p = x :: rs) (hs : aSe A x.1 = true) : sA so fd A = fA A p x.1 rs := by
  unfold sA
  rw [hp]
  simp only [hr]
  rw [if_pos hs]
theorem sA_e {p : Nat} {ps : List Nat} {x : Nat × Int32} {rs : List (Nat × Int32)} (hp : aPa A = p :: ps) (hr : aRm A p = x :: rs) (hs : aSe A x.1 = false) : sA so fd A = eA so fd A (va_up (aRm A) p rs) x.1 := by
  unfold sA
  rw [hp]
  simp only [hr]
  rw [hs, if_neg (by decide)]
theorem mA_step (hfd : ∀ v, v < n → ∀ x ∈ fd v, x.1 < n) (h : TIA n so fd A) {p : Nat} {ps : List Nat} (hp : aPa A = p :: ps) : mA n so fd (sA so fd A) + 1 = mA n so fd A := by
  have hs0 : ∀ v ∈ aPa A, aSe A v = true := fun v hv => (h.1 v (TIA_sub h v hv)).2.1
  have hpin : p ∈ aPa A := by rw [hp]; exact List.mem_cons_self
  have hps : aSe A p = true := hs0 p hpin
  have hpn : p < n := (h.1 p (TIA_sub h p hpin)).1
  have hnp := (TIA_np h hp).1
  have tp : tmA so fd A p = 1 + (aRm A p).length := by unfold tmA; rw [hps, if_pos rfl, if_pos hpin]
  cases hr : aRm A p with
  | nil =>
    rw [sA_l hp hr]
    have f1 : aSe (lA so A p ps) = aSe A := by unfold lA; simp only []; split <;> rfl
    have f2 : aPa (lA so A p ps) = ps := by unfold lA; simp only []; split <;> rfl
    have f3 : aRm (lA so A p ps) = aRm A := by unfold lA; simp only []; split <;> rfl
    have := sumN_upd (f := tmA so fd A) (g := tmA so fd (lA so A p ps)) hpn (fun i _ hik => by
      unfold tmA
      rw [f1, f2, f3, hp]
      by_cases hi : i ∈ ps
      · rw [if_pos hi, if_pos (List.mem_cons_of_mem _ hi)]
      · rw [if_neg hi, if_neg (fun q => (List.mem_cons.mp q).elim hik hi)])
    rw [tp, hr] at this
    have e : tmA so fd (lA so A p ps) p = 0 := by unfold tmA; rw [f1, f2, hps, if_pos rfl, if_neg hnp]
    rw [e] at this
    unfold mA
    simp only [List.length_nil] at this
    omega
  | cons x rs =>
    by_cases hx : aSe A x.1 = true
    · rw [sA_f hp hr hx]
      have := sumN_upd (f := tmA so fd A) (g := tmA so fd (fA A p x.1 rs)) hpn (fun i _ hik => by
        unfold tmA
        have e2 : aRm (fA A p x.1 rs) i = aRm A i := va_up_ne _ _ hik
        rw [e2]
        rfl)
      have e : tmA so fd (fA A p x.1 rs) p = 1 + rs.length := by
        have e2 : aRm (fA A p x.1 rs) p = rs := va_up_self _ _ _
        have e3 : aSe (fA A p x.1 rs) p = true := hps
        have e4 : p ∈ aPa (fA A p x.1 rs) := hpin
        unfold tmA
        rw [e2, e3, if_pos rfl, if_pos e4]
      rw [tp, hr, e, List.length_cons] at this
      unfold mA
      omega
    · have hx : aSe A x.1 = false := by cases q : aSe A x.1 with | true => exact absurd q hx | false => rfl
      rw [sA_e hp hr hx]
      have hne : p ≠ x.1 := fun e => by rw [← e, hps] at hx; cases hx
      have := sumN_upd (f := tmA so fd A) (g := tmA so fd (eA so fd A (va_up (aRm A) p rs) x.1)) hpn (fun i _ hik => by
        rw [mA_enter hs0 hx]
        unfold tmA
        by_cases hi : i = x.1
        · rw [if_pos hi, hi, hx, if_neg (by decide)]
        · rw [if_neg hi, va_up_ne _ _ hik])
      have e : tmA so fd (eA so fd A (va_up (aRm A) p rs) x.1) p = 1 + rs.length := by
        rw [mA_enter hs0 hx, if_neg hne, hps, if_pos rfl, if_pos hpin, va_up_self]
      rw [tp, hr, e, List.length_cons] at this
      unfold mA
      omega
theorem mA_nil (h : TIA n so fd A) (h0 : mA n so fd A = 0) : aPa A = [] := by
  cases hp : aPa A with
  | nil => rfl
  | cons p ps =>
    have hpin : p ∈ aPa A := by rw [hp]; exact List.mem_cons_self
    have hb := h.1 p (TIA_sub h p hpin)
    have := sumN_ge (f := tmA so fd A) hb.1
    have tp : tmA so fd A p = 1 + (aRm A p).length := by unfold tmA; rw [hb.2.1, if_pos rfl, if_pos hpin]
    rw [tp] at this
    unfold mA at h0
    omega
theorem rA_nil (k : Nat) (h : aPa A = []) : rA so fd k A = A := by
  cases k with
  | zero => rfl
  | succ k => unfold rA; rw [h]
theorem rA_succ (k : Nat) {p : Nat} {ps : List Nat} (h : aPa A = p :: ps) : rA so fd (k + 1) A = rA so fd k (sA so fd A) := by
  show (match aPa A with | [] => A | _ :: _ => rA so fd k (sA so fd A)) = _
  rw [h]
theorem gcap_ge (c : Nat) : c ≤ gcap c := by unfold gcap; split <;> omega
theorem lA_cp (so : Nat → Int32) (A : AS) (p : Nat) (ps : List Nat) : aCp (lA so A p ps) = cpA so A p := by
  by_cases hl : aLo A p = aSa A p
  · rw [lA_t so ps hl]; rfl
  · rw [lA_f so ps hl]; rfl
theorem cpA_ge (so : Nat → Int32) (A : AS) (p : Nat) : aCp A ≤ cpA so A p := by
  unfold cpA
  split
  · split
    · exact Nat.le_refl _
    · exact gcap_ge _
  · exact Nat.le_refl _
theorem sA_cap : aCp A ≤ aCp (sA so fd A) := by
  unfold sA
  split
  · exact Nat.le_refl _
  · split
    · rw [lA_cp]; exact cpA_ge _ _ _
    · split <;> exact Nat.le_refl _
theorem rA_cap : ∀ (k : Nat) (A : AS), aCp A ≤ aCp (rA so fd k A) := by
  intro k
  induction k with
  | zero => intro A; exact Nat.le_refl _
  | succ k ih =>
    intro A
    cases h : aPa A with
    | nil => rw [rA_nil _ h]; exact Nat.le_refl _
    | cons p ps => rw [rA_succ k h]; exact Nat.le_trans sA_cap (ih _)
end Meas38
/-! ===== leave in the store ===== -/
section Rep38
variable {G : Gx} {z : Sto} {pt ol n : Nat} {ga : Nat → Nat} {so : Nat → Int32} {fd : Nat → List (Nat × Int32)} {A : AS}
theorem wrp_pa (h : wrp G z pt ol n ga so fd A) {p : Nat} {ps : List Nat} (hp : aPa A = p :: ps) : wrp G z pt ol n ga so fd (setPa A ps) := by
  obtain ⟨a, ⟨b1, b2, b3, b4⟩, c⟩ := h
  rw [hp] at b4
  exact ⟨a, ⟨b1, b2, b3, b4.2⟩, c⟩
theorem lvZ_wrp {z2 : Sto} {A2 : AS} (h2 : wrp G z2 pt ol n ga so fd A2) {p : Nat} {ps : List Nat} (hpa : aPa A2 = ps) (hps : ∀ v ∈ ps, v ∈ aSt A2) {l : Nat} (hlo : sI z2 72 (ga p) = nI l) (hl : l < 2 ^ 31) (hb : ∀ v ∈ ps, aLo A2 v < 2 ^ 31) :
    wrp G (lvZ z2 (ga p) (ps.head?.map ga)) pt ol n ga so fd (match ps with | [] => A2 | q :: _ => setLo A2 q (min (aLo A2 q) l)) := by
  cases ps with
  | nil => exact h2
  | cons q tl =>
    have hq := hps q List.mem_cons_self
    have e1 := (h2.2.2.2.1 q hq).2.1
    show wrp G (putI z2 72 (ga q) (if sI z2 72 (ga p) < sI z2 72 (ga q) then sI z2 72 (ga p) else sI z2 72 (ga q))) pt ol n ga so fd (setLo A2 q (min (aLo A2 q) l))
    rw [e1, hlo, nI_min (hb q List.mem_cons_self) hl]
    exact wrp_lo h2 hq
theorem wrp_leave (h : wrp G z pt ol n ga so fd A) (ht : TIA n so fd A) (hn : n < 2 ^ 31) (hc : aC A < 2 ^ 31) {p : Nat} {ps : List Nat} (hp : aPa A = p :: ps) {z1 : Sto} (hA : lvA G z z1 (ga p) ol (aOr A).length (fun i => ga ((aOr A).getD i 0)) (aCp A)) :
    wrp G (lvZ (if sI z 72 (ga p) = sI z 71 (ga p) then cpS z1 pt (ga p) ((segA A p ++ [p]).map ga) else z1) (ga p) (sR z 74 (ga p))) pt ol n ga so fd (lA so A p ps) := by
  have hpin : p ∈ aSt A := TIA_sub ht p (by rw [hp]; exact List.mem_cons_self)
  have hpn : p < n := (ht.1 p hpin).1
  obtain ⟨n1, n2, n3, n4, n5, n6⟩ := TIA_np ht hp
  have hlo : ∀ v ∈ aSt A, aLo A v < 2 ^ 31 := fun v hv => by have := (ht.2.2.2.2.1 v hv).1; have := (ht.1 v hv).2.2; omega
  have e74 : sR z 74 (ga p) = ps.head?.map ga := by
    have := h.2.1.2.2.2
    rw [hp] at this
    exact this.1
  have e72 : sI z 72 (ga p) = nI (aLo A p) := (h.2.2.2.1 p hpin).2.1
  have e71 : sI z 71 (ga p) = nI (aSa A p) := by have := h.2.2.1 p hpn; rw [(ht.1 p hpin).2.1, if_pos rfl] at this; exact this
  have hsa : aSa A p < 2 ^ 31 := by have := (ht.1 p hpin).2.2; omega
  have h1 := wrp_add h hpn hA
  rw [e74, e72, e71]
  by_cases hl : aLo A p = aSa A p
  · rw [if_pos (by rw [hl]), lA_t so ps hl]
    have h2 := wrp_close (A := setOr A (orA so A p) (cpA so A p)) h1 hn (p := p) hpin n2 n3 n4
    have h3 := wrp_pa (ps := ps) h2 hp
    have h4 := lvZ_wrp (p := p) h3 rfl n5 (l := aLo A p) (by
      rw [cpS_I _ _ _ _ (by decide), cps_I _ (by decide) (by decide), hA.I 72 _ (by decide) (by decide)]
      exact e72) (hlo p hpin) (fun v hv => hlo v (by rw [n2]; exact List.mem_append_right _ (List.mem_cons_of_mem _ (n5 v hv))))
    cases ps with
    | nil => exact h4
    | cons q tl => exact h4
  · rw [if_neg (fun e => hl ((nI_eq (hlo p hpin) hsa).mp e)), lA_f so ps hl]
    have h3 := wrp_pa (A := setOr A (orA so A p) (cpA so A p)) (ps := ps) h1 hp
    have h4 := lvZ_wrp (p := p) h3 rfl (fun v hv => TIA_sub ht v (by rw [hp]; exact List.mem_cons_of_mem _ hv)) (l := aLo A p) (by
      rw [hA.I 72 _ (by decide) (by decide)]
      exact e72) (hlo p hpin) (fun v hv => hlo v (TIA_sub ht v (by rw [hp]; exact List.mem_cons_of_mem _ hv)))
    cases ps with
    | nil => exact h4
    | cons q tl => exact h4
end Rep38
/-! ===== the frame of the walk ===== -/
def wIf (f : Nat) : Bool := decide (f = 71) || decide (f = 72) || decide (f = 76) || decide (f = 77) || decide (f = 78) || decide (f = 129) || decide (f = 130)
def wRf (f : Nat) : Bool := decide (f = 73) || decide (f = 74) || decide (f = 75) || decide (f = 131)
def pF (z z' : Sto) (ol : Nat) : Prop :=
  (∀ b k, is z b k → is z' b k) ∧ (∀ f b, wIf f = false → (f ≠ 0 ∧ f ≠ 2) ∨ b ≠ ol → sI z' f b = sI z f b) ∧ sJ z' = sJ z ∧ (∀ f b, wRf f = false → f ≠ 1 ∨ b ≠ ol → sR z' f b = sR z f b) ∧
  (∀ b, b ∈ sL z → sN z' b = sN z b ∧ sE z' b = sE z b ∧ sF z' b = sF z b) ∧ (∀ b, b ∈ sL z → sR z 1 ol ≠ some b → sQ z' b = sQ z b ∧ sR z' 1 ol ≠ some b)
theorem pF.rf (z : Sto) (ol : Nat) : pF z z ol := ⟨fun _ _ h => h, fun _ _ _ _ => rfl, rfl, fun _ _ _ _ => rfl, fun _ _ => ⟨rfl, rfl, rfl⟩, fun _ _ h => ⟨rfl, h⟩⟩
theorem pF.tr {z z1 z2 : Sto} {ol : Nat} (h1 : pF z z1 ol) (h2 : pF z1 z2 ol) : pF z z2 ol := by
  obtain ⟨a1, a2, a3, a4, a5, a6⟩ := h1
  obtain ⟨b1, b2, b3, b4, b5, b6⟩ := h2
  have hL : ∀ b, b ∈ sL z → b ∈ sL z1 := fun b hb => (a1 b (sK z b) ⟨hb, rfl⟩).1
  refine ⟨fun b k h => b1 b k (a1 b k h), fun f b h h' => (b2 f b h h').trans (a2 f b h h'), b3.trans a3, fun f b h h' => (b4 f b h h').trans (a4 f b h h'), fun b hb => ?_, fun b hb hr => ?_⟩
  · obtain ⟨c1, c2, c3⟩ := a5 b hb
    obtain ⟨d1, d2, d3⟩ := b5 b (hL b hb)
    exact ⟨d1.trans c1, d2.trans c2, d3.trans c3⟩
  · obtain ⟨c1, c2⟩ := a6 b hb hr
    obtain ⟨d1, d2⟩ := b6 b (hL b hb) c2
    exact ⟨d1.trans c1, d2⟩
theorem pF_I (z : Sto) (ol f b : Nat) (v : Int32) (hf : wIf f = true) : pF z (putI z f b v) ol :=
  ⟨fun _ _ h => h, fun g c h _ => rI_If (fun e => by rw [e, hf] at h; cases h) rfl, rfl, fun _ _ _ _ => rfl, fun _ _ => ⟨rfl, rfl, rfl⟩, fun _ _ h => ⟨rfl, h⟩⟩
theorem pF_R (z : Sto) (ol f b : Nat) (v : Option Nat) (hf : wRf f = true) (h1 : f ≠ 1) : pF z (putR z f b v) ol :=
  ⟨fun _ _ h => h, fun _ _ _ _ => rfl, rfl, fun g c h _ => rR_Rf (fun e => by rw [e, hf] at h; cases h) rfl, fun _ _ => ⟨rfl, rfl, rfl⟩, fun c _ h => ⟨rfl, by rw [show sR (putR z f b v) 1 ol = sR z 1 ol from rR_Rf (fun e => h1 e.symm) rfl]; exact h⟩⟩
theorem pF_ad {z z' : Sto} {ol : Nat} (h : adF z z' ol) : pF z z' ol := by
  obtain ⟨a1, a2, a3, a4, a5, a6, a7⟩ := h
  refine ⟨a1, fun f b _ h => a2 f b h, a3, fun f b _ h => a4 f b h, a5, fun b hb hr => ⟨a6 b hb hr, ?_⟩⟩
  rcases a7 with q | ⟨x, q1, q2⟩
  · rw [q]; exact hr
  · rw [q2]; exact fun e => q1 (Option.some.inj e ▸ hb)
theorem pF_cps (ol : Nat) (v : Int32) : ∀ (L : List Nat) (z : Sto), pF z (cps v L z) ol := by
  intro L
  induction L with
  | nil => intro z; exact pF.rf z ol
  | cons g tl ih => intro z; exact ((pF_I z ol 76 g 0 rfl).tr (pF_I _ ol 78 g v rfl)).tr (ih _)
theorem pF_cpS (z : Sto) (ol pt g : Nat) (L : List Nat) : pF z (cpS z pt g L) ol := by
  unfold cpS
  refine pF.tr ?_ (pF_R _ ol 131 pt _ rfl (by decide))
  unfold cpS1
  split
  · exact (pF_cps ol _ L z).tr (pF_I _ ol 129 pt _ rfl)
  · exact pF_cps ol _ L z
theorem pF_lvZ (z : Sto) (ol g : Nat) (cf : Option Nat) : pF z (lvZ z g cf) ol := by
  cases cf with
  | none => exact pF.rf z ol
  | some q => exact pF_I z ol 72 q _ rfl
theorem pF_flS (z : Sto) (ol h f : Nat) : pF z (flS z h f) ol := by
  have h1 : pF z (flS1 z h f) ol := by
    unfold flS1
    split
    · exact pF_I z ol 77 h 1 rfl
    · exact pF.rf z ol
  unfold flS
  split
  · exact h1
  · exact h1.tr (pF_I _ ol 72 h _ rfl)
theorem pF_enS (z : Sto) (ol pt g : Nat) (cf : Option Nat) : pF z (enS z pt g cf) ol := by
  unfold enS
  refine pF.tr ?_ (pF_R _ ol 131 pt _ rfl (by decide))
  refine pF.tr ?_ (pF_R _ ol 75 g _ rfl (by decide))
  refine pF.tr ?_ (pF_I _ ol 76 g _ rfl)
  refine pF.tr ?_ (pF_I _ ol 77 g _ rfl)
  refine pF.tr ?_ (pF_R _ ol 74 g _ rfl (by decide))
  refine pF.tr ?_ (pF_R _ ol 73 g _ rfl (by decide))
  refine pF.tr ?_ (pF_I _ ol 130 pt _ rfl)
  exact (pF_I z ol 71 g _ rfl).tr (pF_I _ ol 72 g _ rfl)
theorem pF_lvA {G : Gx} {z z1 : Sto} {g ol n : Nat} {f : Nat → Nat} {cap : Nat} (h : lvA G z z1 g ol n f cap) : pF z z1 ol := by
  rcases h with ⟨-, rfl⟩ | ⟨-, hF, -⟩
  · exact pF.rf _ ol
  · exact pF_ad hF
theorem lvC_le {so : Nat → Int32} {A : AS} {p : Nat} (hlc : (aOr A).length ≤ aCp A) (hc : aCp A = 0 ∨ 10 ≤ aCp A) : lvC (isLog (so p)) (aOr A).length (aCp A) ≤ cpA so A p - aCp A ∧ lvS (isLog (so p)) (aOr A).length (aCp A) ≤ 4 * (cpA so A p - aCp A) := by
  unfold lvC lvS cpA
  cases isLog (so p) with
  | false => simp
  | true =>
    by_cases h : (aOr A).length < aCp A
    · simp [h]
    · simp only [h, true_and, not_false_eq_true, if_true, if_false]
      unfold gcap
      split <;> omega
