/-! ===== THE REFERENCE: its object, its arrays ===== -/
def aFd (f : Nat) : Bool := decide (196 ≤ f) && decide (f ≤ 207) && !decide (f = 204)
def aK (f : Nat) : Nat := if f = 200 ∨ f = 205 ∨ f = 206 then 8 else 7
def aLn (f : Nat) : Nat := if f = 198 ∨ f = 199 ∨ f = 200 then 2400 else if f = 207 then 12 else 600
/-- the reference's object mo with its arrays A: the int fields I, the arrays' contents M -/
def mst (z : Sto) (mo : Nat) (A : Nat → Nat) (I : Nat → Int32) (M : Nat → Nat → Int32) : Prop :=
  is z mo 6 ∧ (∀ f, aFd f = true → sR z f mo = some (A f) ∧ is z (A f) (aK f) ∧ sN z (A f) = aLn f ∧ sE z (A f) = M f) ∧ (∀ f g, aFd f = true → aFd g = true → A f = A g → f = g) ∧ (∀ f, sI z f mo = I f)
def mF (z z' : Sto) : Prop := sL z' = sL z ∧ sK z' = sK z ∧ sJ z' = sJ z ∧ sR z' = sR z ∧ sN z' = sN z ∧ sF z' = sF z ∧ sQ z' = sQ z ∧ ∀ f b, f < 192 → sI z' f b = sI z f b
def mR (z z' : Sto) (mo : Nat) (A : Nat → Nat) (I : Nat → Int32) (M : Nat → Nat → Int32) : Prop := mF z z' ∧ mst z' mo A I M
section Mod55a
variable {z z1 z2 : Sto} {mo : Nat} {A : Nat → Nat} {I I' : Nat → Int32} {M M' : Nat → Nat → Int32}
theorem mR.o (h : mR z z1 mo A I M) : is z1 mo 6 := h.2.1
theorem mR.i (h : mR z z1 mo A I M) (f : Nat) : sI z1 f mo = I f := h.2.2.2.2 f
theorem mR.r (h : mR z z1 mo A I M) (f : Nat) (hf : aFd f = true) : sR z1 f mo = some (A f) := (h.2.2.1 f hf).1
theorem mR.a (h : mR z z1 mo A I M) (f : Nat) (hf : aFd f = true) {k : Nat} (hk : aK f = k) : is z1 (A f) k := hk ▸ (h.2.2.1 f hf).2.1
theorem mR.q (h : mR z z1 mo A I M) (f : Nat) (hf : aFd f = true) {L : Nat} (hL : aLn f = L) {i : Nat} (hi : i < L) : i < sN z1 (A f) := by rw [(h.2.2.1 f hf).2.2.1, hL]; exact hi
theorem aLn_le (f : Nat) : aLn f ≤ 2400 := by unfold aLn; split <;> (try split) <;> decide
theorem mR.b (h : mR z z1 mo A I M) (f : Nat) (hf : aFd f = true) : sN z1 (A f) < 2 ^ 31 := by rw [(h.2.2.1 f hf).2.2.1]; exact Nat.lt_of_le_of_lt (aLn_le f) (by decide)
theorem mR.e (h : mR z z1 mo A I M) (f : Nat) (hf : aFd f = true) (i : Nat) : sE z1 (A f) i = M f i := by rw [(h.2.2.1 f hf).2.2.2]
theorem mF.tr (h1 : mF z z1) (h2 : mF z1 z2) : mF z z2 := by
  obtain ⟨a1, a2, a3, a4, a5, a6, a7, a8⟩ := h1
  obtain ⟨b1, b2, b3, b4, b5, b6, b7, b8⟩ := h2
  exact ⟨b1.trans a1, b2.trans a2, b3.trans a3, b4.trans a4, b5.trans a5, b6.trans a6, b7.trans a7, fun f b q => (b8 f b q).trans (a8 f b q)⟩
theorem mR.rf (h : mst z mo A I M) : mR z z mo A I M := ⟨⟨rfl, rfl, rfl, rfl, rfl, rfl, rfl, fun _ _ _ => rfl⟩, h⟩
theorem mR.tr (h1 : mR z z1 mo A I M) (h2 : mR z1 z2 mo A I' M') : mR z z2 mo A I' M' := ⟨h1.1.tr h2.1, h2.2⟩
theorem mR.E (h : mR z z1 mo A I M) (f : Nat) (hf : aFd f = true) (i : Nat) (v : Int32) : mR z (setE z1 (A f) i v) mo A I (u2 M f i v) := by
  obtain ⟨hF, h1, h2, h3, h4⟩ := h
  refine ⟨hF, h1, fun g hg => ?_, h3, h4⟩
  obtain ⟨q1, q2, q3, q4⟩ := h2 g hg
  refine ⟨q1, q2, q3, ?_⟩
  funext j
  show u2 (sE z1) (A f) i v (A g) j = u2 M f i v g j
  unfold u2
  by_cases hgf : g = f
  · subst hgf
    by_cases hj : j = i
    · rw [if_pos ⟨rfl, hj⟩, if_pos ⟨rfl, hj⟩]
    · rw [if_neg (fun q => hj q.2), if_neg (fun q => hj q.2), q4]
  · have hne : A g ≠ A f := fun e => hgf (h3 g f hg hf e)
    rw [if_neg (fun q => hne q.1), if_neg (fun q => hgf q.1), q4]
theorem mR.P (h : mR z z1 mo A I M) (f : Nat) (hf : 192 ≤ f) (v : Int32) : mR z (putI z1 f mo v) mo A (va_up I f v) M := by
  obtain ⟨hF, h1, h2, h3, h4⟩ := h
  obtain ⟨a1, a2, a3, a4, a5, a6, a7, a8⟩ := hF
  refine ⟨⟨a1, a2, a3, a4, a5, a6, a7, fun g b hg => ?_⟩, h1, h2, h3, fun g => ?_⟩
  · have : sI (putI z1 f mo v) g b = sI z1 g b := rI_If (by omega) rfl
    rw [this]
    exact a8 g b hg
  · show u2 (sI z1) f mo v g mo = (if g = f then v else I g)
    unfold u2
    by_cases hg : g = f
    · rw [if_pos ⟨hg, rfl⟩, if_pos hg]
    · rw [if_neg (fun q => hg q.1), if_neg hg, h4]
theorem mR.kI {P : Sto → Prop} (h : mR z z1 mo A I M) (f : Nat) (hf : 192 ≤ f) (v : Int32) (k : ∀ z2, mR z z2 mo A (va_up I f v) M → P z2) : P (putI z1 f mo v) := k _ (h.P f hf v)
theorem mR.mkF (h : mR z z1 mo A I M) : mkF z z1 := by
  obtain ⟨⟨a1, a2, a3, a4, a5, a6, a7, a8⟩, -⟩ := h
  exact ⟨fun b k q => ⟨by rw [a1]; exact q.1, by rw [a2]; exact q.2⟩, fun f b q _ => a8 f b q, fun f b _ _ => by rw [a4], fun b _ => ⟨by rw [a5], by rw [a7]⟩⟩
/-- the calls of the class leave the reference as it is -/
theorem mst_kfr (h : mst z mo A I M) (hk : kfr z z1) : mst z1 mo A (fun f => sI z1 f mo) M ∧ ∀ f, 192 ≤ f → sI z1 f mo = I f := by
  obtain ⟨h1, h2, h3, h4⟩ := h
  obtain ⟨k1, k2, k3, k4⟩ := hk
  refine ⟨⟨k1 _ _ h1, fun f hf => ?_, h3, fun f => rfl⟩, fun f hf => (k2 f mo hf h1.1).trans (h4 f)⟩
  obtain ⟨q1, q2, q3, q4⟩ := h2 f hf
  have h192 : 192 ≤ f := by
    unfold aFd at hf
    rw [Bool.and_eq_true, Bool.and_eq_true, decide_eq_true_iff] at hf
    omega
  exact ⟨(k3 f mo h192 h1.1).trans q1, k1 _ _ q2, (k4 _ q2.1).1.trans q3, (k4 _ q2.1).2.1.trans q4⟩
end Mod55a
theorem u3_s {α : Type} (g : Nat → Nat → α) (f a : Nat) (v : α) : u2 g f a v f a = v := if_pos ⟨rfl, rfl⟩
theorem u3_f {α : Type} {g : Nat → Nat → α} {f a f' : Nat} {v : α} (h : f' ≠ f) : u2 g f a v f' = g f' := funext fun _ => if_neg (fun q => h q.1)
theorem u3_a {α : Type} {g : Nat → Nat → α} {f a a' : Nat} {v : α} (h : a' ≠ a) : u2 g f a v f a' = g f a' := if_neg (fun q => h q.2)
/-- the entries of the feeds -/
def tk (N : NT) (k : Nat) : Nat := ((nFL N).getD k (0, 0, 0)).1
def fk (N : NT) (k : Nat) : Nat := ((nFL N).getD k (0, 0, 0)).2.1
def gk (N : NT) (k : Nat) : Int32 := ((nFL N).getD k (0, 0, 0)).2.2
/-- the reference holds the net N -/
def mv (I : Nat → Int32) (M : Nat → Nat → Int32) (N : NT) : Prop :=
  (I 193 = nI (nN N) ∧ I 194 = nI (nFL N).length ∧ I 195 = nI (cnt (fun i => decide (nSo N i = 0)) (nN N))) ∧ (∀ i, i < nN N → M 196 i = nSo N i ∧ M 197 i = nHd N i) ∧ ∀ k, k < (nFL N).length → M 198 k = nI (tk N k) ∧ M 199 k = nI (fk N k) ∧ M 200 k = gk N k
section Mod55b
variable {I I' : Nat → Int32} {M M' M1 M2 : Nat → Nat → Int32} {N : NT}
theorem mv.n (h : mv I M N) : I 193 = nI (nN N) := h.1.1
theorem mv.l (h : mv I M N) : I 194 = nI (nFL N).length := h.1.2.1
theorem mv.u (h : mv I M N) : I 195 = nI (cnt (fun i => decide (nSo N i = 0)) (nN N)) := h.1.2.2
theorem mv.s (h : mv I M N) (i : Nat) (hi : i < nN N) : M 196 i = nSo N i := (h.2.1 i hi).1
theorem mv.h (h : mv I M N) (i : Nat) (hi : i < nN N) : M 197 i = nHd N i := (h.2.1 i hi).2
theorem mv.t (h : mv I M N) (k : Nat) (hk : k < (nFL N).length) : M 198 k = nI (tk N k) := (h.2.2 k hk).1
theorem mv.f (h : mv I M N) (k : Nat) (hk : k < (nFL N).length) : M 199 k = nI (fk N k) := (h.2.2 k hk).2.1
theorem mv.g (h : mv I M N) (k : Nat) (hk : k < (nFL N).length) : M 200 k = gk N k := (h.2.2 k hk).2.2
/-- what is kept of the arrays outside of S -/
def kx (S : List Nat) (M M' : Nat → Nat → Int32) : Prop := ∀ f, f ∉ S → M' f = M f
theorem kx.rf (S : List Nat) (M : Nat → Nat → Int32) : kx S M M := fun _ _ => rfl
theorem kx.tr {S : List Nat} (h1 : kx S M M1) (h2 : kx S M1 M2) : kx S M M2 := fun f q => (h2 f q).trans (h1 f q)
theorem kx.mo {S T : List Nat} (h : kx S M M1) (hs : ∀ f ∈ S, f ∈ T) : kx T M M1 := fun f q => h f (fun w => q (hs f w))
theorem kx.u {S : List Nat} (h : kx S M M1) {f : Nat} (hf : f ∈ S) (i : Nat) (v : Int32) : kx S M (u2 M1 f i v) := fun g q => by
  have hgf : g ≠ f := fun e => q (by rw [e]; exact hf)
  exact (u3_f hgf).trans (h g q)
theorem mv.kx {S : List Nat} (h : mv I M N) (hk : kx S M M') (hS : S.all (fun f => decide (200 < f)) = true) : mv I M' N := by
  have hn : ∀ f, f ≤ 200 → M' f = M f := fun f hf => hk f (fun q => by
    have := List.all_eq_true.mp hS f q
    have := of_decide_eq_true this
    omega)
  refine ⟨h.1, fun i hi => ?_, fun k hk => ?_⟩
  · rw [hn 196 (by decide), hn 197 (by decide)]; exact h.2.1 i hi
  · rw [hn 198 (by decide), hn 199 (by decide), hn 200 (by decide)]; exact h.2.2 k hk
theorem mv.P (h : mv I M N) {f : Nat} (v : Int32) (h1 : ¬ f = 193) (h2 : ¬ f = 194) (h3 : ¬ f = 195) : mv (va_up I f v) M N := by
  refine ⟨⟨?_, ?_, ?_⟩, h.2⟩
  · show (if 193 = f then v else I 193) = _; rw [if_neg (fun e => h1 e.symm)]; exact h.n
  · show (if 194 = f then v else I 194) = _; rw [if_neg (fun e => h2 e.symm)]; exact h.l
  · show (if 195 = f then v else I 195) = _; rw [if_neg (fun e => h3 e.symm)]; exact h.u
end Mod55b
theorem fl_mem {N : NT} {k : Nat} (h : k < (nFL N).length) : (tk N k, fk N k, gk N k) ∈ nFL N := by
  have e : (nFL N).getD k (0, 0, 0) = (nFL N)[k] := by rw [List.getD_eq_getElem?_getD, List.getElem?_eq_getElem h]; rfl
  have e2 : (tk N k, fk N k, gk N k) = (nFL N)[k] := by unfold tk fk gk; rw [e]
  rw [e2]
  exact List.getElem_mem h
theorem fl_idx {N : NT} {t : Nat × Nat × Int32} (h : t ∈ nFL N) : ∃ k, k < (nFL N).length ∧ t = (tk N k, fk N k, gk N k) := by
  obtain ⟨k, hk, e⟩ := List.getElem_of_mem h
  refine ⟨k, hk, ?_⟩
  have e1 : (nFL N).getD k (0, 0, 0) = (nFL N)[k] := by rw [List.getD_eq_getElem?_getD, List.getElem?_eq_getElem hk]; rfl
  unfold tk fk gk
  rw [e1, e]
theorem fl_b {N : NT} (hO : nOK N) {k : Nat} (h : k < (nFL N).length) : tk N k < nN N ∧ fk N k < nN N ∧ (gk N k = 0 ∨ gk N k = 1) := hO.2.2.1 _ (fl_mem h)
theorem nFd_mem2 {N : NT} {v : Nat} {x : Nat × Int32} : x ∈ nFd N v ↔ ∃ k, k < (nFL N).length ∧ tk N k = v ∧ (fk N k, gk N k) = x := by
  unfold nFd
  rw [List.mem_map]
  constructor
  · rintro ⟨t, h1, h2⟩
    rw [List.mem_reverse, List.mem_filter] at h1
    obtain ⟨k, hk, e⟩ := fl_idx h1.1
    subst e
    exact ⟨k, hk, of_decide_eq_true h1.2, h2⟩
  · rintro ⟨k, hk, h1, h2⟩
    refine ⟨(tk N k, fk N k, gk N k), ?_, h2⟩
    rw [List.mem_reverse, List.mem_filter]
    exact ⟨fl_mem hk, decide_eq_true h1⟩
section Mod55c
variable {p : Program} {l : Launch} {e : Env} {R : Room} {s : State} {m : MethodId} {args : Array Value} {below : List Frame} {meth : Method} {c : Code} {G : Gx} {nL cells slots : Nat} {Q : State → Prop} {z0 z : Sto} {pc : Nat} {lv : List (Nat × Value)} {rest : List Value} {cc : ByteArray} {Ts : List Cond} {own : String} {ret : Option FieldType} {mo : Nat} {A : Nat → Nat} {I : Nat → Int32} {M : Nat → Nat → Int32}
theorem m_iast {f n L : Nat} {i x : Int32} (C : Cx p s m args meth c cc nL Ts own ret G) (hdg : decode cc pc = .ok (.iastore, 1)) (hm : mR z0 z mo A I M) (hf : aFd f = true) (hk : aK f = 7) (hL : aLn f = L) (hi : i = nI n) (hn : n < L) (kk : ∀ z1, mR z0 z1 mo A I (u2 M f n x) → Wp p l e R s m args below meth c G nL cells slots Q z1 (pc + 1) lv rest) : Wp p l e R s m args below meth c G nL cells slots Q z pc lv (.int x :: .int i :: .ref (A f) :: rest) :=
  w_iast C hdg (hm.a f hf hk) hi (hm.q f hf hL hn) (hm.b f hf) (kk _ (hm.E f hf n x))
theorem m_zast {f n L : Nat} {i x y : Int32} (C : Cx p s m args meth c cc nL Ts own ret G) (hdg : decode cc pc = .ok (.bastore, 1)) (hm : mR z0 z mo A I M) (hf : aFd f = true) (hk : aK f = 8) (hL : aLn f = L) (hi : i = nI n) (hn : n < L) (hy : vp_nar .boolean x = y) (kk : ∀ z1, mR z0 z1 mo A I (u2 M f n y) → Wp p l e R s m args below meth c G nL cells slots Q z1 (pc + 1) lv rest) : Wp p l e R s m args below meth c G nL cells slots Q z pc lv (.int x :: .int i :: .ref (A f) :: rest) :=
  w_zast C hdg (hm.a f hf hk) hi (hm.q f hf hL hn) (hm.b f hf) hy (kk _ (hm.E f hf n y))
end Mod55c
