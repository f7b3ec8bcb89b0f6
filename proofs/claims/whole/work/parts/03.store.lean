/-! ===== THE STORE: what the cells that the law made hold; kinds 0..6 are the classes of vwCl, 7 int[], 8 boolean[], 9 Object[], 10 long[] ===== -/
abbrev Sto : Type := List Nat × (Nat → Nat) × (Nat → Nat → Int32) × (Nat → Nat → Int64) × (Nat → Nat → Option Nat) × (Nat → Nat) × (Nat → Nat → Int32) × (Nat → Nat → Int64) × (Nat → Nat → Option Nat)
def sL (z : Sto) : List Nat := z.1
def sK (z : Sto) : Nat → Nat := z.2.1
def sI (z : Sto) : Nat → Nat → Int32 := z.2.2.1
def sJ (z : Sto) : Nat → Nat → Int64 := z.2.2.2.1
def sR (z : Sto) : Nat → Nat → Option Nat := z.2.2.2.2.1
def sN (z : Sto) : Nat → Nat := z.2.2.2.2.2.1
def sE (z : Sto) : Nat → Nat → Int32 := z.2.2.2.2.2.2.1
def sF (z : Sto) : Nat → Nat → Int64 := z.2.2.2.2.2.2.2.1
def sQ (z : Sto) : Nat → Nat → Option Nat := z.2.2.2.2.2.2.2.2
def u2 {α : Type} (g : Nat → Nat → α) (f a : Nat) (v : α) : Nat → Nat → α := fun f' a' => if f' = f ∧ a' = a then v else g f' a'
def c2 {α : Type} (g : Nat → Nat → α) (a : Nat) (v : α) : Nat → Nat → α := fun f' a' => if a' = a then v else g f' a'
def c1 {α : Type} (g : Nat → Nat → α) (a : Nat) (v : Nat → α) : Nat → Nat → α := fun a' i => if a' = a then v i else g a' i
def putI (z : Sto) (f a : Nat) (v : Int32) : Sto := (sL z, sK z, u2 (sI z) f a v, sJ z, sR z, sN z, sE z, sF z, sQ z)
def putJ (z : Sto) (f a : Nat) (v : Int64) : Sto := (sL z, sK z, sI z, u2 (sJ z) f a v, sR z, sN z, sE z, sF z, sQ z)
def putR (z : Sto) (f a : Nat) (v : Option Nat) : Sto := (sL z, sK z, sI z, sJ z, u2 (sR z) f a v, sN z, sE z, sF z, sQ z)
def setE (z : Sto) (a i : Nat) (v : Int32) : Sto := (sL z, sK z, sI z, sJ z, sR z, sN z, u2 (sE z) a i v, sF z, sQ z)
def setF (z : Sto) (a i : Nat) (v : Int64) : Sto := (sL z, sK z, sI z, sJ z, sR z, sN z, sE z, u2 (sF z) a i v, sQ z)
def setQ (z : Sto) (a i : Nat) (v : Option Nat) : Sto := (sL z, sK z, sI z, sJ z, sR z, sN z, sE z, sF z, u2 (sQ z) a i v)
def newO (z : Sto) (a ci : Nat) : Sto := (sL z ++ [a], va_up (sK z) a ci, c2 (sI z) a 0, c2 (sJ z) a 0, c2 (sR z) a none, sN z, sE z, sF z, sQ z)
/-- a new array of kind k and n places; of an Object[] its places hold f -/
def newA (z : Sto) (a k n : Nat) (f : Nat → Option Nat) : Sto := (sL z ++ [a], va_up (sK z) a k, sI z, sJ z, sR z, va_up (sN z) a n, c1 (sE z) a (fun _ => 0), c1 (sF z) a (fun _ => 0), c1 (sQ z) a f)
theorem u2_same {α : Type} (g : Nat → Nat → α) (f a : Nat) (v : α) : u2 g f a v f a = v := by simp [u2]
theorem u2_f {α : Type} (g : Nat → Nat → α) {f f' : Nat} (a a' : Nat) (v : α) (h : f' ≠ f) : u2 g f a v f' a' = g f' a' := by simp [u2, h]
theorem u2_a {α : Type} (g : Nat → Nat → α) (f f' : Nat) {a a' : Nat} (v : α) (h : a' ≠ a) : u2 g f a v f' a' = g f' a' := by simp [u2, h]
/-- a is a cell of kind k -/
def is (z : Sto) (a k : Nat) : Prop := a ∈ sL z ∧ sK z a = k
def fTy (ci : Nat) : List Nat := match ci with
  | 0 => [0, 2, 0]
  | 1 => [2, 0, 2]
  | 2 => [0, 0, 2, 0, 0, 0, 0, 0, 0, 2, 2, 2, 0, 0, 0, 1, 1]
  | 3 => [2, 2]
  | 4 => [2, 0, 0, 2]
  | 5 => [2, 2, 0, 0, 0, 0, 0, 0, 0]
  | 6 => [0, 0, 0, 0, 2, 2, 2, 2, 2, 2, 2, 2, 0, 2, 2, 2]
  | _ => []
def fV (z : Sto) (ci a k t : Nat) : Value := match t with
  | 0 => .int (sI z (32 * ci + k) a)
  | 1 => .long (sJ z (32 * ci + k) a)
  | _ => va_rf (sR z (32 * ci + k) a)
def fS (z : Sto) (ci a : Nat) : List Value := (fTy ci).mapIdx (fun k t => fV z ci a k t)
def ent (cy : Nat → ClassId) (z : Sto) (a : Nat) : va_E :=
  if sK z a < 7 then .inr (sK z a, fS z (sK z a) a) else if sK z a = 7 then .inl (cy 0, sN z a, .inl (sE z a)) else if sK z a = 8 then .inl (cy 1, sN z a, .inl (sE z a)) else if sK z a = 9 then .inl (cy 2, sN z a, .inr (.inr (.inr (.inr (sQ z a))))) else .inl (cy 3, sN z a, .inr (.inl (sF z a)))
theorem ent_o {cy : Nat → ClassId} {z : Sto} {a ci : Nat} (h : sK z a = ci) (hc : ci < 7) : ent cy z a = .inr (ci, fS z ci a) := by subst h; simp [ent, hc]
theorem ent_7 {cy : Nat → ClassId} {z : Sto} {a : Nat} (h : sK z a = 7) : ent cy z a = .inl (cy 0, sN z a, .inl (sE z a)) := by simp [ent, h]
theorem ent_8 {cy : Nat → ClassId} {z : Sto} {a : Nat} (h : sK z a = 8) : ent cy z a = .inl (cy 1, sN z a, .inl (sE z a)) := by simp [ent, h]
theorem ent_9 {cy : Nat → ClassId} {z : Sto} {a : Nat} (h : sK z a = 9) : ent cy z a = .inl (cy 2, sN z a, .inr (.inr (.inr (.inr (sQ z a))))) := by simp [ent, h]
theorem ent_10 {cy : Nat → ClassId} {z : Sto} {a : Nat} (h : sK z a = 10) : ent cy z a = .inl (cy 3, sN z a, .inr (.inl (sF z a))) := by simp [ent, h]
theorem fS_get {z : Sto} {ci a k t : Nat} (h : (fTy ci)[k]? = some t) : (fS z ci a)[k]? = some (fV z ci a k t) := by simp [fS, h]
theorem fS_len (z : Sto) (ci a : Nat) : (fS z ci a).length = (fTy ci).length := by simp [fS]
theorem fS_set {z z' : Sto} {ci a k t : Nat} (h : (fTy ci)[k]? = some t) {v : Value} (hv : fV z' ci a k t = v) (ho : ∀ j u, j ≠ k → fV z' ci a j u = fV z ci a j u) : (fS z ci a).set k v = fS z' ci a := by
  apply List.ext_getElem?
  intro j
  by_cases hj : j = k
  · subst hj
    have hl : j < (fS z ci a).length := by rw [fS_len]; exact (List.getElem?_eq_some_iff.mp h).1
    rw [List.getElem?_set_self hl, fS_get h, hv]
  · rw [List.getElem?_set_ne (Ne.symm hj)]
    simp only [fS, List.getElem?_mapIdx]
    cases (fTy ci)[j]? with
    | none => rfl
    | some u => simp [ho j u hj]
theorem fV_putI (z : Sto) (f b : Nat) (v : Int32) (ci a k t : Nat) (h : 32 * ci + k ≠ f ∨ a ≠ b ∨ t ≠ 0) : fV (putI z f b v) ci a k t = fV z ci a k t := by
  unfold fV
  split <;> first | rfl | (show Value.int (u2 (sI z) f b v _ _) = _; rcases h with h | h | h; exact congrArg Value.int (u2_f _ _ _ _ h); exact congrArg Value.int (u2_a _ _ _ _ h); exact absurd rfl h)
theorem fV_putJ (z : Sto) (f b : Nat) (v : Int64) (ci a k t : Nat) (h : 32 * ci + k ≠ f ∨ a ≠ b ∨ t ≠ 1) : fV (putJ z f b v) ci a k t = fV z ci a k t := by
  unfold fV
  split <;> first | rfl | (show Value.long (u2 (sJ z) f b v _ _) = _; rcases h with h | h | h; exact congrArg Value.long (u2_f _ _ _ _ h); exact congrArg Value.long (u2_a _ _ _ _ h); exact absurd rfl h)
theorem fV_putR (z : Sto) (f b : Nat) (v : Option Nat) (ci a k t : Nat) (h : 32 * ci + k ≠ f ∨ a ≠ b) : fV (putR z f b v) ci a k t = fV z ci a k t := by
  unfold fV
  split <;> first | rfl | (show va_rf (u2 (sR z) f b v _ _) = _; rcases h with h | h; exact congrArg va_rf (u2_f _ _ _ _ h); exact congrArg va_rf (u2_a _ _ _ _ h))
theorem fS_ext {z z' : Sto} {ci a : Nat} (h : ∀ k t, fV z' ci a k t = fV z ci a k t) : fS z' ci a = fS z ci a := by
  unfold fS
  congr 1
  funext k t
  exact h k t
/-- what a change of one cell is to the list of all -/
theorem ent_up {cy : Nat → ClassId} {z z' : Sto} {a : Nat} {x : va_E} (hx : ent cy z' a = x) (ho : ∀ b, b ≠ a → ent cy z' b = ent cy z b) : ∀ b, va_up (ent cy z) a x b = ent cy z' b := by
  intro b
  by_cases h : b = a
  · subst h
    rw [va_up_self, hx]
  · rw [va_up_ne _ _ h, ho b h]
theorem ent_ext {cy : Nat → ClassId} {z z' : Sto} {b : Nat} (hK : sK z' b = sK z b) (hN : sN z' b = sN z b) (hE : sE z' b = sE z b) (hF : sF z' b = sF z b) (hQ : sQ z' b = sQ z b) (hS : fS z' (sK z b) b = fS z (sK z b) b) : ent cy z' b = ent cy z b := by
  unfold ent
  rw [hK, hN, hE, hF, hQ, hS]
theorem ent_putI {cy : Nat → ClassId} (z : Sto) {a ci k : Nat} (v : Int32) (h : sK z a = ci) (hc : ci < 7) (ht : (fTy ci)[k]? = some 0) : ∀ b, va_up (ent cy z) a (.inr (ci, (fS z ci a).set k (.int v))) b = ent cy (putI z (32 * ci + k) a v) b := by
  refine ent_up ?_ (fun b hb => ent_ext rfl rfl rfl rfl rfl (fS_ext (fun k t => fV_putI _ _ _ _ _ _ _ _ (Or.inr (Or.inl hb)))))
  rw [ent_o (ci := ci) (show sK (putI z (32 * ci + k) a v) a = ci from h) hc]
  refine congrArg (fun l => Sum.inr (ci, l)) (Eq.symm (fS_set (t := 0) ht ?_ (fun j u hj => fV_putI _ _ _ _ _ _ _ _ (Or.inl (by omega)))))
  show Value.int (u2 (sI z) _ _ v _ _) = _
  rw [u2_same]
theorem ent_putJ {cy : Nat → ClassId} (z : Sto) {a ci k : Nat} (v : Int64) (h : sK z a = ci) (hc : ci < 7) (ht : (fTy ci)[k]? = some 1) : ∀ b, va_up (ent cy z) a (.inr (ci, (fS z ci a).set k (.long v))) b = ent cy (putJ z (32 * ci + k) a v) b := by
  refine ent_up ?_ (fun b hb => ent_ext rfl rfl rfl rfl rfl (fS_ext (fun k t => fV_putJ _ _ _ _ _ _ _ _ (Or.inr (Or.inl hb)))))
  rw [ent_o (ci := ci) (show sK (putJ z (32 * ci + k) a v) a = ci from h) hc]
  refine congrArg (fun l => Sum.inr (ci, l)) (Eq.symm (fS_set (t := 1) ht ?_ (fun j u hj => fV_putJ _ _ _ _ _ _ _ _ (Or.inl (by omega)))))
  show Value.long (u2 (sJ z) _ _ v _ _) = _
  rw [u2_same]
theorem ent_putR {cy : Nat → ClassId} (z : Sto) {a ci k : Nat} (v : Option Nat) (h : sK z a = ci) (hc : ci < 7) (ht : (fTy ci)[k]? = some 2) : ∀ b, va_up (ent cy z) a (.inr (ci, (fS z ci a).set k (va_rf v))) b = ent cy (putR z (32 * ci + k) a v) b := by
  refine ent_up ?_ (fun b hb => ent_ext rfl rfl rfl rfl rfl (fS_ext (fun k t => fV_putR _ _ _ _ _ _ _ _ (Or.inr hb))))
  rw [ent_o (ci := ci) (show sK (putR z (32 * ci + k) a v) a = ci from h) hc]
  refine congrArg (fun l => Sum.inr (ci, l)) (Eq.symm (fS_set (t := 2) ht ?_ (fun j u hj => fV_putR _ _ _ _ _ _ _ _ (Or.inl (by omega)))))
  show va_rf (u2 (sR z) _ _ v _ _) = _
  rw [u2_same]
theorem row_set {α : Type} (g : Nat → Nat → α) (a i : Nat) (v : α) : u2 g a i v a = va_up (g a) i v := by
  funext j
  by_cases h : j = i
  · subst h; rw [u2_same, va_up_self]
  · rw [u2_a _ _ _ _ h, va_up_ne _ _ h]
theorem row_other {α : Type} (g : Nat → Nat → α) {a b : Nat} (i : Nat) (v : α) (h : b ≠ a) : u2 g a i v b = g b := by
  funext j
  exact u2_f _ _ _ _ h
theorem ent_setE7 {cy : Nat → ClassId} (z : Sto) {a i : Nat} (v : Int32) (h : sK z a = 7) : ∀ b, va_up (ent cy z) a (.inl (cy 0, sN z a, .inl (va_up (sE z a) i v))) b = ent cy (setE z a i v) b := by
  refine ent_up ?_ (fun b hb => ent_ext rfl rfl (row_other _ _ _ hb) rfl rfl rfl)
  rw [ent_7 (show sK (setE z a i v) a = 7 from h)]
  show Sum.inl (cy 0, sN z a, Sum.inl (u2 (sE z) a i v a)) = _
  rw [row_set]
theorem ent_setE8 {cy : Nat → ClassId} (z : Sto) {a i : Nat} (v : Int32) (h : sK z a = 8) : ∀ b, va_up (ent cy z) a (.inl (cy 1, sN z a, .inl (va_up (sE z a) i v))) b = ent cy (setE z a i v) b := by
  refine ent_up ?_ (fun b hb => ent_ext rfl rfl (row_other _ _ _ hb) rfl rfl rfl)
  rw [ent_8 (show sK (setE z a i v) a = 8 from h)]
  show Sum.inl (cy 1, sN z a, Sum.inl (u2 (sE z) a i v a)) = _
  rw [row_set]
theorem ent_setF {cy : Nat → ClassId} (z : Sto) {a i : Nat} (v : Int64) (h : sK z a = 10) : ∀ b, va_up (ent cy z) a (.inl (cy 3, sN z a, .inr (.inl (va_up (sF z a) i v)))) b = ent cy (setF z a i v) b := by
  refine ent_up ?_ (fun b hb => ent_ext rfl rfl rfl (row_other _ _ _ hb) rfl rfl)
  rw [ent_10 (show sK (setF z a i v) a = 10 from h)]
  show Sum.inl (cy 3, sN z a, Sum.inr (Sum.inl (u2 (sF z) a i v a))) = _
  rw [row_set]
theorem ent_setQ {cy : Nat → ClassId} (z : Sto) {a i : Nat} (v : Option Nat) (h : sK z a = 9) : ∀ b, va_up (ent cy z) a (.inl (cy 2, sN z a, .inr (.inr (.inr (.inr (va_up (sQ z a) i v)))))) b = ent cy (setQ z a i v) b := by
  refine ent_up ?_ (fun b hb => ent_ext rfl rfl rfl rfl (row_other _ _ _ hb) rfl)
  rw [ent_9 (show sK (setQ z a i v) a = 9 from h)]
  show Sum.inl (cy 2, sN z a, Sum.inr (Sum.inr (Sum.inr (Sum.inr (u2 (sQ z) a i v a))))) = _
  rw [row_set]
/-- the fields of a new object -/
def f0 (ci : Nat) : List Value := (fTy ci).map (fun t => match t with | 0 => Value.int 0 | 1 => Value.long 0 | _ => Value.null)
theorem ent_newO {cy : Nat → ClassId} (z : Sto) {a ci : Nat} (hc : ci < 7) : ∀ b, va_up (ent cy z) a (.inr (ci, f0 ci)) b = ent cy (newO z a ci) b := by
  refine ent_up ?_ (fun b hb => ?_)
  · rw [ent_o (ci := ci) (show sK (newO z a ci) a = ci from va_up_self _ _ _) hc]
    refine congrArg (fun l => Sum.inr (ci, l)) ?_
    apply List.ext_getElem?
    intro j
    simp only [fS, f0, List.getElem?_mapIdx, List.getElem?_map]
    cases (fTy ci)[j]? with
    | none => rfl
    | some u =>
      simp only [Option.map_some, fV]
      split <;> simp [newO, sI, sJ, sR, c2, va_rf]
  · refine ent_ext (va_up_ne _ _ hb) rfl rfl rfl rfl (fS_ext (fun k t => ?_))
    unfold fV
    split <;> simp [newO, sI, sJ, sR, c2, hb]
theorem ent_newA {cy : Nat → ClassId} (z : Sto) {a k n : Nat} {f : Nat → Option Nat} {x : va_E} (hx : ent cy (newA z a k n f) a = x) : ∀ b, va_up (ent cy z) a x b = ent cy (newA z a k n f) b := by
  refine ent_up hx (fun b hb => ent_ext (va_up_ne _ _ hb) (va_up_ne _ _ hb) ?_ ?_ ?_ rfl)
  · funext j; simp [newA, sE, c1, hb]
  · funext j; simp [newA, sF, c1, hb]
  · funext j; simp [newA, sQ, c1, hb]
