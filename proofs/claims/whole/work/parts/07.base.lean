/-! ===== READING THE STORE ===== -/
theorem fit_rf (n : String) (r : Option Nat) : fits (.object n) (va_rf r) = true := by cases r <;> rfl
theorem fit_ra (t : FieldType) (r : Option Nat) : fits (.array t) (va_rf r) = true := by cases r <;> rfl
theorem nar_rf (n : String) (r : Option Nat) : narrow (.object n) (va_rf r) = va_rf r := by cases r <;> rfl
theorem nar_ra (t : FieldType) (r : Option Nat) : narrow (.array t) (va_rf r) = va_rf r := by cases r <;> rfl
section Read7
variable (z : Sto) (f a f' b k n i : Nat) (v : Int32) (x : Int64) (r : Option Nat) (q : Nat → Option Nat)
theorem I_pI : sI (putI z f a v) f' b = if f' = f ∧ b = a then v else sI z f' b := rfl
theorem I_pJ : sI (putJ z f a x) = sI z := rfl
theorem I_pR : sI (putR z f a r) = sI z := rfl
theorem I_sE : sI (setE z a i v) = sI z := rfl
theorem I_sF : sI (setF z a i x) = sI z := rfl
theorem I_sQ : sI (setQ z a i r) = sI z := rfl
theorem I_nO : sI (newO z a k) f b = if b = a then 0 else sI z f b := rfl
theorem I_nA : sI (newA z a k n q) = sI z := rfl
theorem J_pI : sJ (putI z f a v) = sJ z := rfl
theorem J_pJ : sJ (putJ z f a x) f' b = if f' = f ∧ b = a then x else sJ z f' b := rfl
theorem J_pR : sJ (putR z f a r) = sJ z := rfl
theorem J_sE : sJ (setE z a i v) = sJ z := rfl
theorem J_sF : sJ (setF z a i x) = sJ z := rfl
theorem J_sQ : sJ (setQ z a i r) = sJ z := rfl
theorem J_nO : sJ (newO z a k) f b = if b = a then 0 else sJ z f b := rfl
theorem J_nA : sJ (newA z a k n q) = sJ z := rfl
theorem R_pI : sR (putI z f a v) = sR z := rfl
theorem R_pJ : sR (putJ z f a x) = sR z := rfl
theorem R_pR : sR (putR z f a r) f' b = if f' = f ∧ b = a then r else sR z f' b := rfl
theorem R_sE : sR (setE z a i v) = sR z := rfl
theorem R_sF : sR (setF z a i x) = sR z := rfl
theorem R_sQ : sR (setQ z a i r) = sR z := rfl
theorem R_nO : sR (newO z a k) f b = if b = a then none else sR z f b := rfl
theorem R_nA : sR (newA z a k n q) = sR z := rfl
theorem K_pI : sK (putI z f a v) = sK z := rfl
theorem K_pJ : sK (putJ z f a x) = sK z := rfl
theorem K_pR : sK (putR z f a r) = sK z := rfl
theorem K_sE : sK (setE z a i v) = sK z := rfl
theorem K_sF : sK (setF z a i x) = sK z := rfl
theorem K_sQ : sK (setQ z a i r) = sK z := rfl
theorem L_pI : sL (putI z f a v) = sL z := rfl
theorem L_pJ : sL (putJ z f a x) = sL z := rfl
theorem L_pR : sL (putR z f a r) = sL z := rfl
theorem L_sE : sL (setE z a i v) = sL z := rfl
theorem L_sF : sL (setF z a i x) = sL z := rfl
theorem L_sQ : sL (setQ z a i r) = sL z := rfl
theorem N_pI : sN (putI z f a v) = sN z := rfl
theorem N_pJ : sN (putJ z f a x) = sN z := rfl
theorem N_pR : sN (putR z f a r) = sN z := rfl
theorem N_sE : sN (setE z a i v) = sN z := rfl
theorem N_sF : sN (setF z a i x) = sN z := rfl
theorem N_sQ : sN (setQ z a i r) = sN z := rfl
theorem N_nO : sN (newO z a k) = sN z := rfl
theorem N_nA : sN (newA z a k n q) b = if b = a then n else sN z b := rfl
theorem E_pI : sE (putI z f a v) = sE z := rfl
theorem E_pJ : sE (putJ z f a x) = sE z := rfl
theorem E_pR : sE (putR z f a r) = sE z := rfl
theorem E_sE : sE (setE z a i v) b n = if b = a ∧ n = i then v else sE z b n := rfl
theorem E_sF : sE (setF z a i x) = sE z := rfl
theorem E_sQ : sE (setQ z a i r) = sE z := rfl
theorem E_nO : sE (newO z a k) = sE z := rfl
theorem E_nA : sE (newA z a k n q) b i = if b = a then 0 else sE z b i := rfl
theorem F_pI : sF (putI z f a v) = sF z := rfl
theorem F_pJ : sF (putJ z f a x) = sF z := rfl
theorem F_pR : sF (putR z f a r) = sF z := rfl
theorem F_sE : sF (setE z a i v) = sF z := rfl
theorem F_sF : sF (setF z a i x) b n = if b = a ∧ n = i then x else sF z b n := rfl
theorem F_sQ : sF (setQ z a i r) = sF z := rfl
theorem F_nO : sF (newO z a k) = sF z := rfl
theorem F_nA : sF (newA z a k n q) b i = if b = a then 0 else sF z b i := rfl
theorem Q_pI : sQ (putI z f a v) = sQ z := rfl
theorem Q_pJ : sQ (putJ z f a x) = sQ z := rfl
theorem Q_pR : sQ (putR z f a r) = sQ z := rfl
theorem Q_sE : sQ (setE z a i v) = sQ z := rfl
theorem Q_sF : sQ (setF z a i x) = sQ z := rfl
theorem Q_sQ : sQ (setQ z a i r) b n = if b = a ∧ n = i then r else sQ z b n := rfl
theorem Q_nO : sQ (newO z a k) = sQ z := rfl
theorem Q_nA : sQ (newA z a k n q) b i = if b = a then q i else sQ z b i := rfl
end Read7
theorem is_newO {z : Sto} {a k b j : Nat} (h : is z b j) (ha : a ∉ sL z) : is (newO z a k) b j := by
  have hb : b ≠ a := fun e => ha (e ▸ h.1)
  exact ⟨List.mem_append_left _ h.1, (va_up_ne _ _ hb).trans h.2⟩
theorem is_newO_self (z : Sto) (a k : Nat) : is (newO z a k) a k := ⟨List.mem_append_right _ List.mem_cons_self, va_up_self _ _ _⟩
theorem is_newA {z : Sto} {a k n b j : Nat} {q : Nat → Option Nat} (h : is z b j) (ha : a ∉ sL z) : is (newA z a k n q) b j := by
  have hb : b ≠ a := fun e => ha (e ▸ h.1)
  exact ⟨List.mem_append_left _ h.1, (va_up_ne _ _ hb).trans h.2⟩
theorem is_newA_self (z : Sto) (a k n : Nat) (q : Nat → Option Nat) : is (newA z a k n q) a k := ⟨List.mem_append_right _ List.mem_cons_self, va_up_self _ _ _⟩
theorem is_ne {z : Sto} {a b j k : Nat} (h1 : is z a j) (h2 : is z b k) (h : j ≠ k) : a ≠ b := fun e => h (by rw [← h1.2, ← h2.2, e])
/-- a truth value as an int -/
def bI (b : Bool) : Int32 := if b then 1 else 0
theorem bI_t : bI true = 1 := rfl
theorem bI_f : bI false = 0 := rfl
theorem bI_nar (b : Bool) : narrow .boolean (.int (bI b)) = .int (bI b) := by cases b <;> rfl
theorem bI_0 (b : Bool) : bI b = 0 ↔ b = false := by cases b <;> simp [bI]
theorem fd0 : ∀ j, j < 3 → defaultValue (tyJx4a65c j) = vp_V (f0 0) j := by
  intro j hj
  match j, hj with
  | 0, _ => rfl
  | 1, _ => rfl
  | 2, _ => rfl
  | j + 3, h => exact absurd h (by omega)
theorem fd1 : ∀ j, j < 3 → defaultValue (tyX0 j) = vp_V (f0 1) j := by
  intro j hj
  match j, hj with
  | 0, _ => rfl
  | 1, _ => rfl
  | 2, _ => rfl
  | j + 3, h => exact absurd h (by omega)
theorem fd2 : ∀ j, j < 17 → defaultValue (tyX1 j) = vp_V (f0 2) j := by
  intro j hj
  match j, hj with
  | 0, _ => rfl
  | 1, _ => rfl
  | 2, _ => rfl
  | 3, _ => rfl
  | 4, _ => rfl
  | 5, _ => rfl
  | 6, _ => rfl
  | 7, _ => rfl
  | 8, _ => rfl
  | 9, _ => rfl
  | 10, _ => rfl
  | 11, _ => rfl
  | 12, _ => rfl
  | 13, _ => rfl
  | 14, _ => rfl
  | 15, _ => rfl
  | 16, _ => rfl
  | j + 17, h => exact absurd h (by omega)
theorem fd3 : ∀ j, j < 2 → defaultValue (tyX2 j) = vp_V (f0 3) j := by
  intro j hj
  match j, hj with
  | 0, _ => rfl
  | 1, _ => rfl
  | j + 2, h => exact absurd h (by omega)
theorem fd4 : ∀ j, j < 4 → defaultValue (tyX3 j) = vp_V (f0 4) j := by
  intro j hj
  match j, hj with
  | 0, _ => rfl
  | 1, _ => rfl
  | 2, _ => rfl
  | 3, _ => rfl
  | j + 4, h => exact absurd h (by omega)
theorem fd5 : ∀ j, j < 9 → defaultValue (tyX4 j) = vp_V (f0 5) j := by
  intro j hj
  match j, hj with
  | 0, _ => rfl
  | 1, _ => rfl
  | 2, _ => rfl
  | 3, _ => rfl
  | 4, _ => rfl
  | 5, _ => rfl
  | 6, _ => rfl
  | 7, _ => rfl
  | 8, _ => rfl
  | j + 9, h => exact absurd h (by omega)
theorem fd6 : ∀ j, j < 16 → defaultValue (tyX5 j) = vp_V (f0 6) j := by
  intro j hj
  match j, hj with
  | 0, _ => rfl
  | 1, _ => rfl
  | 2, _ => rfl
  | 3, _ => rfl
  | 4, _ => rfl
  | 5, _ => rfl
  | 6, _ => rfl
  | 7, _ => rfl
  | 8, _ => rfl
  | 9, _ => rfl
  | 10, _ => rfl
  | 11, _ => rfl
  | 12, _ => rfl
  | 13, _ => rfl
  | 14, _ => rfl
  | 15, _ => rfl
  | j + 16, h => exact absurd h (by omega)
theorem bool_nar {x : Int32} (h : x = 0 ∨ x = 1) : narrow .boolean (.int x) = .int x := by rcases h with rfl | rfl <;> rfl
theorem bool_fit {x : Int32} (h : x = 0 ∨ x = 1) : fits .boolean (.int x) = true := by rcases h with rfl | rfl <;> rfl
theorem bI_fit (b : Bool) : fits .boolean (.int (bI b)) = true := by cases b <;> rfl
theorem cat_ref (a : Nat) : (Value.ref a).category = 1 := rfl
theorem cat_null : Value.null.category = 1 := rfl
theorem cat_int (x : Int32) : (Value.int x).category = 1 := rfl
theorem cat_long (x : Int64) : (Value.long x).category = 2 := rfl
section Wrap7
variable {z : Sto} {f a f' b k n i : Nat} {v : Int32} {x : Int64} {r : Option Nat}
theorem is_I (h : is z b k) : is (putI z f a v) b k := h
theorem is_J (h : is z b k) : is (putJ z f a x) b k := h
theorem is_R (h : is z b k) : is (putR z f a r) b k := h
theorem is_E (h : is z b k) : is (setE z a i v) b k := h
theorem is_F (h : is z b k) : is (setF z a i x) b k := h
theorem is_Q (h : is z b k) : is (setQ z a i r) b k := h
theorem rI_If {y : Int32} (hn : f' ≠ f) (h : sI z f' b = y) : sI (putI z f a v) f' b = y := (u2_f _ _ _ _ hn).trans h
theorem rI_Ia {y : Int32} (hn : b ≠ a) (h : sI z f' b = y) : sI (putI z f a v) f' b = y := (u2_a _ _ _ _ hn).trans h
theorem rI_Is : sI (putI z f a v) f a = v := u2_same _ _ _ _
theorem rI_J {y : Int32} (h : sI z f' b = y) : sI (putJ z f a x) f' b = y := h
theorem rI_R {y : Int32} (h : sI z f' b = y) : sI (putR z f a r) f' b = y := h
theorem rI_E {y : Int32} (h : sI z f' b = y) : sI (setE z a i v) f' b = y := h
theorem rI_F {y : Int32} (h : sI z f' b = y) : sI (setF z a i x) f' b = y := h
theorem rI_Q {y : Int32} (h : sI z f' b = y) : sI (setQ z a i r) f' b = y := h
theorem rJ_I {y : Int64} (h : sJ z f' b = y) : sJ (putI z f a v) f' b = y := h
theorem rJ_Jf {y : Int64} (hn : f' ≠ f) (h : sJ z f' b = y) : sJ (putJ z f a x) f' b = y := (u2_f _ _ _ _ hn).trans h
theorem rJ_Ja {y : Int64} (hn : b ≠ a) (h : sJ z f' b = y) : sJ (putJ z f a x) f' b = y := (u2_a _ _ _ _ hn).trans h
theorem rJ_Js : sJ (putJ z f a x) f a = x := u2_same _ _ _ _
theorem rJ_R {y : Int64} (h : sJ z f' b = y) : sJ (putR z f a r) f' b = y := h
theorem rJ_E {y : Int64} (h : sJ z f' b = y) : sJ (setE z a i v) f' b = y := h
theorem rJ_F {y : Int64} (h : sJ z f' b = y) : sJ (setF z a i x) f' b = y := h
theorem rJ_Q {y : Int64} (h : sJ z f' b = y) : sJ (setQ z a i r) f' b = y := h
theorem rR_I {y : Option Nat} (h : sR z f' b = y) : sR (putI z f a v) f' b = y := h
theorem rR_J {y : Option Nat} (h : sR z f' b = y) : sR (putJ z f a x) f' b = y := h
theorem rR_Rf {y : Option Nat} (hn : f' ≠ f) (h : sR z f' b = y) : sR (putR z f a r) f' b = y := (u2_f _ _ _ _ hn).trans h
theorem rR_Ra {y : Option Nat} (hn : b ≠ a) (h : sR z f' b = y) : sR (putR z f a r) f' b = y := (u2_a _ _ _ _ hn).trans h
theorem rR_Rs : sR (putR z f a r) f a = r := u2_same _ _ _ _
theorem rR_E {y : Option Nat} (h : sR z f' b = y) : sR (setE z a i v) f' b = y := h
theorem rR_F {y : Option Nat} (h : sR z f' b = y) : sR (setF z a i x) f' b = y := h
theorem rR_Q {y : Option Nat} (h : sR z f' b = y) : sR (setQ z a i r) f' b = y := h
end Wrap7
