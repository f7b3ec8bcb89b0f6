/-! ===== the store of enter, read ===== -/
theorem enS_is {z : Sto} {pt g b k : Nat} {cf : Option Nat} (h : is z b k) : is (enS z pt g cf) b k := by
  unfold enS
  exact is_R (is_R (is_I (is_I (is_R (is_R (is_I (is_I (is_I h))))))))
theorem enS_I {z : Sto} {pt g f b : Nat} {cf : Option Nat} (h : f ≠ 71 ∧ f ≠ 72 ∧ f ≠ 130 ∧ f ≠ 76 ∧ f ≠ 77) : sI (enS z pt g cf) f b = sI z f b := by
  unfold enS
  exact rI_R (rI_R (rI_If h.2.2.2.1 (rI_If h.2.2.2.2 (rI_R (rI_R (rI_If h.2.2.1 (rI_If h.2.1 (rI_If h.1 rfl))))))))
theorem enS_R {z : Sto} {pt g f b : Nat} {cf : Option Nat} (h : f ≠ 73 ∧ f ≠ 74 ∧ f ≠ 75 ∧ f ≠ 131) : sR (enS z pt g cf) f b = sR z f b := by
  unfold enS
  exact rR_Rf h.2.2.2 (rR_Rf h.2.2.1 (rR_I (rR_I (rR_Rf h.2.1 (rR_Rf h.1 (rR_I (rR_I (rR_I rfl))))))))
theorem enS_71 (z : Sto) (pt g b : Nat) (cf : Option Nat) : sI (enS z pt g cf) 71 b = if b = g then sI z 130 pt else sI z 71 b := by
  unfold enS
  by_cases h : b = g
  · rw [if_pos h, I_pR, I_pR, I_pI, if_neg (fun h9 => absurd h9.1 (by decide)), I_pI, if_neg (fun h9 => absurd h9.1 (by decide)), I_pR, I_pR, I_pI, if_neg (fun h9 => absurd h9.1 (by decide)), I_pI, if_neg (fun h9 => absurd h9.1 (by decide)), I_pI, if_pos ⟨rfl, h⟩]
  · rw [if_neg h, I_pR, I_pR, I_pI, if_neg (fun h9 => absurd h9.1 (by decide)), I_pI, if_neg (fun h9 => absurd h9.1 (by decide)), I_pR, I_pR, I_pI, if_neg (fun h9 => absurd h9.1 (by decide)), I_pI, if_neg (fun h9 => absurd h9.1 (by decide)), I_pI, if_neg (fun h9 => h h9.2)]
theorem enS_72 (z : Sto) (pt g b : Nat) (cf : Option Nat) : sI (enS z pt g cf) 72 b = if b = g then sI z 130 pt else sI z 72 b := by
  unfold enS
  by_cases h : b = g
  · rw [if_pos h, I_pR, I_pR, I_pI, if_neg (fun h9 => absurd h9.1 (by decide)), I_pI, if_neg (fun h9 => absurd h9.1 (by decide)), I_pR, I_pR, I_pI, if_neg (fun h9 => absurd h9.1 (by decide)), I_pI, if_pos ⟨rfl, h⟩]
  · rw [if_neg h, I_pR, I_pR, I_pI, if_neg (fun h9 => absurd h9.1 (by decide)), I_pI, if_neg (fun h9 => absurd h9.1 (by decide)), I_pR, I_pR, I_pI, if_neg (fun h9 => absurd h9.1 (by decide)), I_pI, if_neg (fun h9 => h h9.2), I_pI, if_neg (fun h9 => absurd h9.1 (by decide))]
theorem enS_76 (z : Sto) (pt g b : Nat) (cf : Option Nat) : sI (enS z pt g cf) 76 b = if b = g then 1 else sI z 76 b := by
  unfold enS
  by_cases h : b = g
  · rw [if_pos h, I_pR, I_pR, I_pI, if_pos ⟨rfl, h⟩]
  · rw [if_neg h, I_pR, I_pR, I_pI, if_neg (fun h9 => h h9.2), I_pI, if_neg (fun h9 => absurd h9.1 (by decide)), I_pR, I_pR, I_pI, if_neg (fun h9 => absurd h9.1 (by decide)), I_pI, if_neg (fun h9 => absurd h9.1 (by decide)), I_pI, if_neg (fun h9 => absurd h9.1 (by decide))]
theorem enS_77 (z : Sto) (pt g b : Nat) (cf : Option Nat) : sI (enS z pt g cf) 77 b = if b = g then 0 else sI z 77 b := by
  unfold enS
  by_cases h : b = g
  · rw [if_pos h, I_pR, I_pR, I_pI, if_neg (fun h9 => absurd h9.1 (by decide)), I_pI, if_pos ⟨rfl, h⟩]
  · rw [if_neg h, I_pR, I_pR, I_pI, if_neg (fun h9 => absurd h9.1 (by decide)), I_pI, if_neg (fun h9 => h h9.2), I_pR, I_pR, I_pI, if_neg (fun h9 => absurd h9.1 (by decide)), I_pI, if_neg (fun h9 => absurd h9.1 (by decide)), I_pI, if_neg (fun h9 => absurd h9.1 (by decide))]
theorem enS_130 (z : Sto) (pt g : Nat) (cf : Option Nat) : sI (enS z pt g cf) 130 pt = sI z 130 pt + 1 := by
  unfold enS
  rw [I_pR, I_pR, I_pI, if_neg (fun h9 => absurd h9.1 (by decide)), I_pI, if_neg (fun h9 => absurd h9.1 (by decide)), I_pR, I_pR, I_pI, if_pos ⟨rfl, rfl⟩]
theorem enS_73 (z : Sto) (pt g b : Nat) (cf : Option Nat) : sR (enS z pt g cf) 73 b = if b = g then (if isLog (sI z 65 g) then sR z 66 g else none) else sR z 73 b := by
  unfold enS
  by_cases h : b = g
  · rw [if_pos h, R_pR, if_neg (fun h9 => absurd h9.1 (by decide)), R_pR, if_neg (fun h9 => absurd h9.1 (by decide)), R_pI, R_pI, R_pR, if_neg (fun h9 => absurd h9.1 (by decide)), R_pR, if_pos ⟨rfl, h⟩]
  · rw [if_neg h, R_pR, if_neg (fun h9 => absurd h9.1 (by decide)), R_pR, if_neg (fun h9 => absurd h9.1 (by decide)), R_pI, R_pI, R_pR, if_neg (fun h9 => absurd h9.1 (by decide)), R_pR, if_neg (fun h9 => h h9.2), R_pI, R_pI, R_pI]
theorem enS_74 (z : Sto) (pt g b : Nat) (cf : Option Nat) : sR (enS z pt g cf) 74 b = if b = g then cf else sR z 74 b := by
  unfold enS
  by_cases h : b = g
  · rw [if_pos h, R_pR, if_neg (fun h9 => absurd h9.1 (by decide)), R_pR, if_neg (fun h9 => absurd h9.1 (by decide)), R_pI, R_pI, R_pR, if_pos ⟨rfl, h⟩]
  · rw [if_neg h, R_pR, if_neg (fun h9 => absurd h9.1 (by decide)), R_pR, if_neg (fun h9 => absurd h9.1 (by decide)), R_pI, R_pI, R_pR, if_neg (fun h9 => h h9.2), R_pR, if_neg (fun h9 => absurd h9.1 (by decide)), R_pI, R_pI, R_pI]
theorem enS_75 (z : Sto) (pt g b : Nat) (cf : Option Nat) : sR (enS z pt g cf) 75 b = if b = g then sR z 131 pt else sR z 75 b := by
  unfold enS
  by_cases h : b = g
  · rw [if_pos h, R_pR, if_neg (fun h9 => absurd h9.1 (by decide)), R_pR, if_pos ⟨rfl, h⟩]
  · rw [if_neg h, R_pR, if_neg (fun h9 => absurd h9.1 (by decide)), R_pR, if_neg (fun h9 => h h9.2), R_pI, R_pI, R_pR, if_neg (fun h9 => absurd h9.1 (by decide)), R_pR, if_neg (fun h9 => absurd h9.1 (by decide)), R_pI, R_pI, R_pI]
theorem enS_131 (z : Sto) (pt g : Nat) (cf : Option Nat) : sR (enS z pt g cf) 131 pt = some g := by
  unfold enS
  rw [R_pR, if_pos ⟨rfl, rfl⟩]
