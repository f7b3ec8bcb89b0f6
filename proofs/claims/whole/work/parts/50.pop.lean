/-! ===== bits of a long, and how many ===== -/
def tb (x : Int64) (b : Nat) : Bool := x.toBitVec.getLsbD b
theorem tb_ext {x y : Int64} (h : ∀ b, b < 64 → tb x b = tb y b) : x = y := Int64.toBitVec_inj.mp (BitVec.eq_of_getLsbD_eq (fun i hi => h i hi))
theorem tb_and (x y : Int64) (b : Nat) : tb (x &&& y) b = (tb x b && tb y b) := by unfold tb; rw [Int64.toBitVec_and, BitVec.getLsbD_and]
theorem tb_or (x y : Int64) (b : Nat) : tb (x ||| y) b = (tb x b || tb y b) := by unfold tb; rw [Int64.toBitVec_or, BitVec.getLsbD_or]
theorem tb_xor (x y : Int64) (b : Nat) : tb (x ^^^ y) b = (tb x b ^^ tb y b) := by unfold tb; rw [Int64.toBitVec_xor, BitVec.getLsbD_xor]
theorem tb_m1 : ∀ b, b < 64 → tb (-1) b = true := by decide +kernel
theorem tb_0 (b : Nat) : tb 0 b = false := BitVec.getLsbD_zero
theorem tb_lN (n : Nat) {b : Nat} (hb : b < 64) : tb (lN n) b = n.testBit b := by
  unfold tb
  rw [wb_tb, BitVec.getLsbD_ofNat]
  simp [hb]
theorem and256 {a b c d : Nat} (ha : a < 256) (hc : c < 256) : (a + 256 * b) &&& (c + 256 * d) = (a &&& c) + 256 * (b &&& d) := by
  have h1 : ((a + 256 * b) &&& (c + 256 * d)) % 2 ^ 8 = a &&& c := by
    rw [Nat.and_mod_two_pow, show (a + 256 * b) % 2 ^ 8 = a by omega, show (c + 256 * d) % 2 ^ 8 = c by omega]
  have h2 : ((a + 256 * b) &&& (c + 256 * d)) / 2 ^ 8 = b &&& d := by
    rw [Nat.and_div_two_pow, show (a + 256 * b) / 2 ^ 8 = b by omega, show (c + 256 * d) / 2 ^ 8 = d by omega]
  have := Nat.div_add_mod ((a + 256 * b) &&& (c + 256 * d)) (2 ^ 8)
  rw [h1, h2] at this
  omega
def m5 : Nat → Nat
  | 0 => 0
  | k + 1 => 85 + 256 * m5 k
def m3 : Nat → Nat
  | 0 => 0
  | k + 1 => 51 + 256 * m3 k
def m15 : Nat → Nat
  | 0 => 0
  | k + 1 => 15 + 256 * m15 k
def g1 (k n : Nat) : Nat := n - ((n / 2) &&& m5 k)
def g2 (k n : Nat) : Nat := (n &&& m3 k) + ((n / 4) &&& m3 k)
def g3 (k n : Nat) : Nat := (n + n / 16) &&& m15 k
def f1 (B : Nat) : Nat := B - ((B / 2) &&& 85)
def f2 (B : Nat) : Nat := (B &&& 51) + ((B / 4) &&& 51)
def f3 (B : Nat) : Nat := (B + B / 16) &&& 15
theorem f1_a : ∀ B, B < 256 → ∀ c, c < 2 → ((B / 2 + 128 * c) &&& 85) = ((B / 2) &&& 85) ∧ ((B / 2) &&& 85) ≤ B := by decide +kernel
theorem f2_a : ∀ B, B < 256 → ∀ c, c < 4 → ((B / 4 + 64 * c) &&& 51) = ((B / 4) &&& 51) ∧ f2 B < 256 := by decide +kernel
theorem f3_a : ∀ B, B < 256 → ∀ c, c < 5 → f2 (f1 B) + f2 (f1 B) / 16 + 16 * c < 256 ∧ ((f2 (f1 B) + f2 (f1 B) / 16 + 16 * c) &&& 15) = f3 (f2 (f1 B)) ∧ f2 (f1 B) % 16 < 5 := by decide +kernel
theorem f_pop : ∀ B, B < 256 → f3 (f2 (f1 B)) = cnt (fun b => B.testBit b) 8 := by decide +kernel
theorem g1_s (k B m : Nat) (hB : B < 256) (hm : ((m / 2) &&& m5 k) ≤ m) : g1 (k + 1) (B + 256 * m) = f1 B + 256 * g1 k m := by
  obtain ⟨e1, e2⟩ := f1_a B hB (m % 2) (by omega)
  unfold g1 f1
  have h1 : (B + 256 * m) / 2 = (B / 2 + 128 * (m % 2)) + 256 * (m / 2) := by omega
  show B + 256 * m - (((B + 256 * m) / 2) &&& (85 + 256 * m5 k)) = _
  rw [h1, and256 (by omega) (by decide), e1]
  omega
theorem g1_le : ∀ (k n : Nat), ((n / 2) &&& m5 k) ≤ n := by
  intro k n
  exact Nat.le_trans Nat.and_le_left (Nat.div_le_self _ _)
theorem g2_s (k B m : Nat) (hB : B < 256) : g2 (k + 1) (B + 256 * m) = f2 B + 256 * g2 k m := by
  obtain ⟨e1, e2⟩ := f2_a B hB (m % 4) (by omega)
  unfold g2 f2
  have h1 : (B + 256 * m) / 4 = (B / 4 + 64 * (m % 4)) + 256 * (m / 4) := by omega
  show ((B + 256 * m) &&& (51 + 256 * m3 k)) + (((B + 256 * m) / 4) &&& (51 + 256 * m3 k)) = _
  rw [h1, and256 hB (by decide), and256 (by omega) (by decide), e1]
  omega
theorem f1_lt : ∀ B, B < 256 → f1 B < 256 := by decide +kernel
/-- the bytes' counts -/
theorem pop_F : ∀ (k n : Nat), n < 256 ^ k → g2 k (g1 k n) % 16 < 5 ∧ ∃ c : Nat → Nat, (∀ i, c i ≤ 8) ∧ g3 k (g2 k (g1 k n)) = sumN (fun i => c i * 256 ^ i) k ∧ sumN c k = cnt (fun b => n.testBit b) (8 * k) := by
  intro k
  induction k with
  | zero =>
    intro n hn
    have : n = 0 := by simpa using hn
    subst this
    exact ⟨by decide, fun _ => 0, fun _ => Nat.zero_le _, by decide, by decide⟩
  | succ k ih =>
    intro n hn
    obtain ⟨B, m, hB, rfl⟩ : ∃ B m, B < 256 ∧ n = B + 256 * m := ⟨n % 256, n / 256, Nat.mod_lt _ (by decide), by omega⟩
    have hm : m < 256 ^ k := by rw [Nat.pow_succ] at hn; omega
    obtain ⟨i1, c, i2, i3, i4⟩ := ih m hm
    have e1 := g1_s k B m hB (g1_le k m)
    have hf1 := f1_lt B hB
    have e2 := g2_s k (f1 B) (g1 k m) hf1
    obtain ⟨a1, a2, a3⟩ := f3_a B hB (g2 k (g1 k m) % 16) i1
    obtain ⟨-, a4⟩ := f2_a (f1 B) hf1 0 (by decide)
    rw [e1, e2]
    refine ⟨by omega, fun i => match i with | 0 => f3 (f2 (f1 B)) | i + 1 => c i, fun i => ?_, ?_, ?_⟩
    · cases i with
      | zero =>
        show f3 (f2 (f1 B)) ≤ 8
        rw [f_pop B hB]
        exact cnt_le _ _
      | succ i => exact i2 i
    · have h1 : f2 (f1 B) + 256 * g2 k (g1 k m) + (f2 (f1 B) + 256 * g2 k (g1 k m)) / 16 = (f2 (f1 B) + f2 (f1 B) / 16 + 16 * (g2 k (g1 k m) % 16)) + 256 * (g2 k (g1 k m) + g2 k (g1 k m) / 16) := by omega
      show ((f2 (f1 B) + 256 * g2 k (g1 k m) + (f2 (f1 B) + 256 * g2 k (g1 k m)) / 16) &&& (15 + 256 * m15 k)) = _
      rw [h1, and256 a1 (by decide), a2]
      show f3 (f2 (f1 B)) + 256 * g3 k (g2 k (g1 k m)) = _
      rw [i3]
      clear i3 i4 ih hm e1 e2 h1 a1 a2 a3 a4 hf1 i1
      have gen : ∀ (x : Nat) (k : Nat), sumN (fun i => (match i with | 0 => x | i + 1 => c i) * 256 ^ i) (k + 1) = x + 256 * sumN (fun i => c i * 256 ^ i) k := by
        intro x k
        induction k with
        | zero => simp [sumN]
        | succ k ihk =>
          show sumN (fun i => (match i with | 0 => x | i + 1 => c i) * 256 ^ i) (k + 1) + c k * 256 ^ (k + 1) = x + 256 * (sumN (fun i => c i * 256 ^ i) k + c k * 256 ^ k)
          rw [ihk, Nat.pow_succ, Nat.mul_add, ← Nat.mul_assoc (c k), Nat.mul_comm (c k * 256 ^ k) 256]
          omega
      rw [gen]
    · have gen : ∀ (x : Nat) (k : Nat), sumN (fun i => (match i with | 0 => x | i + 1 => c i)) (k + 1) = x + sumN c k := by
        intro x k
        induction k with
        | zero => simp [sumN]
        | succ k ihk =>
          show sumN (fun i => (match i with | 0 => x | i + 1 => c i)) (k + 1) + c k = x + (sumN c k + c k)
          rw [ihk]; omega
      rw [gen, i4, f_pop B hB]
      have gb : ∀ j, cnt (fun b => (B + 256 * m).testBit b) (8 + j) = cnt (fun b => B.testBit b) 8 + cnt (fun b => m.testBit b) j := by
        intro j
        induction j with
        | zero =>
          refine cnt_congr (fun b hb => ?_)
          rw [Nat.testBit_eq_decide_div_mod_eq, Nat.testBit_eq_decide_div_mod_eq]
          refine decide_eq_decide.mpr ?_
          match b, hb with
          | 0, _ => omega
          | 1, _ => omega
          | 2, _ => omega
          | 3, _ => omega
          | 4, _ => omega
          | 5, _ => omega
          | 6, _ => omega
          | 7, _ => omega
        | succ j ihj =>
          show cnt (fun b => (B + 256 * m).testBit b) (8 + j) + (if (B + 256 * m).testBit (8 + j) then 1 else 0) = cnt (fun b => B.testBit b) 8 + (cnt (fun b => m.testBit b) j + (if m.testBit j then 1 else 0))
          have : (B + 256 * m).testBit (8 + j) = m.testBit j := by
            rw [Nat.add_comm 8 j, ← Nat.testBit_div_two_pow, show (B + 256 * m) / 2 ^ 8 = m by omega]
          rw [ihj, this]
          omega
      have := gb (8 * k)
      rw [show 8 + 8 * k = 8 * (k + 1) by omega] at this
      exact this.symm
theorem pop_end (n : Nat) (hn : n < 2 ^ 64) : (g3 8 (g2 8 (g1 8 n))) ≤ 578721382704613384 ∧ ∀ n3, n3 = g3 8 (g2 8 (g1 8 n)) → ∀ n4, n4 = n3 + n3 / 256 → ∀ n5, n5 = n4 + n4 / 65536 → ∀ n6, n6 = n5 + n5 / 4294967296 → n6 % 128 = cnt (fun b => n.testBit b) 64 := by
  obtain ⟨-, c, h1, h2, h3⟩ := pop_F 8 n (by rw [show 256 ^ 8 = 2 ^ 64 from by decide]; exact hn)
  rw [h2, ← h3]
  have a0 := h1 0
  have a1 := h1 1
  have a2 := h1 2
  have a3 := h1 3
  have a4 := h1 4
  have a5 := h1 5
  have a6 := h1 6
  have a7 := h1 7
  have e : sumN (fun i => c i * 256 ^ i) 8 = c 0 + 256 * c 1 + 65536 * c 2 + 16777216 * c 3 + 4294967296 * c 4 + 1099511627776 * c 5 + 281474976710656 * c 6 + 72057594037927936 * c 7 := by
    simp only [sumN]
    omega
  have e2 : sumN c 8 = c 0 + c 1 + c 2 + c 3 + c 4 + c 5 + c 6 + c 7 := by
    simp only [sumN]
    omega
  rw [e, e2]
  refine ⟨by omega, fun n3 h3 n4 h4 n5 h5 n6 h6 => ?_⟩
  have f4 : n4 = (c 0 + c 1) + 256 * (c 1 + c 2) + 65536 * (c 2 + c 3) + 16777216 * (c 3 + c 4) + 4294967296 * (c 4 + c 5) + 1099511627776 * (c 5 + c 6) + 281474976710656 * (c 6 + c 7) + 72057594037927936 * c 7 := by omega
  have f5 : n5 = (c 0 + c 1 + c 2 + c 3) + 256 * (c 1 + c 2 + c 3 + c 4) + 65536 * (c 2 + c 3 + c 4 + c 5) + 16777216 * (c 3 + c 4 + c 5 + c 6) + 4294967296 * (c 4 + c 5 + c 6 + c 7) + 1099511627776 * (c 5 + c 6 + c 7) + 281474976710656 * (c 6 + c 7) + 72057594037927936 * c 7 := by omega
  clear h3 h4 f4 e e2 h1 h2 h5
  have g5 : n5 / 4294967296 = (c 4 + c 5 + c 6 + c 7) + 256 * (c 5 + c 6 + c 7) + 65536 * (c 6 + c 7) + 16777216 * c 7 := by omega
  rw [g5] at h6
  clear g5
  omega
