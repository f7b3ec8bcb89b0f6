/-! ===== TernaryNet: gate, <init>, count ===== -/
def nGate (N : NT) (s : Int32) : NT := (nN N + 1, va_up (nSo N) (nN N) s, va_up (nHd N) (nN N) (if s = 0 then 2 else 0), nFL N)
def nFull (N : NT) (s : Int32) : Prop := 600 ≤ nN N ∨ (s = 0 ∧ 12 ≤ cnt (fun i => decide (nSo N i = 0)) (nN N))
/-- a new gate's fields -/
def gtS (z : Sto) (q : Nat) (m s : Int32) : Sto := putI (putI (putI (putI (putJ (putJ (putI (putI (putI (putR (putR (putR (putI (putI (putI (putI (putR (newO z q 2) 66 q none) 67 q 0) 70 q (-1)) 71 q (-1)) 72 q (-1)) 73 q none) 74 q none) 75 q none) 76 q 0) 77 q 0) 78 q (-1)) 79 q 0) 80 q 0) 64 q m) 65 q s) 68 q (if s = 1 then 0 else 2)) 69 q (if s = 1 then 0 else 2)
theorem gtS_o {z : Sto} {q : Nat} (hq : q ∉ sL z) (m s : Int32) : oF z (gtS z q m s) := (oF_I (oF_I (oF_I (oF_I (oF_J (oF_J (oF_I (oF_I (oF_I (oF_R (oF_R (oF_R (oF_I (oF_I (oF_I (oF_I (oF_R (oF_new (k := 2) hq) hq) hq) hq) hq) hq) hq) hq) hq) hq) hq) hq) hq) hq) hq) hq) hq) hq)
theorem gtS_q (z : Sto) (q : Nat) (m s : Int32) : is (gtS z q m s) q 2 ∧ sI (gtS z q m s) 64 q = m ∧ sI (gtS z q m s) 65 q = s ∧ sR (gtS z q m s) 66 q = none ∧ sI (gtS z q m s) 67 q = 0 ∧ sI (gtS z q m s) 68 q = (if s = 1 then 0 else 2) :=
  ⟨is_newO_self z q 2, (rI_If (by decide) (rI_If (by decide) (rI_If (by decide) rI_Is))), (rI_If (by decide) (rI_If (by decide) rI_Is)), (rR_I (rR_I (rR_I (rR_I (rR_J (rR_J (rR_I (rR_I (rR_I (rR_Rf (by decide) (rR_Rf (by decide) (rR_Rf (by decide) (rR_I (rR_I (rR_I (rR_I rR_Rs)))))))))))))))), (rI_If (by decide) (rI_If (by decide) (rI_If (by decide) (rI_If (by decide) (rI_J (rI_J (rI_If (by decide) (rI_If (by decide) (rI_If (by decide) (rI_R (rI_R (rI_R (rI_If (by decide) (rI_If (by decide) (rI_If (by decide) rI_Is))))))))))))))), (rI_If (by decide) rI_Is)⟩
theorem nFd_out {N : NT} (hO : nOK N) {j : Nat} (hj : nN N ≤ j) : nFd N j = [] := by
  unfold nFd
  have : (nFL N).filter (fun t => decide (t.1 = j)) = [] := List.filter_eq_nil_iff.mpr (fun t ht => by
    have := (hO.2.2.1 t ht).1
    rw [decide_eq_false (by omega)]; decide)
  rw [this]; rfl
theorem nFd_gate (N : NT) (s : Int32) (j : Nat) : nFd (nGate N s) j = nFd N j := rfl
theorem cnt_up (P : Nat → Bool) (n : Nat) (b : Bool) : cnt (fun i => va_up P n b i) (n + 1) = cnt P n + (if b then 1 else 0) := by
  show cnt (fun i => va_up P n b i) n + (if va_up P n b n then 1 else 0) = _
  rw [va_up_self, cnt_congr (P := fun i => va_up P n b i) (Q := P) (fun i hi => va_up_ne _ _ (by omega))]
theorem cnt_so (N : NT) (s c : Int32) : cnt (fun i => decide (nSo (nGate N s) i = c)) (nN N + 1) = cnt (fun i => decide (nSo N i = c)) (nN N) + (if s = c then 1 else 0) := by
  have : (fun i => decide (nSo (nGate N s) i = c)) = fun i => va_up (fun i => decide (nSo N i = c)) (nN N) (decide (s = c)) i := by
    funext i
    show decide (va_up (nSo N) (nN N) s i = c) = _
    by_cases h : i = nN N
    · rw [h, va_up_self, va_up_self]
    · rw [va_up_ne _ _ h, va_up_ne _ _ h]
  rw [this, cnt_up]
  by_cases h : s = c <;> simp [h]
theorem nOK_gate {N : NT} (hO : nOK N) {s : Int32} (hs : s = 0 ∨ s = 1 ∨ s = 2 ∨ s = 3) (hf : ¬ nFull N s) : nOK (nGate N s) := by
  have hO' := hO
  obtain ⟨a1, a2, a3, a4, a5, a6, a7, a8⟩ := hO
  have hn : nN N < 600 := by unfold nFull at hf; omega
  have so_n : nSo (nGate N s) (nN N) = s := va_up_self _ _ _
  have so_o : ∀ i, i ≠ nN N → nSo (nGate N s) i = nSo N i := fun i hi => va_up_ne _ _ hi
  have hd_n : nHd (nGate N s) (nN N) = (if s = 0 then 2 else 0) := va_up_self _ _ _
  have hd_o : ∀ i, i ≠ nN N → nHd (nGate N s) i = nHd N i := fun i hi => va_up_ne _ _ hi
  have lt : ∀ i, i < nN (nGate N s) → i ≠ nN N → i < nN N := fun i hi hne => by have : i < nN N + 1 := hi; omega
  refine ⟨(by show nN N + 1 ≤ 600; omega), a2, fun t ht => ?_, fun i hi => ?_, fun i hi => ?_, ?_, fun i hi hs1 => ?_, fun i hi hs1 => ?_⟩
  · obtain ⟨t1, t2, t3⟩ := a3 t ht
    exact ⟨Nat.lt_succ_of_lt t1, Nat.lt_succ_of_lt t2, t3⟩
  · by_cases h : i = nN N
    · rw [h, so_n]; exact hs
    · rw [so_o i h]; exact a4 i (lt i hi h)
  · by_cases h : i = nN N
    · rw [h, hd_n, so_n]
      by_cases h0 : s = 0
      · rw [if_pos h0]; exact ⟨Or.inr (Or.inr rfl), fun q => by rw [h0] at q; exact absurd q (by decide)⟩
      · rw [if_neg h0]; exact ⟨Or.inl rfl, fun _ => Or.inl rfl⟩
    · rw [so_o i h, hd_o i h]; exact a5 i (lt i hi h)
  · show cnt (fun i => decide (nSo (nGate N s) i = 0)) (nN N + 1) ≤ 12
    rw [cnt_so]
    unfold nFull at hf
    by_cases h0 : s = 0
    · rw [if_pos h0]
      have : ¬ 12 ≤ cnt (fun i => decide (nSo N i = 0)) (nN N) := fun q => hf (Or.inr ⟨h0, q⟩)
      omega
    · rw [if_neg h0]; exact a6
  · rw [nFd_gate]
    by_cases h : i = nN N
    · rw [h, nFd_out hO' (Nat.le_refl _)]; exact Nat.zero_le _
    · rw [so_o i h] at hs1; exact a7 i (lt i hi h) hs1
  · rw [nFd_gate]
    by_cases h : i = nN N
    · rw [h, nFd_out hO' (Nat.le_refl _)]
    · rw [so_o i h] at hs1; exact a8 i (lt i hi h) hs1
def pCt (f : Nat) : Bool := decide (f = 163) || decide (f = 164)
theorem netI_gate {G : Gx} {z z2 z3 z4 : Sto} {x gl pt ol q cap' : Nat} {ga : Nat → Nat} {N : NT} {s : Int32} (h : netI G z x gl pt ol ga N) (hs : s = 0 ∨ s = 1 ∨ s = 2 ∨ s = 3) (hf : ¬ nFull N s) (hq : q ∉ sL z) (hz2 : z2 = gtS z q (nI (nN N)) s) (hA : adF z2 z3 gl) (hl : lst G z3 gl (nN N + 1) (va_up ga (nN N) q) cap') (hc' : cap' ≤ 900) (hE : ∀ b, b ∈ sL z3 → b ≠ G.2.2.2 0) (hF : iF pCt z3 z4)
    (h163 : sI z4 163 x = nI (cnt (fun i => decide (nSo (nGate N s) i = 0)) (nN N + 1))) (h164 : sI z4 164 x = nI (cnt (fun i => decide (nSo (nGate N s) i = 1)) (nN N + 1))) :
    netI G (putI (putI z4 167 x 1) 168 x 1) x gl pt ol (va_up ga (nN N) q) (nGate N s) ∧ kfr z (putI (putI z4 167 x 1) 168 x 1) := by
  obtain ⟨hO, ⟨⟨a1, a2, a3⟩, ⟨b1, b2, b3⟩, ⟨cg, c1, c2⟩, ⟨no, fo, cap, d1, d2⟩, e1, e2, f1, f2, f3⟩, -, -⟩ := h
  have oA : oF z z2 := by rw [hz2]; exact gtS_o hq _ _
  obtain ⟨q1, q64, q65, q66, q67, q68⟩ : is z2 q 2 ∧ sI z2 64 q = nI (nN N) ∧ sI z2 65 q = s ∧ sR z2 66 q = none ∧ sI z2 67 q = 0 ∧ sI z2 68 q = (if s = 1 then 0 else 2) := by rw [hz2]; exact gtS_q z q _ _
  obtain ⟨z5, h5⟩ : ∃ z5, z5 = putI (putI z4 167 x 1) 168 x 1 := ⟨_, rfl⟩
  rw [← h5]
  have I5 : ∀ f b, f ≠ 163 → f ≠ 164 → f ≠ 167 → f ≠ 168 → sI z5 f b = sI z3 f b := fun f b k1 k2 k3 k4 => by
    rw [h5]
    refine rI_If k4 (rI_If k3 (hF.2 f b ?_))
    unfold pCt
    simp [k1, k2]
  have R5 : ∀ f b, sR z5 f b = sR z3 f b := fun f b => by rw [h5]; exact hF.R f b
  have is5 : ∀ b k, is z3 b k → is z5 b k := fun b k hb => by rw [h5]; exact hF.is hb
  obtain ⟨ad1, ad2, ad3, ad4, ad5, ad6, ad7⟩ := id hA
  have I2 : ∀ f b, f ≠ 0 → f ≠ 2 → f ≠ 163 → f ≠ 164 → f ≠ 167 → f ≠ 168 → sI z5 f b = sI z2 f b := fun f b k0 k2 k3 k4 k5 k6 => (I5 f b k3 k4 k5 k6).trans (ad2 f b (Or.inl ⟨k0, k2⟩))
  have R2 : ∀ f b, f ≠ 1 → sR z5 f b = sR z2 f b := fun f b k1 => (R5 f b).trans (ad4 f b (Or.inl k1))
  have is2 : ∀ b k, is z2 b k → is z5 b k := fun b k hb => is5 b k (ad1 b k hb)
  have his : ∀ b k, is z b k → is z5 b k := fun b k hb => is2 b k (oA.1 b k hb)
  have hch : ∀ {L : List (Nat × Int32)} {r : Option Nat}, chn z r L → chn z5 r L := fun hc => chn_ext is2 (fun b => R2 32 b (by decide)) (fun b => I2 33 b (by decide) (by decide) (by decide) (by decide) (by decide) (by decide)) (fun b => R2 34 b (by decide)) (oA.chn hc)
  have gin : ∀ j, j < nN N → ga j ∈ sL z := fun j hj => (e1.1 j hj).1.1
  have gq : ∀ j, j < nN N → ga j ≠ q := fun j hj e9 => hq (e9 ▸ gin j hj)
  have gao : ∀ j, j ≠ nN N → va_up ga (nN N) q j = ga j := fun j hj => va_up_ne _ _ hj
  have gan : va_up ga (nN N) q (nN N) = q := va_up_self _ _ _
  have r2 : rsep z2 gl ol := ⟨b3.1, fun d hd hi => by
    rw [(oA.2.1 1 gl c1.1.1).2.2] at hd
    rw [(oA.2.1 1 ol d1.1.1).2.2]
    refine b3.2 d hd ?_
    rcases c1.2.2.2.2 with ⟨-, w1⟩ | ⟨-, d9, w1, w2, -⟩
    · exact absurd (Option.some.inj (hd.symm.trans w1)) (hE d (ad1 _ _ hi).1)
    · cases hd.symm.trans w1; exact w2⟩
  have lol : lst G z5 ol no fo cap := by
    have l2 := oA.lst d1
    have l3 : lst G z3 ol no fo cap := lst_ext l2 ad1 (ad2 2 ol (Or.inr (fun e9 => b3.1 e9.symm))) (ad4 1 ol (Or.inr (fun e9 => b3.1 e9.symm))) (fun d hd hi => ⟨(ad5 d hi.1).1, ad6 d hi.1 (fun e9 => r2.2 d e9 hi hd)⟩)
    rw [h5]
    exact lst_I (lst_I (hF.lst rfl l3) (by decide)) (by decide)
  have r5 : rsep z5 gl ol := ⟨b3.1, fun d hd hi => by
    have hi3 : is z3 d 9 := by rw [h5] at hi; exact ⟨by rw [← hF.1.1]; exact hi.1, by rw [← hF.1.2.1]; exact hi.2⟩
    rw [R5] at hd ⊢
    rw [ad4 1 ol (Or.inr (fun e9 => b3.1 e9.symm))]
    rcases ad7 with w | ⟨w, w1, w2⟩
    · rw [w] at hd
      refine r2.2 d hd ?_
      rw [(oA.2.1 1 gl c1.1.1).2.2] at hd
      rcases c1.2.2.2.2 with ⟨-, v1⟩ | ⟨-, d9, v1, v2, -⟩
      · exact absurd (Option.some.inj (hd.symm.trans v1)) (hE d hi3.1)
      · cases hd.symm.trans v1; exact oA.1 _ _ v2
    · rw [w2] at hd
      cases hd
      intro e9
      have l2 := oA.lst d1
      rcases l2.2.2.2.2 with ⟨-, v1⟩ | ⟨-, d9, v1, v2, -⟩
      · exact absurd (Option.some.inj (e9.symm.trans v1)) (hE _ hi3.1)
      · cases e9.symm.trans v1; exact w1 v2.1⟩
  have lt : ∀ i, i < nN (nGate N s) → i ≠ nN N → i < nN N := fun i hi hne => by have : i < nN N + 1 := hi; omega
  refine ⟨⟨nOK_gate hO hs hf, ⟨⟨his _ _ a1, (R2 _ _ (by decide)).trans ((oA.2.1 _ _ a1.1).2.2.trans a2), (R2 _ _ (by decide)).trans ((oA.2.1 _ _ a1.1).2.2.trans a3)⟩, ⟨his _ _ b1, (R2 _ _ (by decide)).trans ((oA.2.1 _ _ b1.1).2.2.trans b2), r5⟩, ⟨cap', by rw [h5]; exact lst_I (lst_I (hF.lst rfl hl) (by decide)) (by decide), hc'⟩, ⟨no, fo, cap, lol, d2⟩, ⟨fun j hj => ?_, fun i j hi hj hij => ?_⟩, fun j hj => ?_, ?_, ?_, ?_⟩, ⟨true, by rw [h5]; exact rI_If (by decide) rI_Is, fun q => by cases q⟩, ⟨true, by rw [h5]; exact rI_Is, fun q => by cases q⟩⟩, ?_⟩
  · rw [nFd_gate]
    by_cases hjn : j = nN N
    · subst hjn
      have so_n : nSo (nGate N s) (nN N) = s := va_up_self _ _ _
      rw [gan, so_n, nFd_out hO (Nat.le_refl _)]
      refine ⟨is2 _ _ q1, (I2 _ _ (by decide) (by decide) (by decide) (by decide) (by decide) (by decide)).trans q64, (I2 _ _ (by decide) (by decide) (by decide) (by decide) (by decide) (by decide)).trans q65, (R2 _ _ (by decide)).trans q66, fun y hy => by cases hy⟩
    · have hjl := lt j hj hjn
      have so_o : nSo (nGate N s) j = nSo N j := va_up_ne _ _ hjn
      rw [gao j hjn, so_o]
      obtain ⟨g1, g2, g3, g4, g5⟩ := e1.1 j hjl
      refine ⟨his _ _ g1, (I2 _ _ (by decide) (by decide) (by decide) (by decide) (by decide) (by decide)).trans ((oA.2.1 _ _ (gin j hjl)).1.trans g2), (I2 _ _ (by decide) (by decide) (by decide) (by decide) (by decide) (by decide)).trans ((oA.2.1 _ _ (gin j hjl)).1.trans g3), ?_, fun y hy => Nat.lt_succ_of_lt (g5 y hy)⟩
      rw [(R2 66 (ga j) (by decide)).trans (oA.2.1 _ _ (gin j hjl)).2.2]
      have em : (nFd N j).map (fun y => (va_up ga (nN N) q y.1, y.2)) = (nFd N j).map (fun y => (ga y.1, y.2)) := List.map_congr_left (fun y hy => by rw [gao y.1 (by have := g5 y hy; omega)])
      rw [em]
      exact hch g4
  · by_cases hin : i = nN N
    · by_cases hjn : j = nN N
      · rw [hin, hjn]
      · rw [hin, gan, gao j hjn] at hij
        exact absurd hij.symm (gq j (lt j hj hjn))
    · by_cases hjn : j = nN N
      · rw [hjn, gan, gao i hin] at hij
        exact absurd hij (gq i (lt i hi hin))
      · rw [gao i hin, gao j hjn] at hij
        exact e1.2 i j (lt i hi hin) (lt j hj hjn) hij
  · rw [nFd_gate]
    by_cases hjn : j = nN N
    · subst hjn
      rw [gan, nFd_out hO (Nat.le_refl _)]
      refine ⟨(I2 _ _ (by decide) (by decide) (by decide) (by decide) (by decide) (by decide)).trans q67, (I2 _ _ (by decide) (by decide) (by decide) (by decide) (by decide) (by decide)).trans (q68.trans ?_)⟩
      show _ = (if isLog (va_up (nSo N) (nN N) s (nN N)) then (2 : Int32) else va_up (nHd N) (nN N) (if s = 0 then 2 else 0) (nN N))
      rw [va_up_self, va_up_self]
      rcases hs with rfl | rfl | rfl | rfl <;> rfl
    · have hjl := lt j hj hjn
      rw [gao j hjn]
      refine ⟨(I2 _ _ (by decide) (by decide) (by decide) (by decide) (by decide) (by decide)).trans ((oA.2.1 _ _ (gin j hjl)).1.trans (e2 j hjl).1), (I2 _ _ (by decide) (by decide) (by decide) (by decide) (by decide) (by decide)).trans ((oA.2.1 _ _ (gin j hjl)).1.trans ((e2 j hjl).2.trans ?_))⟩
      show (if isLog (nSo N j) then (2 : Int32) else nHd N j) = (if isLog (va_up (nSo N) (nN N) s j) then (2 : Int32) else va_up (nHd N) (nN N) (if s = 0 then 2 else 0) j)
      rw [va_up_ne _ _ hjn, va_up_ne _ _ hjn]
  · exact (I2 _ _ (by decide) (by decide) (by decide) (by decide) (by decide) (by decide)).trans ((oA.2.1 _ _ a1.1).1.trans f1)
  · rw [h5]; exact rI_If (by decide) (rI_If (by decide) h163)
  · rw [h5]; exact rI_If (by decide) (rI_If (by decide) h164)
  · rw [h5]
    refine (((oA.kfr.tr (kfr_ad hA)).tr (kfr_iF hF (fun f hf9 => ?_))).tr (kfr_I _ _ _ (by decide))).tr (kfr_I _ _ _ (by decide))
    unfold pCt
    simp only [Bool.or_eq_false_iff, decide_eq_false_iff_not]
    omega

set_option maxHeartbeats 4000000 in
set_option maxRecDepth 100000 in
theorem c_gate (l : Launch) (G : Gx) (z : Sto) {x gl pt ol : Nat} {ga : Nat → Nat} {N : NT} {s0 : Int32} (h : netI G z x gl pt ol ga N) (hs0 : ¬ s0 < 0) (hs2 : s0 ≤ 3) : Ct l yX4_gate wsX4_gate ({ frames := 7, cells := 2, slots := 1000, locals := 220 } : Room) G z [.ref x, .int s0] (fun rv z' => (nFull N s0 ∧ rv = some (.int (-1)) ∧ z' = z) ∨ (¬ nFull N s0 ∧ rv = some (.int (nI (nN N))) ∧ kfr z z' ∧ ∃ ga', netI G z' x gl pt ol ga' (nGate N s0))) := by
  refine ct_of (cc := cX4_gate) (maxL := 3) (ret := (some .int)) (lv0 := [(0, .ref x), (1, .int s0)]) (by decide) rfl (by simp [lg_sl, cat_ref, cat_null, cat_int, cat_long, rf_cat]) (by simp [lv_args, cat_ref, cat_null, cat_int, cat_long, rf_cat]) ?_
  intro p e s m args below meth c C hin
  have i2 : ∀ w ∈ u_ws RX1 TX1 17, w ∈ wsX4_gate := by decide +kernel
  have i5 : ∀ w ∈ u_ws RX4 TX4 9, w ∈ wsX4_gate := by decide +kernel
  have hG := h.2.1
  have hn := h.1.1
  obtain ⟨capg, hgl, hgc⟩ := hG.2.2.1
  have hs3 : s0 = 0 ∨ s0 = 1 ∨ s0 = 2 ∨ s0 = 3 := by
    obtain ⟨j, hj, rfl⟩ := nI_of2 (n := 3) (by decide) hs0 hs2
    match j, hj with
    | 0, _ => exact Or.inl rfl
    | 1, _ => exact Or.inr (Or.inl rfl)
    | 2, _ => exact Or.inr (Or.inr (Or.inl rfl))
    | 3, _ => exact Or.inr (Or.inr (Or.inr rfl))
  have hci : cnt (fun i => decide (nSo N i = 0)) (nN N) ≤ 12 := h.1.2.2.2.2.2.1
  have e163 := hG.2.2.2.2.2.2.2.1
  have e164 := hG.2.2.2.2.2.2.2.2
  have tail : ¬ nFull N s0 → ∀ (q cap' cc0 ss0 : Nat) (z3 : Sto), q ∉ sL z → adF (gtS z q (nI (nN N)) s0) z3 gl → lst G z3 gl (nN N + 1) (va_up ga (nN N) q) cap' → cap' ≤ 900 → cc0 ≤ 2 → ss0 ≤ 1000 → Wp p l e ({ frames := 7, cells := 2, slots := 1000, locals := 220 } : Room) s m args below meth c G 3 cc0 ss0 (MQ below (cPost G (fun rv z' => (nFull N s0 ∧ rv = some (.int (-1)) ∧ z' = z) ∨ (¬ nFull N s0 ∧ rv = some (.int (nI (nN N))) ∧ kfr z z' ∧ ∃ ga', netI G z' x gl pt ol ga' (nGate N s0)))) args s (2) (1000) (gA G)) z3 72 [(2, .ref q), (0, .ref x), (1, .int s0)] [] := by
    intro hnf q cap' cc0 ss0 z3 hq hA hl hc' hcc hss
    refine w_widen (k := 2) (n := 1000) hcc hss ?_
    refine w_sep C (fun hE => ?_)
    have oA := gtS_o hq (nI (nN N)) s0
    have hx3 : is z3 x 5 := hA.1 _ _ (oA.1 _ _ hG.1.1)
    have hq3 : is z3 q 2 := hA.1 _ _ (gtS_q z q (nI (nN N)) s0).1
    have k163 : sI z3 163 x = nI (cnt (fun i => decide (nSo N i = 0)) (nN N)) := (hA.2.1 163 x (Or.inl (by decide))).trans ((oA.2.1 163 x hG.1.1.1).1.trans e163)
    have k164 : sI z3 164 x = nI (cnt (fun i => decide (nSo N i = 1)) (nN N)) := (hA.2.1 164 x (Or.inl (by decide))).trans ((oA.2.1 164 x hG.1.1.1).1.trans e164)
    have k64 : sI z3 64 q = nI (nN N) := (hA.2.1 64 q (Or.inl (by decide))).trans (gtS_q z q (nI (nN N)) s0).2.1
    have fin : ∀ z4, iF pCt z3 z4 → sI z4 163 x = nI (cnt (fun i => decide (nSo (nGate N s0) i = 0)) (nN N + 1)) → sI z4 164 x = nI (cnt (fun i => decide (nSo (nGate N s0) i = 1)) (nN N + 1)) → Wp p l e ({ frames := 7, cells := 2, slots := 1000, locals := 220 } : Room) s m args below meth c G 3 2 1000 (MQ below (cPost G (fun rv z' => (nFull N s0 ∧ rv = some (.int (-1)) ∧ z' = z) ∨ (¬ nFull N s0 ∧ rv = some (.int (nI (nN N))) ∧ kfr z z' ∧ ∃ ga', netI G z' x gl pt ol ga' (nGate N s0)))) args s (2) (1000) (gA G)) z4 104 [(2, .ref q), (0, .ref x), (1, .int s0)] [] := by
      intro z4 hF g163 g164
      have hN := netI_gate h hs3 hnf hq rfl hA hl hc' hE hF g163 g164
      have hx4 := hF.is hx3
      have hq4 := hF.is hq3
      refine w_aload_n C 1 dX4_gate_104 rfl rfl (by first | rfl | exact isRef_rf _) ?_
      refine w_callV (ci := 5) (As := []) (rest := []) C (cwV 0 C.1.2.2.2.2 gX4_gate_X4_forgetAll rfl rfl rfl (by decide +kernel) ⟨Nat.le_of_ble_eq_true rfl, Nat.le_of_ble_eq_true rfl⟩) hx4 rfl (by decide) rfl rfl (by first | decide | simp [cat_ref, cat_null, cat_int, cat_long, rf_cat]) dX4_gate_105 ⟨by decide, by decide⟩ (c_forgetAll l G z4 hx4) (fun rv z5 h9 => ?_)
      obtain ⟨rfl, e9⟩ := h9
      replace e9 := e9.symm
      subst e9
      refine w_aload_n C 0 dX4_gate_108 rfl rfl (by first | rfl | exact isRef_rf _) ?_
      refine w_getI (ci := 2) (k := 0) (f := 64) C rfl i2 (by decide +kernel) (by decide) (by decide) rfl rfl dX4_gate_109 hq4 (rI_If (by decide) (rI_If (by decide) ((hF.2 64 q rfl).trans k64))) ?_
      exact w_iret C dX4_gate_112 (Or.inr ⟨hnf, rfl, hN.2, _, hN.1⟩)
    refine w_iload_n C 2 dX4_gate_72 rfl rfl ?_
    refine w_if_ne (tgt := 89) C dX4_gate_73 (by decide) (fun c1 => ?_) (fun c1 => ?_)
    · refine w_iload_n C 2 dX4_gate_89 rfl rfl ?_
      refine w_iconst (v := 1) C dX4_gate_90 (by decide) ?_
      refine w_icmp_ne (tgt := 104) C dX4_gate_91 (by decide) (fun c2 => ?_) (fun c2 => ?_)
      · first | exact w_sub [0, 1, 2] rfl (fin _ (iF_I _ pCt 163 x _ rfl) (rI_Is.trans ((nI_1 _).trans (by rw [cnt_so, if_pos c1]))) (rI_If (by decide) (k164.trans (by rw [cnt_so, if_neg (by rw [c1]; decide)]; rfl)))) | exact w_sub [0, 1, 2] rfl (fin _ (iF_I _ pCt 164 x _ rfl) (rI_If (by decide) (k163.trans (by rw [cnt_so, if_neg c1]; rfl))) (rI_Is.trans ((nI_1 _).trans (by rw [cnt_so, if_pos c2])))) | exact w_sub [0, 1, 2] rfl (fin _ (iF.rf _ _) (k163.trans (by rw [cnt_so, if_neg c1]; rfl)) (k164.trans (by rw [cnt_so, if_neg c2]; rfl)))
      · refine w_aload_n C 1 dX4_gate_94 rfl rfl (by first | rfl | exact isRef_rf _) ?_
        refine w_dup C dX4_gate_95 (by first | rfl | exact rf_cat _) ?_
        refine w_getI (ci := 5) (k := 4) (f := 164) C rfl i5 (by decide +kernel) (by decide) (by decide) rfl rfl dX4_gate_96 hx3 k164 ?_
        refine w_iconst (v := 1) C dX4_gate_99 (by decide) ?_
        refine w_iadd C dX4_gate_100 ?_
        refine w_putI (ci := 5) (k := 4) (f := 164) C rfl i5 (by decide +kernel) (by decide) (by decide) rfl rfl tyX4 tyX4_ok nmX4 rfl rfl rfl dX4_gate_101 hx3 ?_
        first | exact w_sub [0, 1, 2] rfl (fin _ (iF_I _ pCt 163 x _ rfl) (rI_Is.trans ((nI_1 _).trans (by rw [cnt_so, if_pos c1]))) (rI_If (by decide) (k164.trans (by rw [cnt_so, if_neg (by rw [c1]; decide)]; rfl)))) | exact w_sub [0, 1, 2] rfl (fin _ (iF_I _ pCt 164 x _ rfl) (rI_If (by decide) (k163.trans (by rw [cnt_so, if_neg c1]; rfl))) (rI_Is.trans ((nI_1 _).trans (by rw [cnt_so, if_pos c2])))) | exact w_sub [0, 1, 2] rfl (fin _ (iF.rf _ _) (k163.trans (by rw [cnt_so, if_neg c1]; rfl)) (k164.trans (by rw [cnt_so, if_neg c2]; rfl)))
    · refine w_aload_n C 1 dX4_gate_76 rfl rfl (by first | rfl | exact isRef_rf _) ?_
      refine w_dup C dX4_gate_77 (by first | rfl | exact rf_cat _) ?_
      refine w_getI (ci := 5) (k := 3) (f := 163) C rfl i5 (by decide +kernel) (by decide) (by decide) rfl rfl dX4_gate_78 hx3 k163 ?_
      refine w_iconst (v := 1) C dX4_gate_81 (by decide) ?_
      refine w_iadd C dX4_gate_82 ?_
      refine w_putI (ci := 5) (k := 3) (f := 163) C rfl i5 (by decide +kernel) (by decide) (by decide) rfl rfl tyX4 tyX4_ok nmX4 rfl rfl rfl dX4_gate_83 hx3 ?_
      refine w_goto (tgt := 104) C dX4_gate_86 (by decide) ?_
      first | exact w_sub [0, 1, 2] rfl (fin _ (iF_I _ pCt 163 x _ rfl) (rI_Is.trans ((nI_1 _).trans (by rw [cnt_so, if_pos c1]))) (rI_If (by decide) (k164.trans (by rw [cnt_so, if_neg (by rw [c1]; decide)]; rfl)))) | exact w_sub [0, 1, 2] rfl (fin _ (iF_I _ pCt 164 x _ rfl) (rI_If (by decide) (k163.trans (by rw [cnt_so, if_neg c1]; rfl))) (rI_Is.trans ((nI_1 _).trans (by rw [cnt_so, if_pos c2])))) | exact w_sub [0, 1, 2] rfl (fin _ (iF.rf _ _) (k163.trans (by rw [cnt_so, if_neg c1]; rfl)) (k164.trans (by rw [cnt_so, if_neg c2]; rfl)))
  have mk : ¬ nFull N s0 → Wp p l e ({ frames := 7, cells := 2, slots := 1000, locals := 220 } : Room) s m args below meth c G 3 0 0 (MQ below (cPost G (fun rv z' => (nFull N s0 ∧ rv = some (.int (-1)) ∧ z' = z) ∨ (¬ nFull N s0 ∧ rv = some (.int (nI (nN N))) ∧ kfr z z' ∧ ∃ ga', netI G z' x gl pt ol ga' (nGate N s0)))) args s (2) (1000) (gA G)) z 47 [(0, .ref x), (1, .int s0)] [] := by
    intro hnf
    have hn6 : nN N < 600 := by unfold nFull at hnf; omega
    refine w_new (ci := 2) C rfl i2 tyX1 tyX1_ok (by decide +kernel) (by decide +kernel) (by decide +kernel) (by decide) fd2 dX4_gate_47 (Nat.le_of_ble_eq_true rfl) (Nat.le_of_ble_eq_true rfl) (fun q hq hlow => ?_)
    have hGn := (oF_new (k := 2) hq)
    have hx2 : is (newO z q 2) x 5 := is_newO hG.1.1 hq
    have hl2 := hGn.lst hgl
    have hq2 : is (newO z q 2) q 2 := is_newO_self z q 2
    refine w_dup C dX4_gate_50 (by first | rfl | exact rf_cat _) ?_
    refine w_aload_n C 0 dX4_gate_51 rfl rfl (by first | rfl | exact isRef_rf _) ?_
    refine w_getRs (ci := 5) (k := 0) (f := 160) C rfl i5 (by decide +kernel) (by decide) (by decide) rfl rfl dX4_gate_52 hx2 ((hGn.2.1 160 x hG.1.1.1).2.2.trans hG.1.2.1) ?_
    refine w_callV (ci := 0) (As := []) (rest := [.ref q, .ref q]) C (cwV 0 C.1.2.2.2.2 gX4_gate_Jx4a65c_size_8abf5 rfl rfl rfl (by decide +kernel) ⟨Nat.le_of_ble_eq_true rfl, Nat.le_of_ble_eq_true rfl⟩) hl2.1 rfl (by decide) rfl rfl (by first | decide | simp [cat_ref, cat_null, cat_int, cat_long, rf_cat]) dX4_gate_55 ⟨by decide, by decide⟩ (c_size l G _ hl2) (fun rv z1 h9 => ?_)
    obtain ⟨rfl, e9⟩ := h9
    replace e9 := e9.symm
    subst e9
    refine w_iload_n C 1 dX4_gate_58 rfl rfl ?_
    refine w_callI (As := [.int (nI (nN N)), .int s0]) (b := q) (rest := [.ref q]) C (cwI 2 C.1.2.2.2.2 gX4_gate_X1_init rfl rfl rfl (C.1.2.2.2.2 _ (by decide +kernel)) (C.1.2.2.2.2 _ (by decide +kernel)) (C.1.2.2.2.2 _ (by decide +kernel)) rfl (by decide +kernel) ⟨Nat.le_of_ble_eq_true rfl, Nat.le_of_ble_eq_true rfl⟩) rfl rfl (by first | decide | simp [cat_ref, cat_null, cat_int, cat_long, rf_cat]) dX4_gate_59 ⟨by decide, by decide⟩ (c_Gate_init l G _ hq2) (fun rv z1 h9 => ?_)
    obtain ⟨rfl, e9⟩ := h9
    replace e9 : z1 = gtS z q (nI (nN N)) s0 := e9
    subst e9
    have oA := gtS_o hq (nI (nN N)) s0
    have hx3 := oA.1 _ _ hG.1.1
    have hl3 := oA.lst hgl
    have hq3 := (gtS_q z q (nI (nN N)) s0).1
    refine w_astore_nB (lvq := [(2, _), (0, _), (1, _)]) C 1 rfl rfl (by first | rfl | exact rf_cat _) dX4_gate_62 rfl (by first | rfl | exact isRef_rf _) (by decide) rfl ?_
    refine w_aload_n C 1 dX4_gate_63 rfl rfl (by first | rfl | exact isRef_rf _) ?_
    refine w_getRs (ci := 5) (k := 0) (f := 160) C rfl i5 (by decide +kernel) (by decide) (by decide) rfl rfl dX4_gate_64 hx3 ((oA.2.1 160 x hG.1.1.1).2.2.trans hG.1.2.1) ?_
    refine w_aload_n C 0 dX4_gate_67 rfl rfl (by first | rfl | exact isRef_rf _) ?_
    by_cases hlt : nN N < capg
    · refine w_callV (ci := 0) (As := [.ref q]) (rest := []) C (cwV 1 C.1.2.2.2.2 gX4_gate_Jx4a65c_add_9ea2d rfl rfl rfl (by decide +kernel) ⟨Nat.le_of_ble_eq_true rfl, Nat.le_of_ble_eq_true rfl⟩) hl3.1 rfl (by decide) rfl rfl (by first | decide | simp [cat_ref, cat_null, cat_int, cat_long, rf_cat]) dX4_gate_68 ⟨by decide, by decide⟩ (c_addRoom l G _ hl3 hlt hq3) (fun rv z3 h9 => ?_)
      obtain ⟨rfl, hF3, hl4⟩ := h9
      refine w_pop C dX4_gate_71 (by first | rfl | exact rf_cat _) ?_
      exact w_sub [0, 1, 2] rfl (tail hnf q capg _ _ z3 hq hF3 hl4 hgc (by decide) (by decide))
    · have hcap : capg = nN N := by have := hgl.2.2.1; omega
      subst hcap
      have hgb : gcap (nN N) ≤ 900 := gcap_le hn6
      refine w_callV (ci := 0) (As := [.ref q]) (rest := []) C (cwV 1 C.1.2.2.2.2 gX4_gate_Jx4a65c_add_9ea2d rfl rfl rfl (by decide +kernel) ⟨Nat.le_of_ble_eq_true rfl, Nat.le_of_ble_eq_true rfl⟩) hl3.1 rfl (by decide) rfl rfl (by first | decide | simp [cat_ref, cat_null, cat_int, cat_long, rf_cat]) dX4_gate_68 ⟨by show 2 ≤ 2; exact Nat.le_refl 2, by show 17 + 0 + 0 + gcap (nN N) ≤ 1000; omega⟩ (c_addGrow l G _ hl3 (by omega) hq3) (fun rv z3 h9 => ?_)
      obtain ⟨rfl, hF3, hl4⟩ := h9
      refine w_pop C dX4_gate_71 (by first | rfl | exact rf_cat _) ?_
      exact w_sub [0, 1, 2] rfl (tail hnf q _ _ _ z3 hq hF3 hl4 hgb (Nat.le_refl 2) (by show 17 + 0 + 0 + gcap (nN N) ≤ 1000; omega))
  refine w_iload_n C 1 dX4_gate_0 rfl rfl ?_
  refine w_if_lt (tgt := 9) C dX4_gate_1 (by decide) (fun c1 => ?_) (fun c1 => ?_)
  · exact absurd c1 hs0
  · refine w_iload_n C 1 dX4_gate_4 rfl rfl ?_
    refine w_iconst (v := 3) C dX4_gate_5 (by decide) ?_
    refine w_icmp_le (tgt := 19) C dX4_gate_6 (by decide) (fun c2 => ?_) (fun c2 => ?_)
    · refine w_aload_n C 0 dX4_gate_19 rfl rfl (by first | rfl | exact isRef_rf _) ?_
      refine w_getRs (ci := 5) (k := 0) (f := 160) C rfl i5 (by decide +kernel) (by decide) (by decide) rfl rfl dX4_gate_20 hG.1.1 hG.1.2.1 ?_
      refine w_callV (ci := 0) (As := []) (rest := []) C (cwV 0 C.1.2.2.2.2 gX4_gate_Jx4a65c_size_8abf5 rfl rfl rfl (by decide +kernel) ⟨Nat.le_of_ble_eq_true rfl, Nat.le_of_ble_eq_true rfl⟩) hgl.1 rfl (by decide) rfl rfl (by first | decide | simp [cat_ref, cat_null, cat_int, cat_long, rf_cat]) dX4_gate_23 ⟨by decide, by decide⟩ (c_size l G z hgl) (fun rv z1 h9 => ?_)
      obtain ⟨rfl, e9⟩ := h9
      replace e9 := e9.symm
      subst e9
      refine w_sipush (v := 600) C dX4_gate_26 (by decide) ?_
      refine w_icmp_ge (tgt := 45) C dX4_gate_29 (by decide) (fun c3 => ?_) (fun c3 => ?_)
      · have hfull : nFull N s0 := Or.inl (Decidable.byContradiction fun q => absurd c3 (nI_ge (a := nN N) (b := 600) (by omega) (by decide)))
        refine w_iconst (v := (-1)) C dX4_gate_45 (by decide) ?_
        refine w_widen (k := 2) (n := 1000) (by decide) (by decide) ?_
        exact w_iret C dX4_gate_46 (Or.inl ⟨hfull, rfl, rfl⟩)
      · have hn6 : ¬ 600 ≤ nN N := fun q => c3 (nI_le (a := 600) q (by omega))
        refine w_iload_n C 1 dX4_gate_32 rfl rfl ?_
        refine w_if_ne (tgt := 47) C dX4_gate_33 (by decide) (fun c4 => ?_) (fun c4 => ?_)
        · exact mk (fun q => q.elim hn6 (fun q => c4 q.1))
        · refine w_aload_n C 0 dX4_gate_36 rfl rfl (by first | rfl | exact isRef_rf _) ?_
          refine w_getI (ci := 5) (k := 3) (f := 163) C rfl i5 (by decide +kernel) (by decide) (by decide) rfl rfl dX4_gate_37 hG.1.1 e163 ?_
          refine w_bipush (v := 12) C dX4_gate_40 (by decide) ?_
          refine w_icmp_lt (tgt := 47) C dX4_gate_42 (by decide) (fun c5 => ?_) (fun c5 => ?_)
          · exact mk (fun q => q.elim hn6 (fun q => absurd c5 (nI_nlt (a := cnt (fun i => decide (nSo N i = 0)) (nN N)) (b := 12) q.2 (by omega))))
          · have hfull : nFull N s0 := Or.inr ⟨c4, Decidable.byContradiction fun q => c5 (nI_lt (b := 12) (by omega) (by decide))⟩
            refine w_iconst (v := (-1)) C dX4_gate_45 (by decide) ?_
            refine w_widen (k := 2) (n := 1000) (by decide) (by decide) ?_
            exact w_iret C dX4_gate_46 (Or.inl ⟨hfull, rfl, rfl⟩)
    · exact absurd hs2 c2
set_option maxHeartbeats 4000000 in
set_option maxRecDepth 100000 in
theorem x_gate (l : Launch) (G : Gx) (z : Sto) {x : Nat} {s0 : Int32} (hl9 : l.stackTraces = false) (hb : s0 < 0 ∨ 3 < s0) : CtX l yX4_gate wsX4_gate ({ frames := 6, cells := 1, slots := 6, locals := 120 } : Room) G z [.ref x, .int s0] (fun _ _ => False) (fun E z' => E = "java/lang/IllegalArgumentException" ∧ z' = z) := by
  refine ctx_of (cc := cX4_gate) (maxL := 3) (ret := (some .int)) (lv0 := [(0, .ref x), (1, .int s0)]) (by decide) rfl (by simp [lg_sl, cat_ref, cat_null, cat_int, cat_long, rf_cat]) (by simp [lv_args, cat_ref, cat_null, cat_int, cat_long, rf_cat]) ?_
  intro p e s m args below meth c C hin ht9
  have i2 : ∀ w ∈ u_ws RX1 TX1 17, w ∈ wsX4_gate := by decide +kernel
  have i5 : ∀ w ∈ u_ws RX4 TX4 9, w ∈ wsX4_gate := by decide +kernel
  refine w_iload_n C 1 dX4_gate_0 rfl rfl ?_
  refine w_if_lt (tgt := 9) C dX4_gate_1 (by decide) (fun c1 => ?_) (fun c1 => ?_)
  · exact w_throwS (names := ["java/lang/RuntimeException", "java/lang/Exception"]) C hl9 ht9 (by decide +kernel) (by decide +kernel) (by decide +kernel) (by decide +kernel) C.2.2.2.1.2.2.2.2.1 (fun w hw => List.mem_cons_of_mem _ (List.mem_append_right _ hw)) (by decide +kernel) C.2.2.2.1.2.2.2.2.2.2.2.2.2.2.1.1 dX4_gate_9 dX4_gate_12 dX4_gate_13 dX4_gate_15 dX4_gate_18 (by decide) (by decide) (by decide) (by decide) (by decide +kernel) ⟨rfl, rfl⟩
  · refine w_iload_n C 1 dX4_gate_4 rfl rfl ?_
    refine w_iconst (v := 3) C dX4_gate_5 (by decide) ?_
    refine w_icmp_le (tgt := 19) C dX4_gate_6 (by decide) (fun c2 => ?_) (fun c2 => ?_)
    · rcases hb with q | q
      · exact absurd q c1
      · exact absurd c2 (Int32.not_le.mpr q)
    · exact w_throwS (names := ["java/lang/RuntimeException", "java/lang/Exception"]) C hl9 ht9 (by decide +kernel) (by decide +kernel) (by decide +kernel) (by decide +kernel) C.2.2.2.1.2.2.2.2.1 (fun w hw => List.mem_cons_of_mem _ (List.mem_append_right _ hw)) (by decide +kernel) C.2.2.2.1.2.2.2.2.2.2.2.2.2.2.1.1 dX4_gate_9 dX4_gate_12 dX4_gate_13 dX4_gate_15 dX4_gate_18 (by decide) (by decide) (by decide) (by decide) (by decide +kernel) ⟨rfl, rfl⟩
