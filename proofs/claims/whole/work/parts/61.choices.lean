/-! ===== the reference: choices, count ===== -/
theorem shk : ∀ k, k < 12 → (nI k &&& 31).toBitVec.smod 32 = BitVec.ofNat 32 k := by decide +kernel
theorem shn : ∀ k, k < 12 → (BitVec.ofNat 32 k).toNat = k := by decide +kernel
theorem cbit (c : Nat) {k : Nat} (hk : k < 12) : ((nI c >>> (nI k &&& 31)) &&& 1) = if c.testBit k then 1 else 0 := by
  apply Int32.toBitVec_inj.mp
  rw [Int32.toBitVec_and, Int32.toBitVec_shiftRight, shk k hk]
  show (((BitVec.ofNat 32 c).sshiftRight (BitVec.ofNat 32 k).toNat) &&& 1#32) = _
  rw [shn k hk]
  apply BitVec.eq_of_getLsbD_eq
  intro i hi
  rw [BitVec.getLsbD_and, BitVec.getLsbD_sshiftRight, BitVec.getLsbD_ofNat, BitVec.getLsbD_one]
  by_cases h0 : i = 0
  · subst h0
    cases h : c.testBit k <;> simp [h] <;> omega
  · cases h : c.testBit k <;> simp [h0]
theorem p2eq : ∀ f, f ≤ 12 → (1 : Int32) <<< (nI f &&& 31) = nI (2 ^ f) := by decide +kernel
theorem p2le : ∀ f, f ≤ 12 → 2 ^ f ≤ 4096 := by decide
theorem cnt_inj {P : Nat → Bool} {i j : Nat} (hi : P i = true) (hj : P j = true) (h : cnt P i = cnt P j) : i = j := by
  have key : ∀ a b, P a = true → a < b → cnt P a < cnt P b := by
    intro a b ha hab
    have h1 : cnt P (a + 1) = cnt P a + 1 := by
      show cnt P a + (if P a then 1 else 0) = _
      rw [ha, if_pos rfl]
    have h2 := cnt_le_add P (a + 1) (b - (a + 1))
    rw [show a + 1 + (b - (a + 1)) = b by omega] at h2
    omega
  rcases Nat.lt_trichotomy i j with q | q | q
  · have := key i j hi q; omega
  · exact q
  · have := key j i hj q; omega
theorem cnt_sur {P : Nat → Bool} : ∀ {n k : Nat}, k < cnt P n → ∃ i, i < n ∧ P i = true ∧ cnt P i = k := by
  intro n
  induction n with
  | zero => intro k h; exact absurd h (Nat.not_lt_zero _)
  | succ n ih =>
    intro k h
    have h' : k < cnt P n + (if P n then 1 else 0) := h
    by_cases hk : k < cnt P n
    · obtain ⟨i, h1, h2, h3⟩ := ih hk
      exact ⟨i, by omega, h2, h3⟩
    · cases hp : P n with
      | false => rw [hp, if_neg (by decide)] at h'; omega
      | true =>
        rw [hp, if_pos rfl] at h'
        exact ⟨n, Nat.lt_succ_self _, hp, by omega⟩
/-- the free inputs below k hold val, the gates that are no free inputs what they held -/
def cgI (N : NT) (k : Nat) (val : Nat → Int32) (M1 : Nat → Nat → Int32) : Prop := ∀ i, i < nN N → (fr N i = false → M1 197 i = nHd N i) ∧ (fr N i = true → cnt (fr N) i < k → M1 197 i = val i)
theorem cgI_s {N : NT} {k i0 : Nat} {val : Nat → Int32} {M1 : Nat → Nat → Int32} {v : Int32} (h : cgI N k val M1) (hf : fr N i0 = true) (hc : cnt (fr N) i0 = k) (hv : v = val i0) : cgI N (k + 1) val (u2 M1 197 i0 v) := by
  intro i hi
  by_cases e : i = i0
  · rw [e, u3_s]
    exact ⟨fun q => absurd (hf.symm.trans q) (by decide), fun _ _ => hv⟩
  · rw [u3_a e]
    refine ⟨(h i hi).1, fun q1 q2 => (h i hi).2 q1 ?_⟩
    have : ¬ cnt (fr N) i = k := fun e9 => e (cnt_inj q1 hf (e9.trans hc.symm))
    omega
def fa (N : NT) (g : Nat) (M1 : Nat → Nat → Int32) : Prop := ∀ i, i < g → fr N i = true → M1 207 (cnt (fr N) i) = nI i
def chV (N : NT) (c i : Nat) : Int32 := if c.testBit (cnt (fr N) i) then 1 else 0
theorem mv_hd {N : NT} {I I' : Nat → Int32} {M M1 : Nat → Nat → Int32} {hd : Nat → Int32} (hv : mv I M N) (hk : kx [197, 201, 202, 203, 207] M M1) (hI : ∀ f, ¬ f = 204 → I' f = I f) (h : ∀ i, i < nN N → M1 197 i = hd i) : mv I' M1 (nN N, nSo N, hd, nFL N) := by
  refine ⟨⟨(hI 193 (by decide)).trans hv.n, (hI 194 (by decide)).trans hv.l, (hI 195 (by decide)).trans hv.u⟩, fun i hi => ⟨?_, h i hi⟩, fun k hk9 => ?_⟩
  · rw [hk 196 (by decide)]; exact hv.s i hi
  · rw [hk 198 (by decide), hk 199 (by decide), hk 200 (by decide)]; exact hv.2.2 k hk9
theorem mv_ch {N : NT} {I I' : Nat → Int32} {M M1 : Nat → Nat → Int32} {c : Nat} (hv : mv I M N) (hk : kx [197, 201, 202, 203, 207] M M1) (hI : ∀ f, ¬ f = 204 → I' f = I f) (h : cgI N (cnt (fr N) (nN N)) (chV N c) M1) : mv I' M1 (nCh N c) := by
  refine mv_hd hv hk hI (fun i hi => ?_)
  unfold chH
  cases hf : fr N i with
  | false => exact (h i hi).1 hf
  | true =>
    rw [if_pos rfl]
    refine (h i hi).2 hf ?_
    have h1 : cnt (fr N) (i + 1) = cnt (fr N) i + 1 := by
      show cnt (fr N) i + (if fr N i then 1 else 0) = _
      rw [hf, if_pos rfl]
    have h2 := cnt_le_add (fr N) (i + 1) (nN N - (i + 1))
    rw [show i + 1 + (nN N - (i + 1)) = nN N by omega] at h2
    omega
theorem mv_back {N : NT} {I I' : Nat → Int32} {M M1 : Nat → Nat → Int32} (hv : mv I M N) (hk : kx [197, 201, 202, 203, 207] M M1) (hI : ∀ f, ¬ f = 204 → I' f = I f) (h : cgI N (cnt (fr N) (nN N)) (fun _ => 2) M1) : mv I' M1 N := by
  refine mv_hd (hd := nHd N) hv hk hI (fun i hi => ?_)
  cases hf : fr N i with
  | false => exact (h i hi).1 hf
  | true =>
    have h1 : cnt (fr N) (i + 1) = cnt (fr N) i + 1 := by
      show cnt (fr N) i + (if fr N i then 1 else 0) = _
      rw [hf, if_pos rfl]
    have h2 := cnt_le_add (fr N) (i + 1) (nN N - (i + 1))
    rw [show i + 1 + (nN N - (i + 1)) = nN N by omega] at h2
    rw [(h i hi).2 hf (by omega)]
    exact (of_decide_eq_true hf : nSo N i = 0 ∧ nHd N i = 2).2.symm
set_option maxHeartbeats 4000000 in
set_option maxRecDepth 100000 in
theorem c_mchoices (l : Launch) (G : Gx) (z : Sto) {mo : Nat} {A : Nat → Nat} {I : Nat → Int32} {M : Nat → Nat → Int32} {N : NT} (h0 : mst z mo A I M) (hv : mv I M N) (hO : nOK N) : Ct l yX5_choices wsX5_choices ({ frames := 3, cells := 0, slots := 0, locals := 90 } : Room) G z [.ref mo] (fun rv z' => ∃ I' M', mR z z' mo A I' M' ∧ I' 192 = 0 ∧ rv = some (.int (nI (nCho N))) ∧ mv I' M' N) := by
  refine ct_of (cc := cX5_choices) (maxL := 5) (ret := (some .int)) (lv0 := [(0, .ref mo)]) (by decide) rfl (by simp [lg_sl, cat_ref, cat_null, cat_int, cat_long, rf_cat]) (by simp [lv_args, cat_ref, cat_null, cat_int, cat_long, rf_cat]) ?_
  intro p e s m args below meth c C hin
  have i6 : ∀ w ∈ u_ws RX5 TX5 16, w ∈ wsX5_choices := by decide +kernel
  have hm := mR.rf h0
  have hn := hO.1
  have hl := hO.2.1
  have hv0 := hv
  have hf12 := fr_le hO
  obtain ⟨F, hF⟩ : ∃ F, F = cnt (fr N) (nN N) := ⟨_, rfl⟩
  rw [← hF] at hf12
  have hpl := p2le F hf12
  have hcho : nCho N = cnt (stl N) (2 ^ F) := by rw [hF]; rfl
  have frk : ∀ i, i < nN N → fr N i = true → cnt (fr N) i < F := by
    intro i hi hf
    have h1 : cnt (fr N) (i + 1) = cnt (fr N) i + 1 := by
      show cnt (fr N) i + (if fr N i then 1 else 0) = _
      rw [hf, if_pos rfl]
    have h2 := cnt_le_add (fr N) (i + 1) (nN N - (i + 1))
    rw [show i + 1 + (nN N - (i + 1)) = nN N by omega, ← hF] at h2
    omega
  have back : ∀ (I0 : Nat → Int32), mv I0 M N → ∀ (I1 : Nat → Int32), (∀ f, ¬ f = 204 → I1 f = I0 f) → I1 192 = 0 → ∀ (r k : Nat) (z1 : Sto) (M1 : Nat → Nat → Int32), k + r = F → mR z z1 mo A I1 M1 → kx [197, 201, 202, 203, 207] M M1 → fa N (nN N) M1 → cgI N k (fun _ => 2) M1 → Wp p l e ({ frames := 3, cells := 0, slots := 0, locals := 90 } : Room) s m args below meth c G 5 0 0 (MQ below (cPost G (fun rv z' => ∃ I' M', mR z z' mo A I' M' ∧ I' 192 = 0 ∧ rv = some (.int (nI (nCho N))) ∧ mv I' M' N)) args s (0) (0) (gA G)) z1 122 [(3, .int (nI k)), (2, .int (nI (nCho N))), (1, .int (nI F)), (0, .ref mo)] [] := by
    intro I0 hv0 I1 hI h192 r
    induction r with
    | zero =>
      intro k z1 M1 hk hm hk9 hfa hc
      have hkk : k = F := by omega
      subst hkk
      refine w_iload_n C 0 dX5_choices_122 rfl rfl ?_
      refine w_iload_n C 2 dX5_choices_123 rfl rfl ?_
      refine w_icmp_ge (tgt := 145) C dX5_choices_124 (by decide) (fun c1 => ?_) (fun c1 => ?_)
      · refine w_iload_n C 1 dX5_choices_145 rfl rfl ?_
        exact w_iret C dX5_choices_146 ⟨_, _, hm, h192, rfl, mv_back hv0 hk9 hI (hF ▸ hc)⟩
      · exact absurd (nI_le (Nat.le_refl _) (by omega)) c1
    | succ r ih =>
      intro k z1 M1 hk hm hk9 hfa hc
      have hkk : k < F := by omega
      obtain ⟨i0, j1, j2, j3⟩ := cnt_sur (P := fr N) (n := nN N) (k := k) (by omega)
      have e207 : M1 207 k = nI i0 := by rw [← j3]; exact hfa i0 j1 j2
      refine w_iload_n C 0 dX5_choices_122 rfl rfl ?_
      refine w_iload_n C 2 dX5_choices_123 rfl rfl ?_
      refine w_icmp_ge (tgt := 145) C dX5_choices_124 (by decide) (fun c1 => ?_) (fun c1 => ?_)
      · exact absurd c1 (nI_ge hkk (by omega))
      · refine w_aload_n C 3 dX5_choices_127 rfl rfl (by first | rfl | exact isRef_rf _) ?_
        refine w_getRs (ci := 6) (k := 5) (f := 197) C rfl i6 (by decide +kernel) (by decide) (by decide) rfl rfl dX5_choices_128 hm.o (hm.r 197 rfl) ?_
        refine w_aload_n C 3 dX5_choices_131 rfl rfl (by first | rfl | exact isRef_rf _) ?_
        refine w_getRs (ci := 6) (k := 15) (f := 207) C rfl i6 (by decide +kernel) (by decide) (by decide) rfl rfl dX5_choices_132 hm.o (hm.r 207 rfl) ?_
        refine w_iload_n C 0 dX5_choices_135 rfl rfl ?_
        refine w_iald C dX5_choices_136 (hm.a 207 rfl rfl) rfl (hm.q 207 rfl (L := 12) rfl (by omega)) (hm.b 207 rfl) ((hm.e 207 rfl _).trans e207) ?_
        refine w_iconst (v := 2) C dX5_choices_137 (by decide) ?_
        refine m_iast (f := 197) (L := 600) C dX5_choices_138 hm rfl rfl rfl rfl (by omega) (fun z1 hm => ?_)
        refine w_iincB (v := nI (k + 1)) (lvq := [(3, _), (2, _), (1, _), (0, _)]) C 0 1 rfl rfl (by first | rfl | exact rf_cat _) dX5_choices_139 rfl (nI_1 k) (by decide) rfl ?_
        refine w_goto (tgt := 122) C dX5_choices_142 (by decide) ?_
        exact w_sub [0, 1, 2, 3] rfl (ih (k + 1) z1 _ (by omega) hm (hk9.u (by decide) _ _) (fun i q1 q2 => by rw [u3_f (show (207 : Nat) ≠ 197 by decide)]; exact hfa i q1 q2) (cgI_s hc j2 j3 rfl))
  have cho : ∀ (I0 : Nat → Int32), mv I0 M N → I0 192 = 0 → ∀ (r cc9 : Nat) (z1 : Sto) (I1 : Nat → Int32) (M1 : Nat → Nat → Int32), cc9 + r = 2 ^ F → (∀ f, ¬ f = 204 → I1 f = I0 f) → mR z z1 mo A I1 M1 → kx [197, 201, 202, 203, 207] M M1 → fa N (nN N) M1 → (∀ val, cgI N 0 val M1) → Wp p l e ({ frames := 3, cells := 0, slots := 0, locals := 90 } : Room) s m args below meth c G 5 0 0 (MQ below (cPost G (fun rv z' => ∃ I' M', mR z z' mo A I' M' ∧ I' 192 = 0 ∧ rv = some (.int (nI (nCho N))) ∧ mv I' M' N)) args s (0) (0) (gA G)) z1 59 [(3, .int (nI cc9)), (2, .int (nI (cnt (stl N) cc9))), (1, .int (nI F)), (0, .ref mo)] [] := by
    intro I0 hv0 h192 r
    induction r with
    | zero =>
      intro cc9 z1 I1 M1 hc hI hm hk9 hfa hcg
      have hcc : cc9 = 2 ^ F := by omega
      subst hcc
      refine w_iload_n C 0 dX5_choices_59 rfl rfl ?_
      refine w_iconst (v := 1) C dX5_choices_60 (by decide) ?_
      refine w_iload_n C 2 dX5_choices_61 rfl rfl ?_
      refine w_ishl C dX5_choices_62 ?_
      refine w_inti (p2eq F hf12) ?_
      refine w_icmp_ge (tgt := 120) C dX5_choices_63 (by decide) (fun c1 => ?_) (fun c1 => ?_)
      · refine w_iconst (v := 0) C dX5_choices_120 (by decide) ?_
        refine w_istore_nB (lvq := [(3, _), (2, _), (1, _), (0, _)]) C 1 rfl rfl (by first | rfl | exact rf_cat _) dX5_choices_121 rfl (by decide) rfl ?_
        exact w_sub [0, 1, 2, 3] rfl (hcho ▸ back I0 hv0 I1 hI ((hI 192 (by decide)).trans h192) F 0 z1 M1 (by omega) hm hk9 hfa (hcg _))
      · exact absurd (nI_le (Nat.le_refl _) (by omega)) c1
    | succ r ih =>
      intro cc9 z1 I1 M1 hc hI hm hk9 hfa hcg
      have hcc : cc9 < 2 ^ F := by omega
      have hcs : cnt (stl N) (cc9 + 1) = cnt (stl N) cc9 + (if stl N cc9 then 1 else 0) := rfl
      have give : ∀ (r k : Nat) (z1 : Sto) (M1 : Nat → Nat → Int32), k + r = F → mR z z1 mo A I1 M1 → kx [197, 201, 202, 203, 207] M M1 → fa N (nN N) M1 → cgI N k (chV N cc9) M1 → Wp p l e ({ frames := 3, cells := 0, slots := 0, locals := 90 } : Room) s m args below meth c G 5 0 0 (MQ below (cPost G (fun rv z' => ∃ I' M', mR z z' mo A I' M' ∧ I' 192 = 0 ∧ rv = some (.int (nI (nCho N))) ∧ mv I' M' N)) args s (0) (0) (gA G)) z1 69 [(4, .int (nI k)), (3, .int (nI cc9)), (2, .int (nI (cnt (stl N) cc9))), (1, .int (nI F)), (0, .ref mo)] [] := by
        intro r
        induction r with
        | zero =>
          intro k z1 M1 hk hm hk9 hfa hcg2
          have hkk : k = F := by omega
          subst hkk
          have hv := mv_ch (c := cc9) hv0 hk9 hI (hF ▸ hcg2)
          have hO2 := nOK_ch hO cc9
          refine w_iload C 0 dX5_choices_69 rfl ?_
          refine w_iload_n C 3 dX5_choices_71 rfl rfl ?_
          refine w_icmp_ge (tgt := 99) C dX5_choices_72 (by decide) (fun c1 => ?_) (fun c1 => ?_)
          · refine w_iload_n C 2 dX5_choices_99 rfl rfl ?_
            refine w_aload_n C 4 dX5_choices_100 rfl rfl (by first | rfl | exact isRef_rf _) ?_
            refine w_callV (ci := 6) (As := []) (rest := [.int (nI (cnt (stl N) cc9))]) C (cwV 0 C.1.2.2.2.2 gX5_choices_X5_spread rfl rfl rfl (by decide +kernel) ⟨Nat.le_of_ble_eq_true rfl, Nat.le_of_ble_eq_true rfl⟩) hm.o rfl (by decide) rfl rfl (by first | decide | simp [cat_ref, cat_null, cat_int, cat_long, rf_cat]) dX5_choices_101 ⟨Nat.le_of_ble_eq_true rfl, Nat.le_of_ble_eq_true rfl⟩ (c_mspread l G _ hm.2 hv hO2) (fun rv z1 h9 => ?_)
            obtain ⟨I2, M2, rfl, hm2, hk2, hI2, -, -⟩ := h9
            replace hm := hm.tr hm2
            refine w_if_eq (tgt := 111) C dX5_choices_104 (by decide) (fun c2 => ?_) (fun c2 => ?_)
            · have hd9 : stl N cc9 = false := (bI_0 _).mp c2
              rw [hd9] at hcs
              simp only [Bool.false_eq_true, if_false, Nat.add_zero] at hcs
              refine w_iconst (v := 0) C dX5_choices_111 (by decide) ?_
              refine w_iadd C dX5_choices_112 ?_
              first
              | refine w_inti (nI_1 _) ?_
              | refine w_inti (Int32.add_zero _) ?_
              refine w_istore_nB (lvq := [(2, _), (4, _), (3, _), (1, _), (0, _)]) C 3 rfl rfl (by first | rfl | exact rf_cat _) dX5_choices_113 rfl (by decide) rfl ?_
              refine w_iincB (v := nI (cc9 + 1)) (lvq := [(3, _), (2, _), (4, _), (1, _), (0, _)]) C 2 0 rfl rfl (by first | rfl | exact rf_cat _) dX5_choices_114 rfl (nI_1 cc9) (by decide) rfl ?_
              refine w_goto (tgt := 59) C dX5_choices_117 (by decide) ?_
              exact w_sub [0, 1, 3, 4] rfl (hcs ▸ ih (cc9 + 1) z1 I2 M2 (by omega) (fun f hf => (hI2 f hf).trans (hI f hf)) hm (hk9.tr (hk2.mo (by decide))) (fun i q1 q2 => by rw [hk2 207 (by decide)]; exact hfa i q1 q2) (fun val i hi => by rw [hk2 197 (by decide)]; exact ⟨(hcg2 i hi).1, fun _ q9 => absurd q9 (Nat.not_lt_zero _)⟩))
            · have hd9 : stl N cc9 = true := by
                cases q9 : stl N cc9 with
                | true => rfl
                | false => exact absurd ((bI_0 _).mpr q9) c2
              rw [hd9] at hcs
              simp only [if_true] at hcs
              refine w_iconst (v := 1) C dX5_choices_107 (by decide) ?_
              refine w_goto (tgt := 112) C dX5_choices_108 (by decide) ?_
              refine w_iadd C dX5_choices_112 ?_
              first
              | refine w_inti (nI_1 _) ?_
              | refine w_inti (Int32.add_zero _) ?_
              refine w_istore_nB (lvq := [(2, _), (4, _), (3, _), (1, _), (0, _)]) C 3 rfl rfl (by first | rfl | exact rf_cat _) dX5_choices_113 rfl (by decide) rfl ?_
              refine w_iincB (v := nI (cc9 + 1)) (lvq := [(3, _), (2, _), (4, _), (1, _), (0, _)]) C 2 0 rfl rfl (by first | rfl | exact rf_cat _) dX5_choices_114 rfl (nI_1 cc9) (by decide) rfl ?_
              refine w_goto (tgt := 59) C dX5_choices_117 (by decide) ?_
              exact w_sub [0, 1, 3, 4] rfl (hcs ▸ ih (cc9 + 1) z1 I2 M2 (by omega) (fun f hf => (hI2 f hf).trans (hI f hf)) hm (hk9.tr (hk2.mo (by decide))) (fun i q1 q2 => by rw [hk2 207 (by decide)]; exact hfa i q1 q2) (fun val i hi => by rw [hk2 197 (by decide)]; exact ⟨(hcg2 i hi).1, fun _ q9 => absurd q9 (Nat.not_lt_zero _)⟩))
          · exact absurd (nI_le (Nat.le_refl _) (by omega)) c1
        | succ r ih2 =>
          intro k z1 M1 hk hm hk9 hfa hcg2
          have hkk : k < F := by omega
          obtain ⟨i0, j1, j2, j3⟩ := cnt_sur (P := fr N) (n := nN N) (k := k) (by omega)
          have e207 : M1 207 k = nI i0 := by rw [← j3]; exact hfa i0 j1 j2
          refine w_iload C 0 dX5_choices_69 rfl ?_
          refine w_iload_n C 3 dX5_choices_71 rfl rfl ?_
          refine w_icmp_ge (tgt := 99) C dX5_choices_72 (by decide) (fun c1 => ?_) (fun c1 => ?_)
          · exact absurd c1 (nI_ge hkk (by omega))
          · refine w_aload_n C 4 dX5_choices_75 rfl rfl (by first | rfl | exact isRef_rf _) ?_
            refine w_getRs (ci := 6) (k := 5) (f := 197) C rfl i6 (by decide +kernel) (by decide) (by decide) rfl rfl dX5_choices_76 hm.o (hm.r 197 rfl) ?_
            refine w_aload_n C 4 dX5_choices_79 rfl rfl (by first | rfl | exact isRef_rf _) ?_
            refine w_getRs (ci := 6) (k := 15) (f := 207) C rfl i6 (by decide +kernel) (by decide) (by decide) rfl rfl dX5_choices_80 hm.o (hm.r 207 rfl) ?_
            refine w_iload C 0 dX5_choices_83 rfl ?_
            refine w_iald C dX5_choices_85 (hm.a 207 rfl rfl) rfl (hm.q 207 rfl (L := 12) rfl (by omega)) (hm.b 207 rfl) ((hm.e 207 rfl _).trans e207) ?_
            refine w_iload_n C 1 dX5_choices_86 rfl rfl ?_
            refine w_iload C 0 dX5_choices_87 rfl ?_
            refine w_ishr C dX5_choices_89 ?_
            refine w_iconst (v := 1) C dX5_choices_90 (by decide) ?_
            refine w_iand C dX5_choices_91 ?_
            refine w_inti (cbit cc9 (k := k) (by omega)) ?_
            refine m_iast (f := 197) (L := 600) C dX5_choices_92 hm rfl rfl rfl rfl (by omega) (fun z1 hm => ?_)
            refine w_iincB (v := nI (k + 1)) (lvq := [(4, _), (3, _), (2, _), (1, _), (0, _)]) C 0 1 rfl rfl (by first | rfl | exact rf_cat _) dX5_choices_93 rfl (nI_1 k) (by decide) rfl ?_
            refine w_goto (tgt := 69) C dX5_choices_96 (by decide) ?_
            exact w_sub [0, 1, 2, 3, 4] rfl (ih2 (k + 1) z1 _ (by omega) hm (hk9.u (by decide) _ _) (fun i q1 q2 => by rw [u3_f (show (207 : Nat) ≠ 197 by decide)]; exact hfa i q1 q2) (cgI_s hcg2 j2 j3 (by unfold chV; rw [j3])))
      refine w_iload_n C 0 dX5_choices_59 rfl rfl ?_
      refine w_iconst (v := 1) C dX5_choices_60 (by decide) ?_
      refine w_iload_n C 2 dX5_choices_61 rfl rfl ?_
      refine w_ishl C dX5_choices_62 ?_
      refine w_inti (p2eq F hf12) ?_
      refine w_icmp_ge (tgt := 120) C dX5_choices_63 (by decide) (fun c1 => ?_) (fun c1 => ?_)
      · exact absurd c1 (nI_ge hcc (by omega))
      · refine w_iconst (v := 0) C dX5_choices_66 (by decide) ?_
        refine w_istoreB (lvq := [(4, _), (3, _), (2, _), (1, _), (0, _)]) C 0 rfl rfl (by first | rfl | exact rf_cat _) dX5_choices_67 (by decide) rfl ?_
        exact w_sub [0, 1, 2, 3, 4] rfl (give F 0 z1 M1 (by omega) hm hk9 hfa (hcg _))
  have lst9 : ∀ (I0 : Nat → Int32), mv I0 M N → I0 192 = 0 → ∀ (r g : Nat) (z1 : Sto) (M1 : Nat → Nat → Int32), g + r = nN N → mR z z1 mo A I0 M1 → kx [207] M M1 → fa N g M1 → Wp p l e ({ frames := 3, cells := 0, slots := 0, locals := 90 } : Room) s m args below meth c G 5 0 0 (MQ below (cPost G (fun rv z' => ∃ I' M', mR z z' mo A I' M' ∧ I' 192 = 0 ∧ rv = some (.int (nI (nCho N))) ∧ mv I' M' N)) args s (0) (0) (gA G)) z1 9 [(2, .int (nI g)), (1, .int (nI (cnt (fr N) g))), (0, .ref mo)] [] := by
    intro I0 hv0 h192 r
    induction r with
    | zero =>
      intro g z1 M1 hg hm hk1 hfa
      have hgg : g = nN N := by omega
      subst hgg
      have hv := hv0
      refine w_iload_n C 0 dX5_choices_9 rfl rfl ?_
      refine w_aload_n C 2 dX5_choices_10 rfl rfl (by first | rfl | exact isRef_rf _) ?_
      refine w_getI (ci := 6) (k := 1) (f := 193) C rfl i6 (by decide +kernel) (by decide) (by decide) rfl rfl dX5_choices_11 hm.o ((hm.i 193).trans hv.n) ?_
      refine w_icmp_ge (tgt := 55) C dX5_choices_14 (by decide) (fun c1 => ?_) (fun c1 => ?_)
      · refine w_iconst (v := 0) C dX5_choices_55 (by decide) ?_
        refine w_istore_nB (lvq := [(2, _), (1, _), (0, _)]) C 1 rfl rfl (by first | rfl | exact rf_cat _) dX5_choices_56 rfl (by decide) rfl ?_
        refine w_iconst (v := 0) C dX5_choices_57 (by decide) ?_
        refine w_istore_nB (lvq := [(3, _), (2, _), (1, _), (0, _)]) C 0 rfl rfl (by first | rfl | exact rf_cat _) dX5_choices_58 rfl (by decide) rfl ?_
        exact w_sub [0, 1, 2, 3] rfl (hF ▸ cho I0 hv0 h192 (2 ^ F) 0 z1 I0 M1 (by omega) (fun _ _ => rfl) hm (hk1.mo (by decide)) hfa (fun val i hi => ⟨fun _ => by rw [hk1 197 (by decide)]; exact hv0.h i hi, fun _ q9 => absurd q9 (Nat.not_lt_zero _)⟩))
      · exact absurd (nI_le (Nat.le_refl _) (by omega)) c1
    | succ r ih =>
      intro g z1 M1 hg hm hk1 hfa
      have hgg : g < nN N := by omega
      have hv := hv0.kx hk1 rfl
      have hcs : cnt (fr N) (g + 1) = cnt (fr N) g + (if fr N g then 1 else 0) := rfl
      have hno : fr N g = false → cnt (fr N) (g + 1) = cnt (fr N) g ∧ fa N (g + 1) M1 := by
        intro h9
        refine ⟨by rw [hcs, h9]; rfl, fun i hi q => ?_⟩
        by_cases e9 : i = g
        · rw [e9, h9] at q; cases q
        · exact hfa i (by omega) q
      refine w_iload_n C 0 dX5_choices_9 rfl rfl ?_
      refine w_aload_n C 2 dX5_choices_10 rfl rfl (by first | rfl | exact isRef_rf _) ?_
      refine w_getI (ci := 6) (k := 1) (f := 193) C rfl i6 (by decide +kernel) (by decide) (by decide) rfl rfl dX5_choices_11 hm.o ((hm.i 193).trans hv.n) ?_
      refine w_icmp_ge (tgt := 55) C dX5_choices_14 (by decide) (fun c1 => ?_) (fun c1 => ?_)
      · exact absurd c1 (nI_ge hgg (by omega))
      · refine w_aload_n C 2 dX5_choices_17 rfl rfl (by first | rfl | exact isRef_rf _) ?_
        refine w_getRs (ci := 6) (k := 4) (f := 196) C rfl i6 (by decide +kernel) (by decide) (by decide) rfl rfl dX5_choices_18 hm.o (hm.r 196 rfl) ?_
        refine w_iload_n C 0 dX5_choices_21 rfl rfl ?_
        refine w_iald C dX5_choices_22 (hm.a 196 rfl rfl) rfl (hm.q 196 rfl (L := 600) rfl (by omega)) (hm.b 196 rfl) ((hm.e 196 rfl _).trans (hv.s _ (by omega))) ?_
        refine w_if_ne (tgt := 49) C dX5_choices_23 (by decide) (fun c2 => ?_) (fun c2 => ?_)
        · obtain ⟨n1, n2⟩ := hno (decide_eq_false (fun w9 => c2 w9.1))
          refine w_iincB (v := nI (g + 1)) (lvq := [(2, _), (1, _), (0, _)]) C 0 1 rfl rfl (by first | rfl | exact rf_cat _) dX5_choices_49 rfl (nI_1 g) (by decide) rfl ?_
          refine w_goto (tgt := 9) C dX5_choices_52 (by decide) ?_
          first
          | exact w_sub [0, 1, 2] rfl (n1 ▸ ih (g + 1) z1 M1 (by omega) hm hk1 n2)
          | exact w_sub [0, 1, 2] rfl (hcs ▸ ih (g + 1) z1 _ (by omega) hm (hk1.u (by decide) _ _) (fun i hi q9 => by
              by_cases e9 : i = g
              · rw [e9, u3_s]
              · have hne : cnt (fr N) i ≠ cnt (fr N) g := fun w9 => e9 (cnt_inj q9 hfr w9)
                rw [u3_a hne]
                exact hfa i (by omega) q9))
        · refine w_aload_n C 2 dX5_choices_26 rfl rfl (by first | rfl | exact isRef_rf _) ?_
          refine w_getRs (ci := 6) (k := 5) (f := 197) C rfl i6 (by decide +kernel) (by decide) (by decide) rfl rfl dX5_choices_27 hm.o (hm.r 197 rfl) ?_
          refine w_iload_n C 0 dX5_choices_30 rfl rfl ?_
          refine w_iald C dX5_choices_31 (hm.a 197 rfl rfl) rfl (hm.q 197 rfl (L := 600) rfl (by omega)) (hm.b 197 rfl) ((hm.e 197 rfl _).trans (hv.h _ (by omega))) ?_
          refine w_iconst (v := 2) C dX5_choices_32 (by decide) ?_
          refine w_icmp_eq (tgt := 39) C dX5_choices_33 (by decide) (fun c3 => ?_) (fun c3 => ?_)
          · have hfr : fr N g = true := decide_eq_true ⟨c2, c3⟩
            have hlt := frk g hgg hfr
            rw [hfr, if_pos rfl] at hcs
            refine w_aload_n C 2 dX5_choices_39 rfl rfl (by first | rfl | exact isRef_rf _) ?_
            refine w_getRs (ci := 6) (k := 15) (f := 207) C rfl i6 (by decide +kernel) (by decide) (by decide) rfl rfl dX5_choices_40 hm.o (hm.r 207 rfl) ?_
            refine w_iload_n C 1 dX5_choices_43 rfl rfl ?_
            refine w_iload_n C 0 dX5_choices_44 rfl rfl ?_
            refine m_iast (f := 207) (L := 12) C dX5_choices_45 hm rfl rfl rfl rfl (by omega) (fun z1 hm => ?_)
            refine w_iincB (v := nI (cnt (fr N) g + 1)) (lvq := [(1, _), (2, _), (0, _)]) C 1 2 rfl rfl (by first | rfl | exact rf_cat _) dX5_choices_46 rfl (nI_1 _) (by decide) rfl ?_
            refine w_iincB (v := nI (g + 1)) (lvq := [(2, _), (1, _), (0, _)]) C 1 0 rfl rfl (by first | rfl | exact rf_cat _) dX5_choices_49 rfl (nI_1 g) (by decide) rfl ?_
            refine w_goto (tgt := 9) C dX5_choices_52 (by decide) ?_
            first
            | exact w_sub [0, 1, 2] rfl (n1 ▸ ih (g + 1) z1 M1 (by omega) hm hk1 n2)
            | exact w_sub [0, 1, 2] rfl (hcs ▸ ih (g + 1) z1 _ (by omega) hm (hk1.u (by decide) _ _) (fun i hi q9 => by
                by_cases e9 : i = g
                · rw [e9, u3_s]
                · have hne : cnt (fr N) i ≠ cnt (fr N) g := fun w9 => e9 (cnt_inj q9 hfr w9)
                  rw [u3_a hne]
                  exact hfa i (by omega) q9))
          · obtain ⟨n1, n2⟩ := hno (decide_eq_false (fun w9 => c3 w9.2))
            refine w_goto (tgt := 49) C dX5_choices_36 (by decide) ?_
            refine w_iincB (v := nI (g + 1)) (lvq := [(2, _), (1, _), (0, _)]) C 0 1 rfl rfl (by first | rfl | exact rf_cat _) dX5_choices_49 rfl (nI_1 g) (by decide) rfl ?_
            refine w_goto (tgt := 9) C dX5_choices_52 (by decide) ?_
            first
            | exact w_sub [0, 1, 2] rfl (n1 ▸ ih (g + 1) z1 M1 (by omega) hm hk1 n2)
            | exact w_sub [0, 1, 2] rfl (hcs ▸ ih (g + 1) z1 _ (by omega) hm (hk1.u (by decide) _ _) (fun i hi q9 => by
                by_cases e9 : i = g
                · rw [e9, u3_s]
                · have hne : cnt (fr N) i ≠ cnt (fr N) g := fun w9 => e9 (cnt_inj q9 hfr w9)
                  rw [u3_a hne]
                  exact hfa i (by omega) q9))
  refine w_aload_n C 0 dX5_choices_0 rfl rfl (by first | rfl | exact isRef_rf _) ?_
  refine w_iconst (v := 0) C dX5_choices_1 (by decide) ?_
  refine w_putI (ci := 6) (k := 0) (f := 192) (v := 0) C rfl i6 (by decide +kernel) (by decide) (by decide) rfl rfl tyX5 tyX5_ok nmX5 rfl rfl rfl dX5_choices_2 hm.o ?_
  refine m_kI hm (by decide) (fun z1 hm => ?_)
  replace hv := hv.P (f := 192) 0 (by decide) (by decide) (by decide)
  refine w_iconst (v := 0) C dX5_choices_5 (by decide) ?_
  refine w_istore_nB (lvq := [(1, _), (0, _)]) C 0 rfl rfl (by first | rfl | exact rf_cat _) dX5_choices_6 rfl (by decide) rfl ?_
  refine w_iconst (v := 0) C dX5_choices_7 (by decide) ?_
  refine w_istore_nB (lvq := [(2, _), (1, _), (0, _)]) C 0 rfl rfl (by first | rfl | exact rf_cat _) dX5_choices_8 rfl (by decide) rfl ?_
  exact w_sub [0, 1, 2] rfl (lst9 _ hv (if_pos rfl) (nN N) 0 z1 M (by omega) hm (kx.rf _ _) (fun i hi => (by cases hi)))
theorem isCnt.uniq {N : NT} {w r s : Int32} (h1 : isCnt N w r) (h2 : isCnt N w s) : r = s := by
  have no : ∀ {k : Int32}, (w < 0 ∨ 7 < w) → ¬ k < 0 → ¬ 7 < k → ¬ w = k := fun q a b e => by rw [e] at q; exact q.elim a b
  rcases h1 with ⟨a, rfl⟩ | ⟨a, rfl⟩ | ⟨a, rfl⟩ | ⟨a, rfl⟩ | ⟨a, rfl⟩ | ⟨a, rfl⟩ | ⟨a, P, hP, rfl⟩ | ⟨a, rfl⟩ | ⟨a, rfl⟩ <;> rcases h2 with ⟨b, rfl⟩ | ⟨b, rfl⟩ | ⟨b, rfl⟩ | ⟨b, rfl⟩ | ⟨b, rfl⟩ | ⟨b, rfl⟩ | ⟨b, P', hP', rfl⟩ | ⟨b, rfl⟩ | ⟨b, rfl⟩ <;>
    first
    | exact absurd (a.symm.trans b) (by decide)
    | exact absurd b (no a (by decide) (by decide))
    | exact absurd a (no b (by decide) (by decide))
    | (rw [show cnt (fun v => decide (P v = nI v)) (nN N) = cnt (fun v => decide (P' v = nI v)) (nN N) from cnt_congr (fun v hv => by rw [(hP v hv).uniq (hP' v hv)])])
    | rfl
theorem cnt_pt (P : Nat → Int32) (g : Nat) (r : Int32) : cnt (fun v => decide (va_up P g r v = nI v)) (g + 1) = cnt (fun v => decide (P v = nI v)) g + (if decide (r = nI g) then 1 else 0) := by
  show cnt (fun v => decide (va_up P g r v = nI v)) g + (if decide (va_up P g r g = nI g) then 1 else 0) = _
  rw [va_up_self]
  congr 1
  refine cnt_congr (fun v hv => ?_)
  rw [show va_up P g r v = P v from if_neg (by omega)]
set_option maxHeartbeats 4000000 in
set_option maxRecDepth 100000 in
theorem c_mcount (l : Launch) (G : Gx) (z : Sto) {mo : Nat} {A : Nat → Nat} {I : Nat → Int32} {M : Nat → Nat → Int32} {N : NT} (h0 : mst z mo A I M) (hv : mv I M N) (hO : nOK N) {w0 : Int32} : Ct l yX5_count wsX5_count ({ frames := 3, cells := 0, slots := 0, locals := 90 } : Room) G z [.ref mo, .int w0] (fun rv z' => ∃ r, rv = some (.int r) ∧ isCnt N w0 r ∧ ∃ I' M', mR z z' mo A I' M' ∧ I' 192 = 0 ∧ mv I' M' N) := by
  refine ct_of (cc := cX5_count) (maxL := 5) (ret := (some .int)) (lv0 := [(0, .ref mo), (1, .int w0)]) (by decide) rfl (by simp [lg_sl, cat_ref, cat_null, cat_int, cat_long, rf_cat]) (by simp [lv_args, cat_ref, cat_null, cat_int, cat_long, rf_cat]) ?_
  intro p e s m args below meth c C hin
  have i6 : ∀ w ∈ u_ws RX5 TX5 16, w ∈ wsX5_count := by decide +kernel
  have hm := mR.rf h0
  have hn := hO.1
  have hl := hO.2.1
  refine w_aload_n C 0 dX5_count_0 rfl rfl (by first | rfl | exact isRef_rf _) ?_
  refine w_iconst (v := 0) C dX5_count_1 (by decide) ?_
  refine w_putI (ci := 6) (k := 0) (f := 192) (v := 0) C rfl i6 (by decide +kernel) (by decide) (by decide) rfl rfl tyX5 tyX5_ok nmX5 rfl rfl rfl dX5_count_2 hm.o ?_
  refine m_kI hm (by decide) (fun z1 hm => ?_)
  replace hv := hv.P (f := 192) 0 (by decide) (by decide) (by decide)
  refine w_aload_n C 0 dX5_count_5 rfl rfl (by first | rfl | exact isRef_rf _) ?_
  refine w_callV (ci := 6) (As := []) (rest := []) C (cwV 0 C.1.2.2.2.2 gX5_count_X5_spread rfl rfl rfl (by decide +kernel) ⟨Nat.le_of_ble_eq_true rfl, Nat.le_of_ble_eq_true rfl⟩) hm.o rfl (by decide) rfl rfl (by first | decide | simp [cat_ref, cat_null, cat_int, cat_long, rf_cat]) dX5_count_6 ⟨Nat.le_of_ble_eq_true rfl, Nat.le_of_ble_eq_true rfl⟩ (c_mspread l G _ hm.2 hv hO) (fun rv z1 h9 => ?_)
  obtain ⟨I2, M2, rfl, hm2, hk2, hI2, hVR, h204⟩ := h9
  replace hm := hm.tr hm2
  replace hv := mv_sp hv hk2 hI2
  refine w_istore_nB (lvq := [(2, _), (0, _), (1, _)]) C 1 rfl rfl (by first | rfl | exact rf_cat _) dX5_count_9 rfl (by decide) rfl ?_
  refine w_iconst (v := 0) C dX5_count_10 (by decide) ?_
  refine w_istore_nB (lvq := [(3, _), (2, _), (0, _), (1, _)]) C 0 rfl rfl (by first | rfl | exact rf_cat _) dX5_count_11 rfl (by decide) rfl ?_
  refine w_iload_n C 3 dX5_count_12 rfl rfl ?_
  have hun : ∀ i, i < nN N → M2 201 i = nV N (nRC N) i := fun i hi => (hVR i hi).1
  have h192 := (hI2 192 (by decide)).trans (if_pos rfl)
  by_cases c0 : w0 < 0 ∨ 7 < w0
  · refine w_tableOut (tgt := 173) C dX5_count_13 (c0.imp (fun q => Int32.lt_iff_toInt_lt.mp q) (fun q => by have h9 := Int32.lt_iff_toInt_lt.mp q; rw [show (7 : Int32).toInt = 7 from by decide] at h9; exact h9)) (by decide) ?_
    refine w_iconst (v := (-1)) C dX5_count_173 (by decide) ?_
    exact w_iret C dX5_count_174 ⟨_, rfl, Or.inr (Or.inr (Or.inr (Or.inr (Or.inr (Or.inr (Or.inr (Or.inr (⟨c0, rfl⟩)))))))), _, _, hm, (hI2 192 (by decide)).trans (if_pos rfl), hv⟩
  · obtain ⟨j, hj, rfl⟩ := nI_of2 (n := 7) (M := 7) (by decide) (fun q => c0 (Or.inl q)) (Int32.not_lt.mp (fun q => c0 (Or.inr q)))
    match j, hj with
    | 0, _ =>
      refine w_tableIn (off := 47) (tgt := 60) C dX5_count_13 (by decide) (by decide) (by decide) (by decide) ?_
      refine w_aload_n C 2 dX5_count_60 rfl rfl (by first | rfl | exact isRef_rf _) ?_
      refine w_getI (ci := 6) (k := 1) (f := 193) C rfl i6 (by decide +kernel) (by decide) (by decide) rfl rfl dX5_count_61 hm.o ((hm.i 193).trans hv.n) ?_
      exact w_iret C dX5_count_64 ⟨_, rfl, Or.inl ⟨rfl, rfl⟩, _, _, hm, (hI2 192 (by decide)).trans (if_pos rfl), hv⟩
    | 1, _ =>
      refine w_tableIn (off := 52) (tgt := 65) C dX5_count_13 (by decide) (by decide) (by decide) (by decide) ?_
      refine w_aload_n C 2 dX5_count_65 rfl rfl (by first | rfl | exact isRef_rf _) ?_
      refine w_getI (ci := 6) (k := 2) (f := 194) C rfl i6 (by decide +kernel) (by decide) (by decide) rfl rfl dX5_count_66 hm.o ((hm.i 194).trans hv.l) ?_
      exact w_iret C dX5_count_69 ⟨_, rfl, Or.inr (Or.inl ⟨rfl, rfl⟩), _, _, hm, (hI2 192 (by decide)).trans (if_pos rfl), hv⟩
    | 2, _ =>
      refine w_tableIn (off := 57) (tgt := 70) C dX5_count_13 (by decide) (by decide) (by decide) (by decide) ?_
      refine w_aload_n C 2 dX5_count_70 rfl rfl (by first | rfl | exact isRef_rf _) ?_
      refine w_getI (ci := 6) (k := 3) (f := 195) C rfl i6 (by decide +kernel) (by decide) (by decide) rfl rfl dX5_count_71 hm.o ((hm.i 195).trans hv.u) ?_
      exact w_iret C dX5_count_74 ⟨_, rfl, Or.inr (Or.inr (Or.inl ⟨rfl, rfl⟩)), _, _, hm, (hI2 192 (by decide)).trans (if_pos rfl), hv⟩
    | 3, _ =>
      refine w_tableIn (off := 62) (tgt := 75) C dX5_count_13 (by decide) (by decide) (by decide) (by decide) ?_
      have loop : ∀ (r g : Nat), g + r = nN N → Wp p l e ({ frames := 3, cells := 0, slots := 0, locals := 90 } : Room) s m args below meth c G 5 0 0 (MQ below (cPost G (fun rv z' => ∃ r, rv = some (.int r) ∧ isCnt N (nI 3) r ∧ ∃ I' M', mR z z' mo A I' M' ∧ I' 192 = 0 ∧ mv I' M' N)) args s (0) (0) (gA G)) z1 78 [(4, .int (nI g)), (3, .int (nI (cnt (fun i => decide (nSo N i = 1)) g))), (0, .ref mo)] [] := by
        intro r
        induction r with
        | zero =>
          intro g hg
          have hgg : g = nN N := by omega
          subst hgg
          refine w_iload C 0 dX5_count_78 rfl ?_
          refine w_aload_n C 2 dX5_count_80 rfl rfl (by first | rfl | exact isRef_rf _) ?_
          refine w_getI (ci := 6) (k := 1) (f := 193) C rfl i6 (by decide +kernel) (by decide) (by decide) rfl rfl dX5_count_81 hm.o ((hm.i 193).trans hv.n) ?_
          refine w_icmp_ge (tgt := 112) C dX5_count_84 (by decide) (fun c1 => ?_) (fun c1 => ?_)
          · refine w_iload_n C 1 dX5_count_112 rfl rfl ?_
            exact w_iret C dX5_count_113 ⟨_, rfl, Or.inr (Or.inr (Or.inr (Or.inl ⟨rfl, rfl⟩))), _, _, hm, (hI2 192 (by decide)).trans (if_pos rfl), hv⟩
          · exact absurd (nI_le (Nat.le_refl _) (by omega)) c1
        | succ r ih =>
          intro g hg
          have hgg : g < nN N := by omega
          have hcs : cnt (fun i => decide (nSo N i = 1)) (g + 1) = cnt (fun i => decide (nSo N i = 1)) g + (if decide (nSo N g = 1) then 1 else 0) := rfl
          refine w_iload C 0 dX5_count_78 rfl ?_
          refine w_aload_n C 2 dX5_count_80 rfl rfl (by first | rfl | exact isRef_rf _) ?_
          refine w_getI (ci := 6) (k := 1) (f := 193) C rfl i6 (by decide +kernel) (by decide) (by decide) rfl rfl dX5_count_81 hm.o ((hm.i 193).trans hv.n) ?_
          refine w_icmp_ge (tgt := 112) C dX5_count_84 (by decide) (fun c1 => ?_) (fun c1 => ?_)
          · exact absurd c1 (nI_ge hgg (by omega))
          · refine w_iload_n C 1 dX5_count_87 rfl rfl ?_
            refine w_aload_n C 2 dX5_count_88 rfl rfl (by first | rfl | exact isRef_rf _) ?_
            refine w_getRs (ci := 6) (k := 4) (f := 196) C rfl i6 (by decide +kernel) (by decide) (by decide) rfl rfl dX5_count_89 hm.o (hm.r 196 rfl) ?_
            refine w_iload C 0 dX5_count_92 rfl ?_
            refine w_iald C dX5_count_94 (hm.a 196 rfl rfl) rfl (hm.q 196 rfl (L := 600) rfl (by omega)) (hm.b 196 rfl) ((hm.e 196 rfl _).trans (hv.s _ (by omega))) ?_
            refine w_iconst (v := 1) C dX5_count_95 (by decide) ?_
            refine w_icmp_ne (tgt := 103) C dX5_count_96 (by decide) (fun c2 => ?_) (fun c2 => ?_)
            · rw [decide_eq_false c2] at hcs
              simp only [Bool.false_eq_true, if_false, Nat.add_zero] at hcs
              refine w_iconst (v := 0) C dX5_count_103 (by decide) ?_
              refine w_iadd C dX5_count_104 ?_
              first
              | refine w_inti (nI_1 _) ?_
              | refine w_inti (Int32.add_zero _) ?_
              refine w_istore_n (lvq := [(3, _), (4, _), (0, _)]) C dX5_count_105 rfl (by decide) rfl ?_
              refine w_iincB (v := nI (g + 1)) (lvq := [(4, _), (3, _), (0, _)]) C 1 0 rfl rfl (by first | rfl | exact rf_cat _) dX5_count_106 rfl (nI_1 g) (by decide) rfl ?_
              refine w_goto (tgt := 78) C dX5_count_109 (by decide) ?_
              exact w_sub [0, 1, 2] rfl (hcs ▸ ih (g + 1) (by omega))
            · rw [decide_eq_true c2] at hcs
              simp only [if_true] at hcs
              refine w_iconst (v := 1) C dX5_count_99 (by decide) ?_
              refine w_goto (tgt := 104) C dX5_count_100 (by decide) ?_
              refine w_iadd C dX5_count_104 ?_
              first
              | refine w_inti (nI_1 _) ?_
              | refine w_inti (Int32.add_zero _) ?_
              refine w_istore_n (lvq := [(3, _), (4, _), (0, _)]) C dX5_count_105 rfl (by decide) rfl ?_
              refine w_iincB (v := nI (g + 1)) (lvq := [(4, _), (3, _), (0, _)]) C 1 0 rfl rfl (by first | rfl | exact rf_cat _) dX5_count_106 rfl (nI_1 g) (by decide) rfl ?_
              refine w_goto (tgt := 78) C dX5_count_109 (by decide) ?_
              exact w_sub [0, 1, 2] rfl (hcs ▸ ih (g + 1) (by omega))
      refine w_iconst (v := 0) C dX5_count_75 (by decide) ?_
      refine w_istoreB (lvq := [(4, _), (3, _), (2, _), (0, _), (1, _)]) C 0 rfl rfl (by first | rfl | exact rf_cat _) dX5_count_76 (by decide) rfl ?_
      exact w_sub [0, 1, 3] rfl (loop (nN N) 0 (by omega))
    | 4, _ =>
      refine w_tableIn (off := 101) (tgt := 114) C dX5_count_13 (by decide) (by decide) (by decide) (by decide) ?_
      refine w_aload_n C 2 dX5_count_114 rfl rfl (by first | rfl | exact isRef_rf _) ?_
      refine w_callV (ci := 6) (As := []) (rest := []) C (cwV 0 C.1.2.2.2.2 gX5_count_X5_unknown rfl rfl rfl (by decide +kernel) ⟨Nat.le_of_ble_eq_true rfl, Nat.le_of_ble_eq_true rfl⟩) hm.o rfl (by decide) rfl rfl (by first | decide | simp [cat_ref, cat_null, cat_int, cat_long, rf_cat]) dX5_count_115 ⟨Nat.le_of_ble_eq_true rfl, Nat.le_of_ble_eq_true rfl⟩ (c_unknown l G _ hm.2 hv hO (k := nRC N) hun) (fun rv z2 h9 => ?_)
      obtain ⟨rfl, e9⟩ := h9
      replace e9 := e9.symm
      subst e9
      exact w_iret C dX5_count_118 ⟨_, rfl, Or.inr (Or.inr (Or.inr (Or.inr (Or.inl ⟨rfl, rfl⟩)))), _, _, hm, (hI2 192 (by decide)).trans (if_pos rfl), hv⟩
    | 5, _ =>
      refine w_tableIn (off := 106) (tgt := 119) C dX5_count_13 (by decide) (by decide) (by decide) (by decide) ?_
      refine w_aload_n C 2 dX5_count_119 rfl rfl (by first | rfl | exact isRef_rf _) ?_
      refine w_getI (ci := 6) (k := 12) (f := 204) C rfl i6 (by decide +kernel) (by decide) (by decide) rfl rfl dX5_count_120 hm.o ((hm.i 204).trans h204) ?_
      exact w_iret C dX5_count_123 ⟨_, rfl, Or.inr (Or.inr (Or.inr (Or.inr (Or.inr (Or.inl ⟨rfl, rfl⟩))))), _, _, hm, (hI2 192 (by decide)).trans (if_pos rfl), hv⟩
    | 6, _ =>
      refine w_tableIn (off := 111) (tgt := 124) C dX5_count_13 (by decide) (by decide) (by decide) (by decide) ?_
      have loop : ∀ (r g : Nat) (z1 : Sto) (M1 : Nat → Nat → Int32) (P : Nat → Int32), g + r = nN N → mR z z1 mo A I2 M1 → mv I2 M1 N → (∀ v, v < g → isPart (nsc (nSo N) (nFd N)) v (P v)) → Wp p l e ({ frames := 3, cells := 0, slots := 0, locals := 90 } : Room) s m args below meth c G 5 0 0 (MQ below (cPost G (fun rv z' => ∃ r, rv = some (.int r) ∧ isCnt N (nI 6) r ∧ ∃ I' M', mR z z' mo A I' M' ∧ I' 192 = 0 ∧ mv I' M' N)) args s (0) (0) (gA G)) z1 127 [(4, .int (nI g)), (3, .int (nI (cnt (fun v => decide (P v = nI v)) g))), (0, .ref mo)] [] := by
        intro r
        induction r with
        | zero =>
          intro g z1 M1 P hg hm hv hP
          have hgg : g = nN N := by omega
          subst hgg
          refine w_iload C 0 dX5_count_127 rfl ?_
          refine w_aload_n C 2 dX5_count_129 rfl rfl (by first | rfl | exact isRef_rf _) ?_
          refine w_getI (ci := 6) (k := 1) (f := 193) C rfl i6 (by decide +kernel) (by decide) (by decide) rfl rfl dX5_count_130 hm.o ((hm.i 193).trans hv.n) ?_
          refine w_icmp_ge (tgt := 161) C dX5_count_133 (by decide) (fun c1 => ?_) (fun c1 => ?_)
          · refine w_iload_n C 1 dX5_count_161 rfl rfl ?_
            exact w_iret C dX5_count_162 ⟨_, rfl, Or.inr (Or.inr (Or.inr (Or.inr (Or.inr (Or.inr (Or.inl ⟨rfl, _, hP, rfl⟩)))))), _, _, hm, h192, hv⟩
          · exact absurd (nI_le (Nat.le_refl _) (by omega)) c1
        | succ r ih =>
          intro g z1 M1 P hg hm hv hP
          have hgg : g < nN N := by omega
          refine w_iload C 0 dX5_count_127 rfl ?_
          refine w_aload_n C 2 dX5_count_129 rfl rfl (by first | rfl | exact isRef_rf _) ?_
          refine w_getI (ci := 6) (k := 1) (f := 193) C rfl i6 (by decide +kernel) (by decide) (by decide) rfl rfl dX5_count_130 hm.o ((hm.i 193).trans hv.n) ?_
          refine w_icmp_ge (tgt := 161) C dX5_count_133 (by decide) (fun c1 => ?_) (fun c1 => ?_)
          · exact absurd c1 (nI_ge hgg (by omega))
          · refine w_iload_n C 1 dX5_count_136 rfl rfl ?_
            refine w_aload_n C 2 dX5_count_137 rfl rfl (by first | rfl | exact isRef_rf _) ?_
            refine w_iload C 0 dX5_count_138 rfl ?_
            refine w_callV (ci := 6) (As := [.int (nI g)]) (rest := [.int (nI (cnt (fun v => decide (P v = nI v)) g))]) C (cwV 1 C.1.2.2.2.2 gX5_count_X5_part rfl rfl rfl (by decide +kernel) ⟨Nat.le_of_ble_eq_true rfl, Nat.le_of_ble_eq_true rfl⟩) hm.o rfl (by decide) rfl rfl (by first | decide | simp [cat_ref, cat_null, cat_int, cat_long, rf_cat]) dX5_count_140 ⟨Nat.le_of_ble_eq_true rfl, Nat.le_of_ble_eq_true rfl⟩ (c_part l G _ hm.2 hv hO hgg) (fun rv z1 h9 => ?_)
            obtain ⟨pr, M3, rfl, hp9, hm3, hk3⟩ := h9
            replace hm := hm.tr hm3
            replace hv := hv.kx hk3 rfl
            have hcs := cnt_pt P g pr
            refine w_iload C 0 dX5_count_143 rfl ?_
            refine w_icmp_ne (tgt := 152) C dX5_count_145 (by decide) (fun c2 => ?_) (fun c2 => ?_)
            · rw [decide_eq_false c2] at hcs
              simp only [Bool.false_eq_true, if_false, Nat.add_zero] at hcs
              refine w_iconst (v := 0) C dX5_count_152 (by decide) ?_
              refine w_iadd C dX5_count_153 ?_
              first
              | refine w_inti (nI_1 _) ?_
              | refine w_inti (Int32.add_zero _) ?_
              refine w_istore_n (lvq := [(3, _), (4, _), (0, _)]) C dX5_count_154 rfl (by decide) rfl ?_
              refine w_iincB (v := nI (g + 1)) (lvq := [(4, _), (3, _), (0, _)]) C 1 0 rfl rfl (by first | rfl | exact rf_cat _) dX5_count_155 rfl (nI_1 g) (by decide) rfl ?_
              refine w_goto (tgt := 127) C dX5_count_158 (by decide) ?_
              have h9 := ih (g + 1) z1 M3 (va_up P g pr) (by omega) hm hv (fun v hv9 => by
                by_cases e9 : v = g
                · rw [e9, va_up_self]; exact hp9
                · rw [show va_up P g pr v = P v from if_neg e9]; exact hP v (by omega))
              rw [hcs] at h9
              exact w_sub [0, 1, 2] rfl h9
            · rw [decide_eq_true c2] at hcs
              simp only [if_true] at hcs
              refine w_iconst (v := 1) C dX5_count_148 (by decide) ?_
              refine w_goto (tgt := 153) C dX5_count_149 (by decide) ?_
              refine w_iadd C dX5_count_153 ?_
              first
              | refine w_inti (nI_1 _) ?_
              | refine w_inti (Int32.add_zero _) ?_
              refine w_istore_n (lvq := [(3, _), (4, _), (0, _)]) C dX5_count_154 rfl (by decide) rfl ?_
              refine w_iincB (v := nI (g + 1)) (lvq := [(4, _), (3, _), (0, _)]) C 1 0 rfl rfl (by first | rfl | exact rf_cat _) dX5_count_155 rfl (nI_1 g) (by decide) rfl ?_
              refine w_goto (tgt := 127) C dX5_count_158 (by decide) ?_
              have h9 := ih (g + 1) z1 M3 (va_up P g pr) (by omega) hm hv (fun v hv9 => by
                by_cases e9 : v = g
                · rw [e9, va_up_self]; exact hp9
                · rw [show va_up P g pr v = P v from if_neg e9]; exact hP v (by omega))
              rw [hcs] at h9
              exact w_sub [0, 1, 2] rfl h9
      refine w_iconst (v := 0) C dX5_count_124 (by decide) ?_
      refine w_istoreB (lvq := [(4, _), (3, _), (2, _), (0, _), (1, _)]) C 0 rfl rfl (by first | rfl | exact rf_cat _) dX5_count_125 (by decide) rfl ?_
      exact w_sub [0, 1, 3] rfl (loop (nN N) 0 z1 M2 (fun _ => 0) (by omega) hm hv (fun v hv9 => (by cases hv9)))
    | 7, _ =>
      refine w_tableIn (off := 150) (tgt := 163) C dX5_count_13 (by decide) (by decide) (by decide) (by decide) ?_
      refine w_iload_n C 1 dX5_count_163 rfl rfl ?_
      refine w_if_eq (tgt := 171) C dX5_count_164 (by decide) (fun c1 => ?_) (fun c1 => ?_)
      · have hd9 : decide (nUn N (nRC N) = 0) = false := (bI_0 _).mp c1
        refine w_iconst (v := 0) C dX5_count_171 (by decide) ?_
        exact w_iret C dX5_count_172 ⟨_, rfl, Or.inr (Or.inr (Or.inr (Or.inr (Or.inr (Or.inr (Or.inr (Or.inl ⟨rfl, (by rw [hd9]; rfl)⟩))))))), _, _, hm, (hI2 192 (by decide)).trans (if_pos rfl), hv⟩
      · have hd9 : decide (nUn N (nRC N) = 0) = true := by
          cases q9 : decide (nUn N (nRC N) = 0) with
          | true => rfl
          | false => exact absurd ((bI_0 _).mpr q9) c1
        refine w_iconst (v := 1) C dX5_count_167 (by decide) ?_
        refine w_goto (tgt := 172) C dX5_count_168 (by decide) ?_
        exact w_iret C dX5_count_172 ⟨_, rfl, Or.inr (Or.inr (Or.inr (Or.inr (Or.inr (Or.inr (Or.inr (Or.inl ⟨rfl, (by rw [hd9]; rfl)⟩))))))), _, _, hm, (hI2 192 (by decide)).trans (if_pos rfl), hv⟩
