/-! ===== Parts: findIn, <init> ===== -/
theorem pF_cl {z z' : Sto} {ol : Nat} (h : clF z z' ol) : pF z z' ol := by
  obtain ⟨a1, a2, a3, a4, a5, a6, a7, a8, a9⟩ := h
  refine ⟨fun b k q => ⟨by rw [a1]; exact q.1, by rw [a2]; exact q.2⟩, fun f b _ q => a3 f b q, a4, fun f b _ _ => by rw [a5], fun b _ => ⟨by rw [a6], by rw [a7], by rw [a8]⟩, fun b _ q => ⟨a9 b q, by rw [a5]; exact q⟩⟩
/-- a list beside the order's keeps -/
def rsep (z : Sto) (gl ol : Nat) : Prop := gl ≠ ol ∧ ∀ d, sR z 1 gl = some d → is z d 9 → sR z 1 ol ≠ some d
theorem lst_pF {G : Gx} {z z' : Sto} {gl ol n cap : Nat} {f : Nat → Nat} (h : lst G z gl n f cap) (hs : rsep z gl ol) (hF : pF z z' ol) : lst G z' gl n f cap := by
  obtain ⟨a1, a2, a3, a4, a5, a6⟩ := hF
  exact lst_ext h a1 (a2 2 gl rfl (Or.inr hs.1)) (a4 1 gl rfl (Or.inr hs.1)) (fun d hd hi => ⟨(a5 d hi.1).1, (a6 d hi.1 (hs.2 d hd hi)).1⟩)
theorem gts_pF {z z' : Sto} {n ol : Nat} {ga : Nat → Nat} {so : Nat → Int32} {fd : Nat → List (Nat × Int32)} (h : gts z n ga so fd) (hF : pF z z' ol) : gts z' n ga so fd :=
  gts_ext h hF.1 (fun f b hf => hF.2.1 f b (by rcases hf with rfl | rfl | rfl <;> rfl) (Or.inl (by rcases hf with rfl | rfl | rfl <;> decide))) (fun f b hf => hF.2.2.2.1 f b (by rcases hf with rfl | rfl | rfl <;> rfl) (Or.inl (by rcases hf with rfl | rfl | rfl <;> decide)))
/-- what findIn tells -/
def ptR (G : Gx) (z : Sto) (pt ol n : Nat) (ga : Nat → Nat) (so : Nat → Int32) (fd : Nat → List (Nat × Int32)) : Prop :=
  (∀ v, v < n → isPart (nsc so fd) v (sI z 78 (ga v))) ∧ sI z 129 pt = nI (cnt (fun v => decide (sI z 78 (ga v) = nI v)) n) ∧
  ∃ (os : List Nat) (cap : Nat), lst G z ol os.length (fun i => ga (os.getD i 0)) cap ∧ cap ≤ 900 ∧ os.length ≤ n ∧ (∀ v ∈ os, v < n ∧ isLog (so v) = true) ∧ (∀ v, v < n → isLog (so v) = true → v ∈ os)
def A00 (cap : Nat) : AS := (0, fun _ => false, fun _ => 0, fun _ => 0, fun _ => [], fun _ => false, [], [], fun _ => 0, 0, [], cap)
theorem TIX_0 (n : Nat) (so : Nat → Int32) (fd : Nat → List (Nat × Int32)) {cap : Nat} (hc : cap ≤ 900) : TIX n so fd (A00 cap) := by
  have hse : ∀ v, aSe (A00 cap) v = false := fun _ => rfl
  have hst : aSt (A00 cap) = [] := rfl
  refine ⟨⟨fun v hv => (by cases hv), List.Pairwise.nil, fun v _ q => (by rw [hse] at q; cases q), fun v hv => (by cases hv), fun v hv => (by cases hv), rfl⟩, (cnt_zero (fun i _ => rfl)).symm, fun v _ q => (by rw [hse] at q; cases q), (cnt_zero (fun i _ => rfl)).symm, Nat.le_refl _, fun v hv => (by cases hv), fun v _ q => (by rw [hse] at q; cases q), hc, fun v _ q => (by rw [hse] at q; cases q)⟩
theorem mA_le {n : Nat} {so : Nat → Int32} {fd : Nat → List (Nat × Int32)} {A : AS} (hp : aPa A = []) (hn : n ≤ 600) (hf : sumN (fun v => (fd v).length) n ≤ 2400) : mA n so fd A ≤ 3000 := by
  have h1 : mA n so fd A ≤ sumN (fun v => 1 + (fd v).length) n := sumN_le (fun i _ => by
    unfold tmA
    rw [hp]
    split
    · rw [if_neg (by simp)]; omega
    · unfold nrm; split <;> simp)
  have := sumN_add (fun v => (fd v).length) n 1
  omega
/-- the walk's end tells the parts -/
theorem ptR_of {G : Gx} {z : Sto} {pt ol n : Nat} {ga : Nat → Nat} {so : Nat → Int32} {fd : Nat → List (Nat × Int32)} {A : AS} (h : wrp G z pt ol n ga so fd A) (hx : TIX n so fd A) (hp : aPa A = []) (hall : ∀ v, v < n → aSe A v = true) : ptR G z pt ol n ga so fd := by
  obtain ⟨⟨a1, a2, a3⟩, ⟨b1, b2, b3, b4⟩, c1, c2, c3, c4, c5⟩ := id h
  obtain ⟨t, x1, x2, x3, x4, x5, x6, x7, x8⟩ := id hx
  have hst : aSt A = [] := by have := t.2.2.2.2.2; rw [hp] at this; exact this
  have e78 : ∀ v, v < n → sI z 78 (ga v) = aPt A v := fun v hv => c4 v hv (hall v hv) (by rw [hst]; simp)
  refine ⟨fun v hv => ?_, ?_, aOr A, aCp A, c5, x7, ?_, x5, fun v hv hl => ?_⟩
  · rw [e78 v hv]
    exact x2 v hv (hall v hv) (by rw [hst]; simp)
  · rw [b2, x3]
    congr 1
    refine cnt_congr (fun i hi => ?_)
    rw [hall i hi, hst, e78 i hi]
    simp
  · rw [hp] at x4
    have := cnt_le (aSe A) n
    simp only [List.length_nil] at x4
    omega
  · rcases x6 v hv (hall v hv) hl with q | q
    · exact q
    · rw [hp] at q; cases q

theorem aSe_lA (so : Nat → Int32) (A : AS) (p : Nat) (ps : List Nat) : aSe (lA so A p ps) = aSe A := by unfold lA; simp only []; split <;> rfl
theorem sA_seen {so : Nat → Int32} {fd : Nat → List (Nat × Int32)} {A : AS} {v : Nat} (h : aSe A v = true) : aSe (sA so fd A) v = true := by
  unfold sA
  split
  · exact h
  · split
    · rw [aSe_lA]; exact h
    · next x rs _ =>
      split
      · exact h
      · show va_up (aSe A) x.1 true v = true
        by_cases q : v = x.1
        · rw [q]; exact va_up_self _ _ _
        · rw [va_up_ne _ _ q]; exact h
theorem rA_seen {so : Nat → Int32} {fd : Nat → List (Nat × Int32)} {v : Nat} : ∀ (k : Nat) (A : AS), aSe A v = true → aSe (rA so fd k A) v = true := by
  intro k
  induction k with
  | zero => intro A h; exact h
  | succ k ih =>
    intro A h
    cases hp : aPa A with
    | nil => rw [rA_nil _ hp]; exact h
    | cons p ps => rw [rA_succ k hp]; exact ih _ (sA_seen h)
theorem wE_seen {so : Nat → Int32} {fd : Nat → List (Nat × Int32)} {A : AS} {i v : Nat} (hall : ∀ v, v < i → aSe A v = true) (hse : aSe A i = false) (hv : v < i + 1) : aSe (wE so fd A i) v = true := by
  refine rA_seen _ _ ?_
  show va_up (aSe A) i true v = true
  by_cases q : v = i
  · rw [q]; exact va_up_self _ _ _
  · rw [va_up_ne _ _ q]; exact hall v (by omega)
/-- the pure walk keeps its invariant -/
def cpo (A : AS) : Prop := (aOr A).length ≤ aCp A ∧ (aCp A = 0 ∨ 10 ≤ aCp A)
theorem cpo_l {so : Nat → Int32} {A : AS} (h : cpo A) (p : Nat) (ps : List Nat) : cpo (lA so A p ps) := by
  have h2 : (orA so A p).length ≤ cpA so A p ∧ (cpA so A p = 0 ∨ 10 ≤ cpA so A p) := by
    unfold orA cpA
    unfold cpo at h
    split
    · rw [List.length_append, List.length_singleton]
      split
      · omega
      · unfold gcap; split <;> omega
    · exact h
  by_cases hl : aLo A p = aSa A p
  · rw [lA_t so ps hl]; exact h2
  · rw [lA_f so ps hl]; exact h2
theorem rA_TIX {n : Nat} {so : Nat → Int32} {fd : Nat → List (Nat × Int32)} (hn : n ≤ 600) (hfd : ∀ v, v < n → ∀ x ∈ fd v, x.1 < n) : ∀ (k : Nat) (A : AS), TIX n so fd A → cpo A → TIX n so fd (rA so fd k A) := by
  intro k
  induction k with
  | zero => intro A h _; exact h
  | succ k ih =>
    intro A h hc
    cases hp : aPa A with
    | nil => rw [rA_nil _ hp]; exact h
    | cons p ps =>
      rw [rA_succ k hp]
      have hps : p ∈ aSt A := TIA_sub h.1 p (by rw [hp]; exact List.mem_cons_self)
      have hpn := (h.1.1 p hps).1
      cases hr : aRm A p with
      | nil => rw [sA_l hp hr]; exact ih _ (TIX_leave hn hfd h hc.1 hp hr) (cpo_l hc p ps)
      | cons x rs =>
        have hxn : x.1 < n := by
          obtain ⟨dn, d1, -, -⟩ := h.1.2.2.2.1 p hps
          have : x.1 ∈ nsc so fd p := by rw [d1]; refine List.mem_append_right _ ?_; show x.1 ∈ (aRm A p).map Prod.fst; rw [hr]; exact List.mem_cons_self
          unfold nsc at this
          split at this
          · obtain ⟨y, hy, e⟩ := List.mem_map.mp this
            rw [← e]; exact hfd p hpn y hy
          · cases this
        cases hs : aSe A x.1 with
        | true => rw [sA_f hp hr hs]; exact ih _ (TIX_follow h hp hr hs) hc
        | false => rw [sA_e hp hr hs]; exact ih _ (TIX_enter h hxn hs (TIA_enter1 h.1 hp hr hxn hs)) hc
theorem wE_cap {G : Gx} {z : Sto} {pt ol n u : Nat} {ga : Nat → Nat} {so : Nat → Int32} {fd : Nat → List (Nat × Int32)} {A : AS} (h : wrp G z pt ol n ga so fd A) (hx : TIX n so fd A) (hp : aPa A = []) (hn : n ≤ 600) (hf : sumN (fun v => (fd v).length) n ≤ 2400) (hu : u < n) (hs : aSe A u = false) : aCp (wE so fd A u) ≤ 900 :=
  (rA_TIX hn (fun v hv => (h.1.2.2.1 v hv).2.2.2.2) 3000 _ (TIX_enter hx hu hs (TIA_enter0 hx.1 hp hu hs)) (id (wrp_cap h : cpo A))).2.2.2.2.2.2.2.1
theorem lst_cl {G : Gx} {z z1 : Sto} {ol no cap pt : Nat} {fo : Nat → Nat} (h : lst G z ol no fo cap) (hC : clF z z1 ol) (h2 : sI z1 2 ol = 0) : lst G (putR (putI (putI z1 129 pt 0) 130 pt 0) 131 pt none) ol 0 fo cap := by
  obtain ⟨a1, a2, a3, a4, a5⟩ := h
  obtain ⟨c1, c2, c3, c4, c5, c6, c7, c8, c9⟩ := hC
  have his : ∀ b k, is z b k → is (putR (putI (putI z1 129 pt 0) 130 pt 0) 131 pt none) b k := fun b k q => ⟨by show b ∈ sL z1; rw [c1]; exact q.1, by show sK z1 b = k; rw [c2]; exact q.2⟩
  refine ⟨his _ _ a1, rI_R (rI_If (by decide) (rI_If (by decide) h2)), Nat.zero_le _, a4, ?_⟩
  have e1 : sR (putR (putI (putI z1 129 pt 0) 130 pt 0) 131 pt none) 1 ol = sR z 1 ol := rR_Rf (by decide) (by show sR z1 1 ol = _; rw [c5])
  rcases a5 with ⟨b1, b2⟩ | ⟨b1, d, b2, b3, b4, b5⟩
  · exact Or.inl ⟨b1, e1.trans b2⟩
  · exact Or.inr ⟨b1, d, e1.trans b2, his _ _ b3, by show sN z1 d = cap; rw [c6]; exact b4, fun i hi => by cases hi⟩
set_option maxHeartbeats 4000000 in
set_option maxRecDepth 100000 in
theorem c_findIn (l : Launch) (G : Gx) (z : Sto) {pt ol gl n no cap capg : Nat} {ga fo : Nat → Nat} {so : Nat → Int32} {fd : Nat → List (Nat × Int32)} (hpt : is z pt 4) (hol : sR z 128 pt = some ol) (hlo : lst G z ol no fo cap) (hcap : cap ≤ 900) (hg : lst G z gl n ga capg) (hsep : rsep z gl ol) (hgt : gts z n ga so fd) (hn : n ≤ 600) (hf : sumN (fun v => (fd v).length) n ≤ 2400) : Ct l yX3_findIn wsX3_findIn ({ frames := 9, cells := 900, slots := 3600, locals := 280 } : Room) G z [.ref pt, .ref gl] (fun rv z' => rv = none ∧ pF z z' ol ∧ ptR G z' pt ol n ga so fd) := by
  refine ct_of (cc := cX3_findIn) (maxL := 3) (ret := none) (lv0 := [(0, .ref pt), (1, .ref gl)]) (by decide) rfl (by simp [lg_sl, cat_ref, cat_null, cat_int, cat_long, rf_cat]) (by simp [lv_args, cat_ref, cat_null, cat_int, cat_long, rf_cat]) ?_
  intro p e s m args below meth c C hin
  have i2 : ∀ w ∈ u_ws RX1 TX1 17, w ∈ wsX3_findIn := by decide +kernel
  have i4 : ∀ w ∈ u_ws RX3 TX3 4, w ∈ wsX3_findIn := by decide +kernel
  have loop2 : ∀ (k i : Nat) (A : AS) (z1 : Sto), i + k = n → wrp G z1 pt ol n ga so fd A → TIX n so fd A → aPa A = [] → pF z z1 ol → cap ≤ aCp A → (∀ v, v < i → aSe A v = true) → Wp p l e ({ frames := 9, cells := 900, slots := 3600, locals := 280 } : Room) s m args below meth c G 3 (aCp A - cap) (4 * (aCp A - cap)) (MQ below (cPost G (fun rv z' => rv = none ∧ pF z z' ol ∧ ptR G z' pt ol n ga so fd)) args s (900) (3600) (gA G)) z1 52 [(2, .int (nI i)), (0, .ref pt), (1, .ref gl)] [] := by
    intro k
    induction k with
    | zero =>
      intro i A z1 hi h1 hx hp hF hc hall
      have hin : i = n := by omega
      subst hin
      have hx7 := hx.2.2.2.2.2.2.2.1
      have hl1 := lst_pF hg hsep hF
      refine w_iload_n C 0 dX3_findIn_52 rfl rfl ?_
      refine w_aload_n C 2 dX3_findIn_53 rfl rfl (by first | rfl | exact isRef_rf _) ?_
      refine w_callV (ci := 0) (As := []) (rest := [.int (nI i)]) C (cwV 0 C.1.2.2.2.2 gX3_findIn_Jx4a65c_size_8abf5 rfl rfl rfl (by decide +kernel) ⟨Nat.le_of_ble_eq_true rfl, Nat.le_of_ble_eq_true rfl⟩) hl1.1 rfl (by decide) rfl rfl (by first | decide | simp [cat_ref, cat_null, cat_int, cat_long, rf_cat]) dX3_findIn_54 ⟨by (try dsimp only); omega, by (try dsimp only); omega⟩ (c_size l G z1 hl1) (fun rv z2 h9 => ?_)
      obtain ⟨rfl, e1⟩ := h9
      replace e1 := e1.symm
      subst e1
      refine w_icmp_ge (tgt := 93) C dX3_findIn_57 (by decide) (fun c1 => ?_) (fun c1 => ?_)
      · refine w_widen (k := 900) (n := 3600) (by (try dsimp only); omega) (by (try dsimp only); omega) ?_
        exact w_vret C dX3_findIn_93 ⟨rfl, hF, ptR_of h1 hx hp hall⟩
      · exact absurd (by exact nI_le (Nat.le_refl i) (by omega)) c1
    | succ k ih =>
      intro i A z1 hi h1 hx hp hF hc hall
      have hin : i < n := by omega
      have hx7 := hx.2.2.2.2.2.2.2.1
      have hl1 := lst_pF hg hsep hF
      have hgi := (h1.1.2.2.1 i hin).1
      have e71 := h1.2.2.1 i hin
      refine w_iload_n C 0 dX3_findIn_52 rfl rfl ?_
      refine w_aload_n C 2 dX3_findIn_53 rfl rfl (by first | rfl | exact isRef_rf _) ?_
      refine w_callV (ci := 0) (As := []) (rest := [.int (nI i)]) C (cwV 0 C.1.2.2.2.2 gX3_findIn_Jx4a65c_size_8abf5 rfl rfl rfl (by decide +kernel) ⟨Nat.le_of_ble_eq_true rfl, Nat.le_of_ble_eq_true rfl⟩) hl1.1 rfl (by decide) rfl rfl (by first | decide | simp [cat_ref, cat_null, cat_int, cat_long, rf_cat]) dX3_findIn_54 ⟨by (try dsimp only); omega, by (try dsimp only); omega⟩ (c_size l G z1 hl1) (fun rv z2 h9 => ?_)
      obtain ⟨rfl, e1⟩ := h9
      replace e1 := e1.symm
      subst e1
      refine w_icmp_ge (tgt := 93) C dX3_findIn_57 (by decide) (fun c1 => ?_) (fun c1 => ?_)
      · exact absurd c1 (nI_ge hin (by omega))
      · refine w_aload_n C 2 dX3_findIn_60 rfl rfl (by first | rfl | exact isRef_rf _) ?_
        refine w_iload_n C 0 dX3_findIn_61 rfl rfl ?_
        refine w_callV (ci := 0) (As := [.int (nI i)]) (rest := []) C (cwV 1 C.1.2.2.2.2 gX3_findIn_Jx4a65c_get_915e3 rfl rfl rfl (by decide +kernel) ⟨Nat.le_of_ble_eq_true rfl, Nat.le_of_ble_eq_true rfl⟩) hl1.1 rfl (by decide) rfl rfl (by first | decide | simp [cat_ref, cat_null, cat_int, cat_long, rf_cat]) dX3_findIn_62 ⟨by (try dsimp only); omega, by (try dsimp only); omega⟩ (c_get l G z1 hl1 hin) (fun rv z2 h9 => ?_)
        obtain ⟨rfl, e1⟩ := h9
        replace e1 := e1.symm
        subst e1
        refine w_cast (ci := 2) C (by decide +kernel) hgi rfl (by decide) dX3_findIn_65 ?_
        refine w_getI (ci := 2) (k := 7) (f := 71) C rfl i2 (by decide +kernel) (by decide) (by decide) rfl rfl dX3_findIn_68 hgi e71 ?_
        refine w_iconst (v := (-1)) C dX3_findIn_71 (by decide) ?_
        refine w_icmp_ne (tgt := 87) C dX3_findIn_72 (by decide) (fun c2 => ?_) (fun c2 => ?_)
        · have hse : aSe A i = true := by
            cases q : aSe A i with
            | true => rfl
            | false => rw [q] at c2; exact absurd rfl c2
          refine w_iincB (v := nI (i + 1)) (lvq := [(2, _), (0, _), (1, _)]) C 0 2 rfl rfl (by first | rfl | exact rf_cat _) dX3_findIn_87 rfl (nI_1 i) (by decide) rfl ?_
          refine w_goto (tgt := 52) C dX3_findIn_90 (by decide) ?_
          first | exact w_sub [0, 1, 2] rfl (ih (i + 1) (wE so fd A i) z2 (by omega) hw2 hX2 hp2 (hF.tr hF2) (by omega) (fun v hv => wE_seen hall hse hv)) | exact w_sub [0, 1, 2] rfl (ih (i + 1) A z1 (by omega) h1 hx hp hF hc (fun v hv => by rcases Nat.lt_succ_iff_lt_or_eq.mp hv with q | q; exact hall v q; rw [q]; exact hse))
        · have hse : aSe A i = false := by
            cases q : aSe A i with
            | false => rfl
            | true => rw [q, if_pos rfl] at c2; have hb := hx.2.2.2.2.2.2.2.2 i hin q; have hb2 := cnt_le (aSe A) n; rw [← hx.2.1] at hb2; exact absurd (c2 ▸ nI_pos (n := aSa A i) (by omega) : ¬ (-1 : Int32) < 0) (by decide)
          have hmm := mA_le (so := so) (A := A) hp hn hf
          have hcE : aCp A ≤ aCp (wE so fd A i) := Nat.le_trans (show aCp A ≤ aCp (eA so fd A (aRm A) i) from Nat.le_refl _) (rA_cap 3000 _)
          have hE9 : aCp (wE so fd A i) ≤ 900 := wE_cap h1 hx hp hn hf hin hse
          refine w_aload_n C 1 dX3_findIn_75 rfl rfl (by first | rfl | exact isRef_rf _) ?_
          refine w_aload_n C 2 dX3_findIn_76 rfl rfl (by first | rfl | exact isRef_rf _) ?_
          refine w_iload_n C 0 dX3_findIn_77 rfl rfl ?_
          refine w_callV (ci := 0) (As := [.int (nI i)]) (rest := [.ref pt]) C (cwV 1 C.1.2.2.2.2 gX3_findIn_Jx4a65c_get_915e3 rfl rfl rfl (by decide +kernel) ⟨Nat.le_of_ble_eq_true rfl, Nat.le_of_ble_eq_true rfl⟩) hl1.1 rfl (by decide) rfl rfl (by first | decide | simp [cat_ref, cat_null, cat_int, cat_long, rf_cat]) dX3_findIn_78 ⟨by (try dsimp only); omega, by (try dsimp only); omega⟩ (c_get l G z1 hl1 hin) (fun rv z2 h9 => ?_)
          obtain ⟨rfl, e1⟩ := h9
          replace e1 := e1.symm
          subst e1
          refine w_cast (ci := 2) C (by decide +kernel) hgi rfl (by decide) dX3_findIn_81 ?_
          refine w_callV (ci := 4) (As := [.ref (ga i)]) (rest := []) C (cwV 1 C.1.2.2.2.2 gX3_findIn_X3_walkFrom rfl rfl rfl (by decide +kernel) ⟨Nat.le_of_ble_eq_true rfl, Nat.le_of_ble_eq_true rfl⟩) h1.1.1 rfl (by decide) rfl rfl (by first | decide | simp [cat_ref, cat_null, cat_int, cat_long, rf_cat]) dX3_findIn_84 ⟨by dsimp only; have := hE9; omega, by dsimp only; have := hE9; omega⟩ (c_walkFrom l G z1 h1 hx hp hn hmm hin hse) (fun rv z2 h9 => ?_)
          obtain ⟨rfl, hw2, hX2, hp2, hF2⟩ := h9
          refine w_widen (k := aCp (wE so fd A i) - cap) (n := 4 * (aCp (wE so fd A i) - cap)) (by dsimp only; omega) (by dsimp only; omega) ?_
          refine w_iincB (v := nI (i + 1)) (lvq := [(2, _), (0, _), (1, _)]) C 0 2 rfl rfl (by first | rfl | exact rf_cat _) dX3_findIn_87 rfl (nI_1 i) (by decide) rfl ?_
          refine w_goto (tgt := 52) C dX3_findIn_90 (by decide) ?_
          first | exact w_sub [0, 1, 2] rfl (ih (i + 1) (wE so fd A i) z2 (by omega) hw2 hX2 hp2 (hF.tr hF2) (by omega) (fun v hv => wE_seen hall hse hv)) | exact w_sub [0, 1, 2] rfl (ih (i + 1) A z1 (by omega) h1 hx hp hF hc (fun v hv => by rcases Nat.lt_succ_iff_lt_or_eq.mp hv with q | q; exact hall v q; rw [q]; exact hse))
  have loop1 : ∀ (k i : Nat) (z1 : Sto), i + k = n → pF z z1 ol → sI z1 129 pt = 0 → sI z1 130 pt = 0 → sR z1 131 pt = none → lst G z1 ol 0 fo cap → (∀ v, v < i → sI z1 71 (ga v) = -1) → Wp p l e ({ frames := 9, cells := 900, slots := 3600, locals := 280 } : Room) s m args below meth c G 3 0 0 (MQ below (cPost G (fun rv z' => rv = none ∧ pF z z' ol ∧ ptR G z' pt ol n ga so fd)) args s (900) (3600) (gA G)) z1 24 [(2, .int (nI i)), (0, .ref pt), (1, .ref gl)] [] := by
    intro k
    induction k with
    | zero =>
      intro i z1 hi hF h129 h130 h131 hol1 h71
      have hin : i = n := by omega
      subst hin
      have hl1 := lst_pF hg hsep hF
      have hgt1 := gts_pF hgt hF
      have hw : wrp G z1 pt ol i ga so fd (A00 cap) := ⟨⟨hF.1 _ _ hpt, (hF.2.2.2.1 128 pt rfl (Or.inl (by decide))).trans hol, hgt1⟩, ⟨h130, h129, h131, trivial⟩, h71, fun v hv => (by cases hv), fun v _ q => (by cases q), fun v _ q => (by cases q), lst_f hol1 (fun j hj => by cases hj)⟩
      refine w_iload_n C 0 dX3_findIn_24 rfl rfl ?_
      refine w_aload_n C 2 dX3_findIn_25 rfl rfl (by first | rfl | exact isRef_rf _) ?_
      refine w_callV (ci := 0) (As := []) (rest := [.int (nI i)]) C (cwV 0 C.1.2.2.2.2 gX3_findIn_Jx4a65c_size_8abf5 rfl rfl rfl (by decide +kernel) ⟨Nat.le_of_ble_eq_true rfl, Nat.le_of_ble_eq_true rfl⟩) hl1.1 rfl (by decide) rfl rfl (by first | decide | simp [cat_ref, cat_null, cat_int, cat_long, rf_cat]) dX3_findIn_26 ⟨by (try dsimp only); omega, by (try dsimp only); omega⟩ (c_size l G z1 hl1) (fun rv z2 h9 => ?_)
      obtain ⟨rfl, e1⟩ := h9
      replace e1 := e1.symm
      subst e1
      refine w_icmp_ge (tgt := 50) C dX3_findIn_29 (by decide) (fun c1 => ?_) (fun c1 => ?_)
      · refine w_iconst (v := 0) C dX3_findIn_50 (by decide) ?_
        refine w_istore_nB (lvq := [(2, _), (0, _), (1, _)]) C 2 rfl rfl (by first | rfl | exact rf_cat _) dX3_findIn_51 rfl (by decide) rfl ?_
        exact w_sub [0, 1, 2] rfl (w_widen (k := aCp (A00 cap) - cap) (n := 4 * (aCp (A00 cap) - cap)) (by dsimp only; omega) (by dsimp only; omega) (loop2 i 0 (A00 cap) z1 (by omega) hw (TIX_0 i so fd hcap) rfl hF (Nat.le_refl _) (fun v hv => by cases hv)))
      · exact absurd (by exact nI_le (Nat.le_refl i) (by omega)) c1
    | succ k ih =>
      intro i z1 hi hF h129 h130 h131 hol1 h71
      have hin : i < n := by omega
      have hl1 := lst_pF hg hsep hF
      have hgi := hF.1 _ _ (hgt.1 i hin).1
      refine w_iload_n C 0 dX3_findIn_24 rfl rfl ?_
      refine w_aload_n C 2 dX3_findIn_25 rfl rfl (by first | rfl | exact isRef_rf _) ?_
      refine w_callV (ci := 0) (As := []) (rest := [.int (nI i)]) C (cwV 0 C.1.2.2.2.2 gX3_findIn_Jx4a65c_size_8abf5 rfl rfl rfl (by decide +kernel) ⟨Nat.le_of_ble_eq_true rfl, Nat.le_of_ble_eq_true rfl⟩) hl1.1 rfl (by decide) rfl rfl (by first | decide | simp [cat_ref, cat_null, cat_int, cat_long, rf_cat]) dX3_findIn_26 ⟨by (try dsimp only); omega, by (try dsimp only); omega⟩ (c_size l G z1 hl1) (fun rv z2 h9 => ?_)
      obtain ⟨rfl, e1⟩ := h9
      replace e1 := e1.symm
      subst e1
      refine w_icmp_ge (tgt := 50) C dX3_findIn_29 (by decide) (fun c1 => ?_) (fun c1 => ?_)
      · exact absurd c1 (nI_ge hin (by omega))
      · refine w_aload_n C 2 dX3_findIn_32 rfl rfl (by first | rfl | exact isRef_rf _) ?_
        refine w_iload_n C 0 dX3_findIn_33 rfl rfl ?_
        refine w_callV (ci := 0) (As := [.int (nI i)]) (rest := []) C (cwV 1 C.1.2.2.2.2 gX3_findIn_Jx4a65c_get_915e3 rfl rfl rfl (by decide +kernel) ⟨Nat.le_of_ble_eq_true rfl, Nat.le_of_ble_eq_true rfl⟩) hl1.1 rfl (by decide) rfl rfl (by first | decide | simp [cat_ref, cat_null, cat_int, cat_long, rf_cat]) dX3_findIn_34 ⟨by (try dsimp only); omega, by (try dsimp only); omega⟩ (c_get l G z1 hl1 hin) (fun rv z2 h9 => ?_)
        obtain ⟨rfl, e1⟩ := h9
        replace e1 := e1.symm
        subst e1
        refine w_cast (ci := 2) C (by decide +kernel) hgi rfl (by decide) dX3_findIn_37 ?_
        refine w_iconst (v := (-1)) C dX3_findIn_40 (by decide) ?_
        refine w_putI (ci := 2) (k := 7) (f := 71) C rfl i2 (by decide +kernel) (by decide) (by decide) rfl rfl tyX1 tyX1_ok nmX1 rfl rfl rfl dX3_findIn_41 hgi ?_
        refine w_iincB (v := nI (i + 1)) (lvq := [(2, _), (0, _), (1, _)]) C 0 2 rfl rfl (by first | rfl | exact rf_cat _) dX3_findIn_44 rfl (nI_1 i) (by decide) rfl ?_
        refine w_goto (tgt := 24) C dX3_findIn_47 (by decide) ?_
        refine w_sub [0, 1, 2] rfl (ih (i + 1) _ (by omega) (hF.tr (pF_I z1 ol 71 (ga i) (-1) rfl)) (rI_If (by decide) h129) (rI_If (by decide) h130) h131 (lst_I hol1 (by decide)) (fun v hv => ?_))
        by_cases q : v = i
        · rw [q]; exact rI_Is
        · exact rI_Ia (fun e9 => q (hgt.2 v i (by omega) hin e9)) (h71 v (by omega))
  refine w_aload_n C 0 dX3_findIn_0 rfl rfl (by first | rfl | exact isRef_rf _) ?_
  refine w_getRs (ci := 4) (k := 0) (f := 128) C rfl i4 (by decide +kernel) (by decide) (by decide) rfl rfl dX3_findIn_1 hpt hol ?_
  refine w_callV (ci := 0) (As := []) (rest := []) C (cwV 0 C.1.2.2.2.2 gX3_findIn_Jx4a65c_clear_da8c8 rfl rfl rfl (by decide +kernel) ⟨Nat.le_of_ble_eq_true rfl, Nat.le_of_ble_eq_true rfl⟩) hlo.1 rfl (by decide) rfl rfl (by first | decide | simp [cat_ref, cat_null, cat_int, cat_long, rf_cat]) dX3_findIn_4 ⟨Nat.le_of_ble_eq_true rfl, Nat.le_of_ble_eq_true rfl⟩ (c_clear l G z hlo) (fun rv z1 h9 => ?_)
  obtain ⟨rfl, hC, hC2⟩ := h9
  have hF0 := pF_cl hC
  have hpt1 := hF0.1 _ _ hpt
  refine w_aload_n C 0 dX3_findIn_7 rfl rfl (by first | rfl | exact isRef_rf _) ?_
  refine w_iconst (v := 0) C dX3_findIn_8 (by decide) ?_
  refine w_putI (ci := 4) (k := 1) (f := 129) C rfl i4 (by decide +kernel) (by decide) (by decide) rfl rfl tyX3 tyX3_ok nmX3 rfl rfl rfl dX3_findIn_9 hpt1 ?_
  refine w_aload_n C 0 dX3_findIn_12 rfl rfl (by first | rfl | exact isRef_rf _) ?_
  refine w_iconst (v := 0) C dX3_findIn_13 (by decide) ?_
  refine w_putI (ci := 4) (k := 2) (f := 130) C rfl i4 (by decide +kernel) (by decide) (by decide) rfl rfl tyX3 tyX3_ok nmX3 rfl rfl rfl dX3_findIn_14 (is_I hpt1) ?_
  refine w_aload_n C 0 dX3_findIn_17 rfl rfl (by first | rfl | exact isRef_rf _) ?_
  refine w_null C dX3_findIn_18 ?_
  refine w_putR (ci := 4) (k := 3) (f := 131) (v := none) C rfl i4 (by decide +kernel) (by decide) (by decide) rfl rfl tyX3 tyX3_ok nmX3 rfl (by first | rfl | exact nar_rf _ _ | exact nar_ra _ _) (by first | rfl | exact fit_rf _ _ | exact fit_ra _ _) dX3_findIn_19 (is_I (is_I hpt1)) ?_
  refine w_iconst (v := 0) C dX3_findIn_22 (by decide) ?_
  refine w_istore_nB (lvq := [(2, _), (0, _), (1, _)]) C 1 rfl rfl (by first | rfl | exact rf_cat _) dX3_findIn_23 rfl (by decide) rfl ?_
  exact w_sub [0, 1, 2] rfl (loop1 n 0 _ (by omega) (((hF0.tr (pF_I _ ol 129 pt 0 rfl)).tr (pF_I _ ol 130 pt 0 rfl)).tr (pF_R _ ol 131 pt none rfl (by decide))) (rI_R (rI_If (by decide) rI_Is)) (rI_R rI_Is) rR_Rs (lst_cl hlo hC hC2) (fun v hv => by cases hv))
