/-! ===== the reference: its constructor ===== -/
theorem ent_nA7 (cy : Nat → ClassId) (z : Sto) (q n : Nat) (f : Nat → Option Nat) : ent cy (newA z q 7 n f) q = .inl (cy 0, n, .inl (fun _ => 0)) := by
  rw [ent_7 (show sK (newA z q 7 n f) q = 7 from va_up_self _ _ _)]
  rw [show sN (newA z q 7 n f) q = n from if_pos rfl, show sE (newA z q 7 n f) q = fun _ => 0 from funext fun i => if_pos rfl]
theorem ent_nA8 (cy : Nat → ClassId) (z : Sto) (q n : Nat) (f : Nat → Option Nat) : ent cy (newA z q 8 n f) q = .inl (cy 1, n, .inl (fun _ => 0)) := by
  rw [ent_8 (show sK (newA z q 8 n f) q = 8 from va_up_self _ _ _)]
  rw [show sN (newA z q 8 n f) q = n from if_pos rfl, show sE (newA z q 8 n f) q = fun _ => 0 from funext fun i => if_pos rfl]
theorem ent_nA10 (cy : Nat → ClassId) (z : Sto) (q n : Nat) (f : Nat → Option Nat) : ent cy (newA z q 10 n f) q = .inl (cy 3, n, .inr (.inl (fun _ => 0))) := by
  rw [ent_10 (show sK (newA z q 10 n f) q = 10 from va_up_self _ _ _)]
  rw [show sN (newA z q 10 n f) q = n from if_pos rfl, show sF (newA z q 10 n f) q = fun _ => 0 from funext fun i => if_pos rfl]
theorem hx7 (n : Nat) (cA : ClassId) : vp_cell cA ((n, .inl (fun _ => 0)) : vp_A) = arrV cA n (fun _ => defaultValue .int) := rfl
theorem hx8 (n : Nat) (cA : ClassId) : vp_cell cA ((n, .inl (fun _ => 0)) : vp_A) = arrV cA n (fun _ => defaultValue .boolean) := rfl
theorem hx10 (n : Nat) (cA : ClassId) : vp_cell cA ((n, .inr (.inl (fun _ => 0))) : vp_A) = arrV cA n (fun _ => defaultValue .long) := rfl
/-- the arrays of S are made -/
def ini (z0 z : Sto) (mo : Nat) (A : Nat → Nat) (S : List Nat) : Prop :=
  mkF z0 z ∧ is z mo 6 ∧ (∀ f, sI z f mo = sI z0 f mo) ∧ (∀ f ∈ S, sR z f mo = some (A f) ∧ is z (A f) (aK f) ∧ sN z (A f) = aLn f ∧ sE z (A f) = fun _ => 0) ∧ (∀ f ∈ S, ∀ g ∈ S, A f = A g → f = g)
theorem ini_s {z0 z : Sto} {mo q f k n : Nat} {A : Nat → Nat} {S : List Nat} (h : ini z0 z mo A S) (hq : q ∉ sL z) (hf : f ∉ S) (h192 : 192 ≤ f) (hk : aK f = k) (hn : aLn f = n) : ini z0 (putR (newA z q k n (fun _ => none)) f mo (some q)) mo (va_up A f q) (f :: S) := by
  obtain ⟨h1, h2, h3, h4, h5⟩ := h
  have hmq : mo ≠ q := fun e => hq (e ▸ h2.1)
  have hA : ∀ g ∈ S, va_up A f q g = A g := fun g hg => if_neg (fun e => hf (by rw [← e]; exact hg))
  have hAq : ∀ g ∈ S, A g ≠ q := fun g hg e => hq (by rw [← e]; exact (h4 g hg).2.1.1)
  have hmk : mkF z (putR (newA z q k n (fun _ => none)) f mo (some q)) := by
    refine ⟨fun b j hb => is_R (is_newA hb hq), fun _ _ _ _ => rfl, fun g b hg hb => rR_Rf (by omega) rfl, fun b hb => ?_⟩
    have hbq : ¬ b = q := fun e => hq (e ▸ hb)
    exact ⟨if_neg hbq, funext fun i => if_neg hbq⟩
  refine ⟨h1.tr hmk, is_R (is_newA h2 hq), h3, fun g hg => ?_, fun g hg g2 hg2 => ?_⟩
  · rcases List.mem_cons.mp hg with rfl | hg
    · rw [va_up_self]
      refine ⟨rR_Rs, ?_, ?_, ?_⟩
      · rw [hk]; exact is_R (is_newA_self _ _ _ _ _)
      · rw [hn]; exact if_pos rfl
      · exact funext fun i => if_pos rfl
    · rw [hA g hg]
      obtain ⟨a1, a2, a3, a4⟩ := h4 g hg
      have hgf : g ≠ f := fun e => hf (by rw [← e]; exact hg)
      refine ⟨(rR_Rf hgf a1), is_R (is_newA a2 hq), ?_, ?_⟩
      · rw [← a3]; exact if_neg (hAq g hg)
      · rw [← a4]; exact funext fun i => if_neg (hAq g hg)
  · rcases List.mem_cons.mp hg with e1 | hg'
    · rcases List.mem_cons.mp hg2 with e2 | hg2'
      · exact fun _ => e1.trans e2.symm
      · rw [e1, va_up_self, hA g2 hg2']
        exact fun e => absurd e.symm (hAq g2 hg2')
    · rcases List.mem_cons.mp hg2 with e2 | hg2'
      · rw [e2, va_up_self, hA g hg']
        exact fun e => absurd e (hAq g hg')
      · rw [hA g hg', hA g2 hg2']
        exact h5 g hg' g2 hg2'
theorem m_ini {p : Program} {l : Launch} {e : Env} {R : Room} {s : State} {m : MethodId} {args : Array Value} {below : List Frame} {meth : Method} {c : Code} {G : Gx} {nL cells slots : Nat} {Q : State → Prop} {z0 z : Sto} {pc : Nat} {lv : List (Nat × Value)} {st : List Value} {mo q f k n : Nat} {A : Nat → Nat} {S : List Nat} (h : ini z0 z mo A S) (hq : q ∉ sL z) (hf : f ∉ S) (h192 : 192 ≤ f) (hk : aK f = k) (hn : aLn f = n) (kk : ∀ z1 A1, ini z0 z1 mo A1 (f :: S) → Wp p l e R s m args below meth c G nL cells slots Q z1 pc lv st) : Wp p l e R s m args below meth c G nL cells slots Q (putR (newA z q k n (fun _ => none)) f mo (some q)) pc lv st := kk _ _ (ini_s h hq hf h192 hk hn)
theorem aFd_mem {f : Nat} (h : aFd f = true) : f ∈ [207, 206, 205, 203, 202, 201, 200, 199, 198, 197, 196] := by
  have h1 : 196 ≤ f ∧ f ≤ 207 ∧ ¬ f = 204 := by
    unfold aFd at h
    rw [Bool.and_eq_true, Bool.and_eq_true, decide_eq_true_iff, decide_eq_true_iff] at h
    refine ⟨h.1.1, h.1.2, fun e => ?_⟩
    rw [e] at h
    exact absurd h.2 (by decide)
  have h2 : f = 196 ∨ f = 197 ∨ f = 198 ∨ f = 199 ∨ f = 200 ∨ f = 201 ∨ f = 202 ∨ f = 203 ∨ f = 205 ∨ f = 206 ∨ f = 207 := by omega
  rcases h2 with rfl | rfl | rfl | rfl | rfl | rfl | rfl | rfl | rfl | rfl | rfl <;> decide
theorem mst_ini {z0 z : Sto} {mo : Nat} {A : Nat → Nat} (h : ini z0 z mo A [207, 206, 205, 203, 202, 201, 200, 199, 198, 197, 196]) (h0 : ∀ f, sI z0 f mo = 0) : mst z mo A (fun _ => 0) (fun _ _ => 0) := ⟨h.2.1, fun f hf => h.2.2.2.1 f (aFd_mem hf), fun f g hf hg => h.2.2.2.2 f (aFd_mem hf) g (aFd_mem hg), fun f => (h.2.2.1 f).trans (h0 f)⟩
theorem mv_00 : mv (fun _ => 0) (fun _ _ => 0) N00 := ⟨⟨rfl, rfl, rfl⟩, fun i hi => (by cases hi), fun k hk => (by cases hk)⟩
set_option maxHeartbeats 4000000 in
set_option maxRecDepth 100000 in
theorem c_minit (l : Launch) (G : Gx) (z : Sto) {mo : Nat} (hmo : is z mo 6) (h0 : ∀ f, sI z f mo = 0) : Ct l yX5_init wsX5_init ({ frames := 1, cells := 11, slots := 11412, locals := 12 } : Room) G z [.ref mo] (fun rv z' => rv = none ∧ ∃ A, mkF z z' ∧ mst z' mo A (fun _ => 0) (fun _ _ => 0)) := by
  refine ct_of (cc := cX5_init) (maxL := 1) (ret := none) (lv0 := [(0, .ref mo)]) (by decide) rfl (by simp [lg_sl, cat_ref, cat_null, cat_int, cat_long, rf_cat]) (by simp [lv_args, cat_ref, cat_null, cat_int, cat_long, rf_cat]) ?_
  intro p e s m args below meth c C hin
  have i6 : ∀ w ∈ u_ws RX5 TX5 16, w ∈ wsX5_init := by decide +kernel
  refine w_aload_n C 0 dX5_init_0 rfl rfl (by first | rfl | exact isRef_rf _) ?_
  refine w_objInit C (by decide +kernel) (by decide +kernel) (by decide +kernel) dX5_init_1 (by decide) (by decide) ?_
  have hi : ini z z mo (fun _ => 0) [] := ⟨mkF.rf z, hmo, fun _ => rfl, fun f hf => (by cases hf), fun f hf => (by cases hf)⟩
  refine w_aload_n C 0 dX5_init_4 rfl rfl (by first | rfl | exact isRef_rf _) ?_
  refine w_sipush (v := 600) C dX5_init_5 (by decide) ?_
  refine w_newa (atype := .int) (ty := .int) (t0 := 0) (kind := 7) (N' := 600) (x := (600, .inl (fun _ => 0))) C (by decide +kernel) rfl rfl (fun C9 h9 => by cases h9) (hx7 600) (fun q => ent_nA7 _ _ _ _ _) (show (600 : Int32) = nI 600 from rfl) (by decide) (by decide) (Nat.le_of_ble_eq_true rfl) (Nat.le_of_ble_eq_true rfl) dX5_init_8 (fun q hq hlow => ?_)
  refine w_putRF (ci := 6) (k := 4) (f := 196) (v := (some q)) C rfl i6 (by decide +kernel) (by decide) (by decide) rfl rfl tyX5 tyX5_ok nmX5 rfl hin rfl (by first | rfl | exact nar_rf _ _ | exact nar_ra _ _) (by first | rfl | exact fit_rf _ _ | exact fit_ra _ _) dX5_init_10 (is_newA hi.2.1 hq) ?_
  refine m_ini hi hq (by decide) (by decide) rfl rfl (fun z1 A1 hi => ?_)
  refine w_aload_n C 0 dX5_init_13 rfl rfl (by first | rfl | exact isRef_rf _) ?_
  refine w_sipush (v := 600) C dX5_init_14 (by decide) ?_
  refine w_newa (atype := .int) (ty := .int) (t0 := 0) (kind := 7) (N' := 600) (x := (600, .inl (fun _ => 0))) C (by decide +kernel) rfl rfl (fun C9 h9 => by cases h9) (hx7 600) (fun q => ent_nA7 _ _ _ _ _) (show (600 : Int32) = nI 600 from rfl) (by decide) (by decide) (Nat.le_of_ble_eq_true rfl) (Nat.le_of_ble_eq_true rfl) dX5_init_17 (fun q hq hlow => ?_)
  refine w_putRF (ci := 6) (k := 5) (f := 197) (v := (some q)) C rfl i6 (by decide +kernel) (by decide) (by decide) rfl rfl tyX5 tyX5_ok nmX5 rfl hin rfl (by first | rfl | exact nar_rf _ _ | exact nar_ra _ _) (by first | rfl | exact fit_rf _ _ | exact fit_ra _ _) dX5_init_19 (is_newA hi.2.1 hq) ?_
  refine m_ini hi hq (by decide) (by decide) rfl rfl (fun z1 A1 hi => ?_)
  refine w_aload_n C 0 dX5_init_22 rfl rfl (by first | rfl | exact isRef_rf _) ?_
  refine w_sipush (v := 2400) C dX5_init_23 (by decide) ?_
  refine w_newa (atype := .int) (ty := .int) (t0 := 0) (kind := 7) (N' := 2400) (x := (2400, .inl (fun _ => 0))) C (by decide +kernel) rfl rfl (fun C9 h9 => by cases h9) (hx7 2400) (fun q => ent_nA7 _ _ _ _ _) (show (2400 : Int32) = nI 2400 from rfl) (by decide) (by decide) (Nat.le_of_ble_eq_true rfl) (Nat.le_of_ble_eq_true rfl) dX5_init_26 (fun q hq hlow => ?_)
  refine w_putRF (ci := 6) (k := 6) (f := 198) (v := (some q)) C rfl i6 (by decide +kernel) (by decide) (by decide) rfl rfl tyX5 tyX5_ok nmX5 rfl hin rfl (by first | rfl | exact nar_rf _ _ | exact nar_ra _ _) (by first | rfl | exact fit_rf _ _ | exact fit_ra _ _) dX5_init_28 (is_newA hi.2.1 hq) ?_
  refine m_ini hi hq (by decide) (by decide) rfl rfl (fun z1 A1 hi => ?_)
  refine w_aload_n C 0 dX5_init_31 rfl rfl (by first | rfl | exact isRef_rf _) ?_
  refine w_sipush (v := 2400) C dX5_init_32 (by decide) ?_
  refine w_newa (atype := .int) (ty := .int) (t0 := 0) (kind := 7) (N' := 2400) (x := (2400, .inl (fun _ => 0))) C (by decide +kernel) rfl rfl (fun C9 h9 => by cases h9) (hx7 2400) (fun q => ent_nA7 _ _ _ _ _) (show (2400 : Int32) = nI 2400 from rfl) (by decide) (by decide) (Nat.le_of_ble_eq_true rfl) (Nat.le_of_ble_eq_true rfl) dX5_init_35 (fun q hq hlow => ?_)
  refine w_putRF (ci := 6) (k := 7) (f := 199) (v := (some q)) C rfl i6 (by decide +kernel) (by decide) (by decide) rfl rfl tyX5 tyX5_ok nmX5 rfl hin rfl (by first | rfl | exact nar_rf _ _ | exact nar_ra _ _) (by first | rfl | exact fit_rf _ _ | exact fit_ra _ _) dX5_init_37 (is_newA hi.2.1 hq) ?_
  refine m_ini hi hq (by decide) (by decide) rfl rfl (fun z1 A1 hi => ?_)
  refine w_aload_n C 0 dX5_init_40 rfl rfl (by first | rfl | exact isRef_rf _) ?_
  refine w_sipush (v := 2400) C dX5_init_41 (by decide) ?_
  refine w_newa (atype := .boolean) (ty := .boolean) (t0 := 1) (kind := 8) (N' := 2400) (x := (2400, .inl (fun _ => 0))) C (by decide +kernel) rfl rfl (fun C9 h9 => by cases h9) (hx8 2400) (fun q => ent_nA8 _ _ _ _ _) (show (2400 : Int32) = nI 2400 from rfl) (by decide) (by decide) (Nat.le_of_ble_eq_true rfl) (Nat.le_of_ble_eq_true rfl) dX5_init_44 (fun q hq hlow => ?_)
  refine w_putRF (ci := 6) (k := 8) (f := 200) (v := (some q)) C rfl i6 (by decide +kernel) (by decide) (by decide) rfl rfl tyX5 tyX5_ok nmX5 rfl hin rfl (by first | rfl | exact nar_rf _ _ | exact nar_ra _ _) (by first | rfl | exact fit_rf _ _ | exact fit_ra _ _) dX5_init_46 (is_newA hi.2.1 hq) ?_
  refine m_ini hi hq (by decide) (by decide) rfl rfl (fun z1 A1 hi => ?_)
  refine w_aload_n C 0 dX5_init_49 rfl rfl (by first | rfl | exact isRef_rf _) ?_
  refine w_sipush (v := 600) C dX5_init_50 (by decide) ?_
  refine w_newa (atype := .int) (ty := .int) (t0 := 0) (kind := 7) (N' := 600) (x := (600, .inl (fun _ => 0))) C (by decide +kernel) rfl rfl (fun C9 h9 => by cases h9) (hx7 600) (fun q => ent_nA7 _ _ _ _ _) (show (600 : Int32) = nI 600 from rfl) (by decide) (by decide) (Nat.le_of_ble_eq_true rfl) (Nat.le_of_ble_eq_true rfl) dX5_init_53 (fun q hq hlow => ?_)
  refine w_putRF (ci := 6) (k := 9) (f := 201) (v := (some q)) C rfl i6 (by decide +kernel) (by decide) (by decide) rfl rfl tyX5 tyX5_ok nmX5 rfl hin rfl (by first | rfl | exact nar_rf _ _ | exact nar_ra _ _) (by first | rfl | exact fit_rf _ _ | exact fit_ra _ _) dX5_init_55 (is_newA hi.2.1 hq) ?_
  refine m_ini hi hq (by decide) (by decide) rfl rfl (fun z1 A1 hi => ?_)
  refine w_aload_n C 0 dX5_init_58 rfl rfl (by first | rfl | exact isRef_rf _) ?_
  refine w_sipush (v := 600) C dX5_init_59 (by decide) ?_
  refine w_newa (atype := .int) (ty := .int) (t0 := 0) (kind := 7) (N' := 600) (x := (600, .inl (fun _ => 0))) C (by decide +kernel) rfl rfl (fun C9 h9 => by cases h9) (hx7 600) (fun q => ent_nA7 _ _ _ _ _) (show (600 : Int32) = nI 600 from rfl) (by decide) (by decide) (Nat.le_of_ble_eq_true rfl) (Nat.le_of_ble_eq_true rfl) dX5_init_62 (fun q hq hlow => ?_)
  refine w_putRF (ci := 6) (k := 10) (f := 202) (v := (some q)) C rfl i6 (by decide +kernel) (by decide) (by decide) rfl rfl tyX5 tyX5_ok nmX5 rfl hin rfl (by first | rfl | exact nar_rf _ _ | exact nar_ra _ _) (by first | rfl | exact fit_rf _ _ | exact fit_ra _ _) dX5_init_64 (is_newA hi.2.1 hq) ?_
  refine m_ini hi hq (by decide) (by decide) rfl rfl (fun z1 A1 hi => ?_)
  refine w_aload_n C 0 dX5_init_67 rfl rfl (by first | rfl | exact isRef_rf _) ?_
  refine w_sipush (v := 600) C dX5_init_68 (by decide) ?_
  refine w_newa (atype := .int) (ty := .int) (t0 := 0) (kind := 7) (N' := 600) (x := (600, .inl (fun _ => 0))) C (by decide +kernel) rfl rfl (fun C9 h9 => by cases h9) (hx7 600) (fun q => ent_nA7 _ _ _ _ _) (show (600 : Int32) = nI 600 from rfl) (by decide) (by decide) (Nat.le_of_ble_eq_true rfl) (Nat.le_of_ble_eq_true rfl) dX5_init_71 (fun q hq hlow => ?_)
  refine w_putRF (ci := 6) (k := 11) (f := 203) (v := (some q)) C rfl i6 (by decide +kernel) (by decide) (by decide) rfl rfl tyX5 tyX5_ok nmX5 rfl hin rfl (by first | rfl | exact nar_rf _ _ | exact nar_ra _ _) (by first | rfl | exact fit_rf _ _ | exact fit_ra _ _) dX5_init_73 (is_newA hi.2.1 hq) ?_
  refine m_ini hi hq (by decide) (by decide) rfl rfl (fun z1 A1 hi => ?_)
  refine w_aload_n C 0 dX5_init_76 rfl rfl (by first | rfl | exact isRef_rf _) ?_
  refine w_sipush (v := 600) C dX5_init_77 (by decide) ?_
  refine w_newa (atype := .boolean) (ty := .boolean) (t0 := 1) (kind := 8) (N' := 600) (x := (600, .inl (fun _ => 0))) C (by decide +kernel) rfl rfl (fun C9 h9 => by cases h9) (hx8 600) (fun q => ent_nA8 _ _ _ _ _) (show (600 : Int32) = nI 600 from rfl) (by decide) (by decide) (Nat.le_of_ble_eq_true rfl) (Nat.le_of_ble_eq_true rfl) dX5_init_80 (fun q hq hlow => ?_)
  refine w_putRF (ci := 6) (k := 13) (f := 205) (v := (some q)) C rfl i6 (by decide +kernel) (by decide) (by decide) rfl rfl tyX5 tyX5_ok nmX5 rfl hin rfl (by first | rfl | exact nar_rf _ _ | exact nar_ra _ _) (by first | rfl | exact fit_rf _ _ | exact fit_ra _ _) dX5_init_82 (is_newA hi.2.1 hq) ?_
  refine m_ini hi hq (by decide) (by decide) rfl rfl (fun z1 A1 hi => ?_)
  refine w_aload_n C 0 dX5_init_85 rfl rfl (by first | rfl | exact isRef_rf _) ?_
  refine w_sipush (v := 600) C dX5_init_86 (by decide) ?_
  refine w_newa (atype := .boolean) (ty := .boolean) (t0 := 1) (kind := 8) (N' := 600) (x := (600, .inl (fun _ => 0))) C (by decide +kernel) rfl rfl (fun C9 h9 => by cases h9) (hx8 600) (fun q => ent_nA8 _ _ _ _ _) (show (600 : Int32) = nI 600 from rfl) (by decide) (by decide) (Nat.le_of_ble_eq_true rfl) (Nat.le_of_ble_eq_true rfl) dX5_init_89 (fun q hq hlow => ?_)
  refine w_putRF (ci := 6) (k := 14) (f := 206) (v := (some q)) C rfl i6 (by decide +kernel) (by decide) (by decide) rfl rfl tyX5 tyX5_ok nmX5 rfl hin rfl (by first | rfl | exact nar_rf _ _ | exact nar_ra _ _) (by first | rfl | exact fit_rf _ _ | exact fit_ra _ _) dX5_init_91 (is_newA hi.2.1 hq) ?_
  refine m_ini hi hq (by decide) (by decide) rfl rfl (fun z1 A1 hi => ?_)
  refine w_aload_n C 0 dX5_init_94 rfl rfl (by first | rfl | exact isRef_rf _) ?_
  refine w_bipush (v := 12) C dX5_init_95 (by decide) ?_
  refine w_newa (atype := .int) (ty := .int) (t0 := 0) (kind := 7) (N' := 12) (x := (12, .inl (fun _ => 0))) C (by decide +kernel) rfl rfl (fun C9 h9 => by cases h9) (hx7 12) (fun q => ent_nA7 _ _ _ _ _) (show (12 : Int32) = nI 12 from rfl) (by decide) (by decide) (Nat.le_of_ble_eq_true rfl) (Nat.le_of_ble_eq_true rfl) dX5_init_97 (fun q hq hlow => ?_)
  refine w_putRF (ci := 6) (k := 15) (f := 207) (v := (some q)) C rfl i6 (by decide +kernel) (by decide) (by decide) rfl rfl tyX5 tyX5_ok nmX5 rfl hin rfl (by first | rfl | exact nar_rf _ _ | exact nar_ra _ _) (by first | rfl | exact fit_rf _ _ | exact fit_ra _ _) dX5_init_99 (is_newA hi.2.1 hq) ?_
  refine m_ini hi hq (by decide) (by decide) rfl rfl (fun z1 A1 hi => ?_)
  exact w_vret C dX5_init_102 ⟨rfl, _, hi.1, mst_ini hi h0⟩
