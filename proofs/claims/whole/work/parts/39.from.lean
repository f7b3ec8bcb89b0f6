/-! ===== Parts: walkFrom ===== -/
/-- the walk's end from u -/
def wE (so : Nat → Int32) (fd : Nat → List (Nat × Int32)) (A : AS) (u : Nat) : AS := rA so fd 3000 (eA so fd A (aRm A) u)
theorem wrp_cap {G : Gx} {z : Sto} {pt ol n : Nat} {ga : Nat → Nat} {so : Nat → Int32} {fd : Nat → List (Nat × Int32)} {A : AS} (h : wrp G z pt ol n ga so fd A) : (aOr A).length ≤ aCp A ∧ (aCp A = 0 ∨ 10 ≤ aCp A) := by
  obtain ⟨-, -, -, -, -, -, c5⟩ := h
  refine ⟨c5.2.2.1, ?_⟩
  rcases c5.2.2.2.2 with q | q
  · exact Or.inl q.1
  · exact Or.inr q.1
theorem w_eq2 {p : Program} {l : Launch} {e : Env} {R : Room} {s : State} {m : MethodId} {args : Array Value} {below : List Frame} {meth : Method} {c : Code} {G : Gx} {nL cells slots : Nat} {Q : State → Prop} {z : Sto} {pc : Nat} {lv lv' : List (Nat × Value)} {st : List Value} (h : lv = lv') (kk : Wp p l e R s m args below meth c G nL cells slots Q z pc lv' st) : Wp p l e R s m args below meth c G nL cells slots Q z pc lv st := h ▸ kk
set_option maxHeartbeats 4000000 in
set_option maxRecDepth 100000 in
theorem c_walkFrom (l : Launch) (G : Gx) (z : Sto) {pt ol n u : Nat} {ga : Nat → Nat} {so : Nat → Int32} {fd : Nat → List (Nat × Int32)} {A : AS} (h : wrp G z pt ol n ga so fd A) (hx : TIX n so fd A) (hp : aPa A = []) (hn : n ≤ 600) (hm : mA n so fd A ≤ 3000) (hu : u < n) (hs : aSe A u = false) : Ct l yX3_walkFrom wsX3_walkFrom ({ frames := 8, cells := (aCp (wE so fd A u) - aCp A), slots := (4 * (aCp (wE so fd A u) - aCp A)), locals := 240 } : Room) G z [.ref pt, .ref (ga u)] (fun rv z' => rv = none ∧ wrp G z' pt ol n ga so fd (wE so fd A u) ∧ TIX n so fd (wE so fd A u) ∧ aPa (wE so fd A u) = [] ∧ pF z z' ol) := by
  refine ct_of (cc := cX3_walkFrom) (maxL := 5) (ret := none) (lv0 := [(0, .ref pt), (1, .ref (ga u))]) (by decide) rfl (by simp [lg_sl, cat_ref, cat_null, cat_int, cat_long, rf_cat]) (by simp [lv_args, cat_ref, cat_null, cat_int, cat_long, rf_cat]) ?_
  intro p e s m args below meth c C hin
  have i1 : ∀ w ∈ u_ws RX0 TX0 3, w ∈ wsX3_walkFrom := by decide +kernel
  have i2 : ∀ w ∈ u_ws RX1 TX1 17, w ∈ wsX3_walkFrom := by decide +kernel
  have hfd : ∀ v, v < n → ∀ x ∈ fd v, x.1 < n := fun v hv => (h.1.2.2.1 v hv).2.2.2.2
  have hpt : is z pt 4 := h.1.1
  have loop : ∀ (k : Nat) (A1 : AS) (z1 : Sto) (mv cc0 ss0 : Nat), wrp G z1 pt ol n ga so fd A1 → TIX n so fd A1 → mA n so fd A1 ≤ k → mv + k = 3000 → rA so fd k A1 = wE so fd A u → pF z z1 ol → cc0 ≤ aCp A1 - aCp A → ss0 ≤ 4 * (aCp A1 - aCp A) → aCp A ≤ aCp A1 → Wp p l e ({ frames := 8, cells := (aCp (wE so fd A u) - aCp A), slots := (4 * (aCp (wE so fd A u) - aCp A)), locals := 240 } : Room) s m args below meth c G 5 cc0 ss0 (MQ below (cPost G (fun rv z' => rv = none ∧ wrp G z' pt ol n ga so fd (wE so fd A u) ∧ TIX n so fd (wE so fd A u) ∧ aPa (wE so fd A u) = [] ∧ pF z z' ol)) args s ((aCp (wE so fd A u) - aCp A)) ((4 * (aCp (wE so fd A u) - aCp A))) (gA G)) z1 10 [(0, .ref pt), (2, va_rf ((aPa A1).head?.map ga)), (3, .int (nI mv))] [] := by
    intro k
    induction k with
    | zero =>
      intro A1 z1 mv cc0 ss0 h1 hx1 hm1 hk hr hF hc hs hcap
      have hpa := mA_nil hx1.1 (Nat.le_zero.mp hm1)
      rw [hpa]
      have hr : A1 = wE so fd A u := hr
      refine w_widen (k := aCp (wE so fd A u) - aCp A) (n := 4 * (aCp (wE so fd A u) - aCp A)) (by rw [← hr]; exact hc) (by rw [← hr]; exact hs) ?_
      refine w_aload_n C 1 dX3_walkFrom_10 rfl rfl (by first | rfl | exact isRef_rf _) ?_
      refine w_ifnull (tgt := 67) (r := none) C dX3_walkFrom_11 (by decide) (fun c1 => ?_) (fun a11 c1 => ?_)
      · exact w_vret C dX3_walkFrom_67 ⟨rfl, hr ▸ h1, hr ▸ hx1, hr ▸ hpa, hF⟩
      · cases c1
    | succ k ih =>
      intro A1 z1 mv cc0 ss0 h1 hx1 hm1 hk hr hF hc hs hcap
      cases hpa : aPa A1 with
      | nil =>
        rw [rA_nil _ hpa] at hr
        refine w_widen (k := aCp (wE so fd A u) - aCp A) (n := 4 * (aCp (wE so fd A u) - aCp A)) (by rw [← hr]; exact hc) (by rw [← hr]; exact hs) ?_
        refine w_aload_n C 1 dX3_walkFrom_10 rfl rfl (by first | rfl | exact isRef_rf _) ?_
        refine w_ifnull (tgt := 67) (r := none) C dX3_walkFrom_11 (by decide) (fun c1 => ?_) (fun a11 c1 => ?_)
        · exact w_vret C dX3_walkFrom_67 ⟨rfl, hr ▸ h1, hr ▸ hx1, hr ▸ hpa, hF⟩
        · cases c1
      | cons q ps =>
        rw [rA_succ k hpa] at hr
        have hmS := mA_step hfd hx1.1 hpa
        have hcS : aCp A1 ≤ aCp (sA so fd A1) := sA_cap
        have hcE : aCp (sA so fd A1) ≤ aCp (wE so fd A u) := by rw [← hr]; exact rA_cap k _
        have hqp : q ∈ aPa A1 := by rw [hpa]; exact List.mem_cons_self
        have hqs : q ∈ aSt A1 := TIA_sub hx1.1 q hqp
        have hqn : q < n := (hx1.1.1 q hqs).1
        obtain ⟨gi1, gi2, gi3, gi4, gi5⟩ := h1.1.2.2.1 q hqn
        have hC : aC A1 ≤ 600 := by rw [hx1.2.1]; have := cnt_le (aSe A1) n; omega
        obtain ⟨hlc, hcz⟩ := wrp_cap h1
        have hch := (h1.2.2.2.1 q hqs).2.2.2
        have hlt : ¬ (3000 : Int32) ≤ nI mv := by
          have := nI_ge (a := mv) (b := 3000) (by omega) (by decide)
          exact this
        have e74 : sR z1 74 (ga q) = ps.head?.map ga := by have := h1.2.1.2.2.2; rw [hpa] at this; exact this.1
        show Wp p l e ({ frames := 8, cells := (aCp (wE so fd A u) - aCp A), slots := (4 * (aCp (wE so fd A u) - aCp A)), locals := 240 } : Room) s m args below meth c G 5 cc0 ss0 (MQ below (cPost G (fun rv z' => rv = none ∧ wrp G z' pt ol n ga so fd (wE so fd A u) ∧ TIX n so fd (wE so fd A u) ∧ aPa (wE so fd A u) = [] ∧ pF z z' ol)) args s ((aCp (wE so fd A u) - aCp A)) ((4 * (aCp (wE so fd A u) - aCp A))) (gA G)) z1 10 [(0, .ref pt), (2, .ref (ga q)), (3, .int (nI mv))] []
        cases hrm : aRm A1 q with
        | nil =>
          rw [hrm] at hch
          have hch : sR z1 73 (ga q) = none := hch
          rw [sA_l hpa hrm] at hr hmS hcS hcE
          rw [lA_cp] at hcS hcE
          obtain ⟨v1, v2⟩ := lvC_le (so := so) (p := q) hlc hcz
          refine w_aload_n C 1 dX3_walkFrom_10 rfl rfl (by first | rfl | exact isRef_rf _) ?_
          refine w_ifnull (tgt := 67) (r := (some (ga q))) C dX3_walkFrom_11 (by decide) (fun c1 => ?_) (fun a11 c1 => ?_)
          · cases c1
          · clear c1
            refine w_iload_n C 2 dX3_walkFrom_14 rfl rfl ?_
            refine w_sipush (v := 3000) C dX3_walkFrom_15 (by decide) ?_
            refine w_icmp_ge (tgt := 67) C dX3_walkFrom_18 (by decide) (fun c2 => ?_) (fun c2 => ?_)
            · exact absurd c2 hlt
            · refine w_aload_n C 1 dX3_walkFrom_21 rfl rfl (by first | rfl | exact isRef_rf _) ?_
              refine w_getR (ci := 2) (k := 9) (f := 73) C rfl i2 (by decide +kernel) (by decide) (by decide) rfl rfl dX3_walkFrom_22 gi1 hch ?_
              refine w_astoreB (lvq := [(4, _), (0, _), (2, _), (3, _)]) C 2 rfl rfl (by first | rfl | exact rf_cat _) dX3_walkFrom_25 (by first | rfl | exact isRef_rf _) (by decide) rfl ?_
              refine w_aload C 0 dX3_walkFrom_27 rfl (by first | rfl | exact isRef_rf _) ?_
              refine w_ifnonnull (tgt := 41) (r := none) C dX3_walkFrom_29 (by decide) (fun a29 c3 => ?_) (fun c3 => ?_)
              · cases c3
              · refine w_aload_n C 1 dX3_walkFrom_32 rfl rfl (by first | rfl | exact isRef_rf _) ?_
                refine w_aload_n C 2 dX3_walkFrom_33 rfl rfl (by first | rfl | exact isRef_rf _) ?_
                refine w_callV (ci := 4) (As := [.ref (ga q)]) (rest := []) C (cwV 1 C.1.2.2.2.2 gX3_walkFrom_X3_leave rfl rfl rfl (by decide +kernel) ⟨Nat.le_of_ble_eq_true rfl, Nat.le_of_ble_eq_true rfl⟩) h1.1.1 rfl (by decide) rfl rfl (by first | decide | simp [cat_ref, cat_null, cat_int, cat_long, rf_cat]) dX3_walkFrom_34 ⟨by rw [gi3]; (try dsimp only); omega, by rw [gi3]; (try dsimp only); omega⟩ (c_leave l G z1 (L := (segA A1 q ++ [q]).map ga) h1.1.1 gi1 h1.1.2.1 h1.2.2.2.2.2.2 (by have := hx1.2.2.2.2.1; omega) (fun _ => (wrp_bch h1 (TIA_np hx1.1 hpa).2.1 (TIA_np hx1.1 hpa).2.2.2.1).1) (fun x hx => by rw [e74] at hx; cases ps with | nil => cases hx | cons y tl => exact (Option.some.inj hx) ▸ (h1.1.2.2.1 y (hx1.1.1 y (TIA_sub hx1.1 y (by rw [hpa]; exact List.mem_cons_of_mem _ List.mem_cons_self))).1).1)) (fun rv z2 h9 => ?_)
                obtain ⟨rfl, z3, hA3, rfl⟩ := h9
                rw [e74]
                have hw := wrp_leave h1 hx1.1 (by omega) (by omega) hpa hA3
                have hX := TIX_leave hn hfd hx1 hlc hpa hrm
                rw [e74] at hw
                refine w_astore_n (lvq := [(2, _), (4, _), (0, _), (3, _)]) C dX3_walkFrom_37 rfl (by first | rfl | exact isRef_rf _) (by decide) rfl ?_
                refine w_goto (tgt := 61) C dX3_walkFrom_38 (by decide) ?_
                refine w_iincB (v := nI (mv + 1)) (lvq := [(3, _), (2, _), (4, _), (0, _)]) C 3 0 rfl rfl (by first | rfl | exact rf_cat _) dX3_walkFrom_61 rfl (nI_1 mv) (by decide) rfl ?_
                refine w_goto (tgt := 10) C dX3_walkFrom_64 (by decide) ?_
                have hpl : aPa (lA so A1 q ps) = ps := by unfold lA; simp only []; split <;> rfl
                refine w_sub [3, 1, 0] rfl (w_eq2 (lv' := [(0, .ref pt), (2, va_rf ((aPa (lA so A1 q ps)).head?.map ga)), (3, .int (nI (mv + 1)))]) (by rw [hpl]; rfl) (ih (lA so A1 q ps) _ (mv + 1) _ _ hw hX (by omega) (by omega) hr (hF.tr ((pF_lvA hA3).tr (pF.tr ?_ (pF_lvZ _ _ _ _)))) ?_ ?_ (by rw [lA_cp]; omega)))
                · split
                  · exact pF_cpS _ _ _ _ _
                  · exact pF.rf _ _
                · rw [lA_cp, gi3]; (try dsimp only); omega
                · rw [lA_cp, gi3]; (try dsimp only); omega
        | cons x rs =>
          rw [hrm] at hch
          obtain ⟨fa, hfa, hif, hfr, hig, hng, htl⟩ := hch
          have hxn : x.1 < n := by
            obtain ⟨dn, d1, -, -⟩ := hx1.1.2.2.2.1 q hqs
            have : x.1 ∈ nsc so fd q := by rw [d1]; refine List.mem_append_right _ ?_; show x.1 ∈ (aRm A1 q).map Prod.fst; rw [hrm]; exact List.mem_cons_self
            unfold nsc at this
            split at this
            · obtain ⟨y, hy, e⟩ := List.mem_map.mp this
              rw [← e]; exact hfd q hqn y hy
            · cases this
          have hadv := wrp_adv h1 hqs hfa hrm
          have hFa := hF.tr (pF_R z1 ol 73 (ga q) (sR z1 34 fa) rfl (by decide))
          refine w_aload_n C 1 dX3_walkFrom_10 rfl rfl (by first | rfl | exact isRef_rf _) ?_
          refine w_ifnull (tgt := 67) (r := (some (ga q))) C dX3_walkFrom_11 (by decide) (fun c1 => ?_) (fun a11 c1 => ?_)
          · cases c1
          · clear c1
            refine w_iload_n C 2 dX3_walkFrom_14 rfl rfl ?_
            refine w_sipush (v := 3000) C dX3_walkFrom_15 (by decide) ?_
            refine w_icmp_ge (tgt := 67) C dX3_walkFrom_18 (by decide) (fun c2 => ?_) (fun c2 => ?_)
            · exact absurd c2 hlt
            · refine w_aload_n C 1 dX3_walkFrom_21 rfl rfl (by first | rfl | exact isRef_rf _) ?_
              refine w_getR (ci := 2) (k := 9) (f := 73) C rfl i2 (by decide +kernel) (by decide) (by decide) rfl rfl dX3_walkFrom_22 gi1 hfa ?_
              refine w_astoreB (lvq := [(4, _), (0, _), (2, _), (3, _)]) C 2 rfl rfl (by first | rfl | exact rf_cat _) dX3_walkFrom_25 (by first | rfl | exact isRef_rf _) (by decide) rfl ?_
              refine w_aload C 0 dX3_walkFrom_27 rfl (by first | rfl | exact isRef_rf _) ?_
              refine w_ifnonnull (tgt := 41) (r := (some fa)) C dX3_walkFrom_29 (by decide) (fun a29 c3 => ?_) (fun c3 => ?_)
              · cases c3
                refine w_aload_n C 2 dX3_walkFrom_41 rfl rfl (by first | rfl | exact isRef_rf _) ?_
                refine w_aload C 0 dX3_walkFrom_42 rfl (by first | rfl | exact isRef_rf _) ?_
                refine w_getR (ci := 1) (k := 2) (f := 34) C rfl i1 (by decide +kernel) (by decide) (by decide) rfl rfl dX3_walkFrom_44 hif rfl ?_
                refine w_putR (ci := 2) (k := 9) (f := 73) C rfl i2 (by decide +kernel) (by decide) (by decide) rfl rfl tyX1 tyX1_ok nmX1 rfl (by first | rfl | exact nar_rf _ _ | exact nar_ra _ _) (by first | rfl | exact fit_rf _ _ | exact fit_ra _ _) dX3_walkFrom_47 gi1 ?_
                refine w_aload_n C 1 dX3_walkFrom_50 rfl rfl (by first | rfl | exact isRef_rf _) ?_
                refine w_aload_n C 2 dX3_walkFrom_51 rfl rfl (by first | rfl | exact isRef_rf _) ?_
                refine w_aload C 0 dX3_walkFrom_52 rfl (by first | rfl | exact isRef_rf _) ?_
                refine w_getRs (ci := 1) (k := 0) (f := 32) C rfl i1 (by decide +kernel) (by decide) (by decide) rfl rfl dX3_walkFrom_54 (is_R hif) (rR_Rf (by decide) hfr) ?_
                refine w_callV (ci := 4) (As := [.ref (ga q), .ref (ga x.1)]) (rest := []) C (cwV 2 C.1.2.2.2.2 gX3_walkFrom_X3_follow rfl rfl rfl (by decide +kernel) ⟨Nat.le_of_ble_eq_true rfl, Nat.le_of_ble_eq_true rfl⟩) (is_R h1.1.1) rfl (by decide) rfl rfl (by first | decide | simp [cat_ref, cat_null, cat_int, cat_long, rf_cat]) dX3_walkFrom_57 ⟨by (try dsimp only); omega, by (try dsimp only); omega⟩ (c_follow l G (putR z1 73 (ga q) (sR z1 34 fa)) h1.1.1 gi1 hig) (fun rv z2 h9 => ?_)
                rcases h9 with ⟨e1, rfl, rfl⟩ | ⟨e1, rfl, rfl⟩
                · skip
                  have hs0 : aSe A1 x.1 = false := by
                    have := hadv.2.2.1 x.1 hxn
                    cases q9 : aSe A1 x.1 with
                    | false => rfl
                    | true =>
                      have e2 : aSe (advA A1 q rs) x.1 = true := q9
                      have e3 : aSa (advA A1 q rs) x.1 = aSa A1 x.1 := rfl
                      have hb : aSa A1 x.1 < 2 ^ 31 := by have := hx1.2.2.2.2.2.2.2.2 x.1 hxn q9; omega
                      rw [e2, if_pos rfl, e3] at this
                      rw [this] at e1
                      exact absurd (e1 ▸ nI_pos hb : ¬ (-1 : Int32) < 0) (by decide)
                  rw [sA_e hpa hrm hs0] at hr hmS hcS hcE
                  have hw := wrp_enter hadv (fun v hv => TIA_sub hx1.1 v hv) (fun v hv => (hx1.1.1 v hv).2.1) hxn hs0
                  have hX := TIX_enter hx1 hxn hs0 (TIA_enter1 hx1.1 hpa hrm hxn hs0)
                  have hh : (aPa (advA A1 q rs)).head?.map ga = some (ga q) := by show (aPa A1).head?.map ga = _; rw [hpa]; rfl
                  rw [hh] at hw
                  refine w_astore_n (lvq := [(2, _), (4, _), (0, _), (3, _)]) C dX3_walkFrom_60 rfl (by first | rfl | exact isRef_rf _) (by decide) rfl ?_
                  refine w_iincB (v := nI (mv + 1)) (lvq := [(3, _), (2, _), (4, _), (0, _)]) C 3 0 rfl rfl (by first | rfl | exact rf_cat _) dX3_walkFrom_61 rfl (nI_1 mv) (by decide) rfl ?_
                  refine w_goto (tgt := 10) C dX3_walkFrom_64 (by decide) ?_
                  refine w_sub [3, 1, 0] rfl (w_eq2 (lv' := [(0, .ref pt), (2, va_rf ((aPa (eA so fd A1 (va_up (aRm A1) q rs) x.1)).head?.map ga)), (3, .int (nI (mv + 1)))]) rfl (ih (eA so fd A1 (va_up (aRm A1) q rs) x.1) _ (mv + 1) _ _ hw hX (by omega) (by omega) hr (hFa.tr (pF_enS _ _ _ _ _)) ?_ ?_ hcap))
                  · show cc0 + 0 ≤ aCp A1 - aCp A; omega
                  · show ss0 + 0 ≤ 4 * (aCp A1 - aCp A); omega
                · skip
                  have hs0 : aSe A1 x.1 = true := by
                    have := hadv.2.2.1 x.1 hxn
                    cases q9 : aSe A1 x.1 with
                    | true => rfl
                    | false =>
                      have e2 : aSe (advA A1 q rs) x.1 = false := q9
                      rw [e2, if_neg (by decide)] at this
                      exact absurd this e1
                  rw [sA_f hpa hrm hs0] at hr hmS hcS hcE
                  have hw := wrp_follow (p := q) hadv hqs hxn hs0 (by show aLo A1 q < _; have := (hx1.1.2.2.2.2.1 q hqs).1; have := (hx1.1.1 q hqs).2.2; omega) (by show aSa A1 x.1 < _; have := hx1.2.2.2.2.2.2.2.2 x.1 hxn hs0; omega)
                  have hX := TIX_follow hx1 hpa hrm hs0
                  refine w_astore_n (lvq := [(2, _), (4, _), (0, _), (3, _)]) C dX3_walkFrom_60 rfl (by first | rfl | exact isRef_rf _) (by decide) rfl ?_
                  refine w_iincB (v := nI (mv + 1)) (lvq := [(3, _), (2, _), (4, _), (0, _)]) C 3 0 rfl rfl (by first | rfl | exact rf_cat _) dX3_walkFrom_61 rfl (nI_1 mv) (by decide) rfl ?_
                  refine w_goto (tgt := 10) C dX3_walkFrom_64 (by decide) ?_
                  refine w_sub [3, 1, 0] rfl (w_eq2 (lv' := [(0, .ref pt), (2, va_rf ((aPa (fA A1 q x.1 rs)).head?.map ga)), (3, .int (nI (mv + 1)))]) (by show _ = [(0, Value.ref pt), (2, va_rf ((aPa A1).head?.map ga)), (3, Value.int (nI (mv + 1)))]; rw [hpa]; rfl) (ih (fA A1 q x.1 rs) _ (mv + 1) _ _ hw hX (by omega) (by omega) hr (hFa.tr (pF_flS _ _ _ _)) ?_ ?_ hcap))
                  · show cc0 + 0 ≤ aCp A1 - aCp A; omega
                  · show ss0 + 0 ≤ 4 * (aCp A1 - aCp A); omega
              · cases c3
  have hw := wrp_enter h (fun v hv => TIA_sub hx.1 v hv) (fun v hv => (hx.1.1 v hv).2.1) hu hs
  rw [hp] at hw
  have hX := TIX_enter hx hu hs (TIA_enter0 hx.1 hp hu hs)
  refine w_aload_n C 0 dX3_walkFrom_0 rfl rfl (by first | rfl | exact isRef_rf _) ?_
  refine w_aload_n C 1 dX3_walkFrom_1 rfl rfl (by first | rfl | exact isRef_rf _) ?_
  refine w_null C dX3_walkFrom_2 ?_
  refine w_callV (ci := 4) (As := [.ref (ga u), va_rf none]) (rest := []) C (cwV 2 C.1.2.2.2.2 gX3_walkFrom_X3_enter rfl rfl rfl (by decide +kernel) ⟨Nat.le_of_ble_eq_true rfl, Nat.le_of_ble_eq_true rfl⟩) hpt rfl (by decide) rfl rfl (by first | decide | simp [cat_ref, cat_null, cat_int, cat_long, rf_cat]) dX3_walkFrom_3 ⟨by show 0 + 0 ≤ _; omega, by show 0 + 0 ≤ _; omega⟩ (c_enter l G z (cf := none) hpt (h.1.2.2.1 u hu).1) (fun rv z1 h1 => ?_)
  obtain ⟨rfl, e1⟩ := h1
  replace e1 := e1.symm
  subst e1
  refine w_aload_n C 1 dX3_walkFrom_6 rfl rfl (by first | rfl | exact isRef_rf _) ?_
  refine w_astore_nB (lvq := [(2, _), (0, _), (1, _)]) C 1 rfl rfl (by first | rfl | exact rf_cat _) dX3_walkFrom_7 rfl (by first | rfl | exact isRef_rf _) (by decide) rfl ?_
  refine w_iconst (v := 0) C dX3_walkFrom_8 (by decide) ?_
  refine w_istore_nB (lvq := [(3, _), (2, _), (0, _), (1, _)]) C 0 rfl rfl (by first | rfl | exact rf_cat _) dX3_walkFrom_9 rfl (by decide) rfl ?_
  refine w_sub [2, 1, 0] rfl (loop 3000 (eA so fd A (aRm A) u) _ 0 _ _ hw hX (by rw [mA_enter0 hx.1 hs]; exact hm) rfl rfl (pF_enS _ _ _ _ _) (by show 0 + 0 ≤ _; omega) (by show 0 + 0 ≤ _; omega) (Nat.le_refl _))
