/-! ===== THE WORLD, THE JUDGEMENT, THE CONTRACT ===== -/
/-- tables (class numbers, slots), array classes, the law's first free address, addresses that were there before -/
abbrev Gx : Type := va_G × (Nat → ClassId) × Nat × (Nat → Nat)
abbrev gA (G : Gx) : Nat → Prop := fun q => G.2.2.1 ≤ q
def tysx (cy : Nat → ClassId) : List (ClassId × FieldType) := [(cy 0, .int), (cy 1, .boolean), (cy 2, .object "java/lang/Object"), (cy 3, .long)]
def lBits (j : Nat) : Int64 := match j with
  | 0 => -6148914691236517206
  | 1 => -3689348814741910324
  | 2 => -1085102592571150096
  | 3 => -71777214294589696
  | 4 => -281470681808896
  | _ => -4294967296
/-- the tables' words of throwing, catching, and of Parts' constructor -/
def Sy (U : State) : Prop :=
  (va_Nw (.declares (Bundle.initS "java/lang/RuntimeException")) U ∧ va_Nw (.declares (Bundle.initS "java/lang/Exception")) U ∧ va_Nw (.declares (Bundle.initS Bundle.tN)) U) ∧
  (va_Nw (.castable "java/lang/IllegalArgumentException" "java/lang/IllegalArgumentException") U ∧ va_Nw (.castable "java/lang/IllegalStateException" "java/lang/IllegalStateException") U ∧ va_Nw (.castable "java/lang/IndexOutOfBoundsException" "java/lang/IndexOutOfBoundsException") U) ∧
  (va_Nc "java/lang/IllegalStateException" "java/lang/IndexOutOfBoundsException" U ∧ va_Nc "java/lang/IllegalArgumentException" "java/lang/IndexOutOfBoundsException" U) ∧ va_Nw (.methodLinkNest RX4 18 yX3_init "TernaryNet") U
theorem Sy.moved {u U : State} (hW : u.WarmedH U.vm) (h : Sy u) : Sy U := by
  obtain ⟨⟨a1, a2, a3⟩, ⟨b1, b2, b3⟩, ⟨c1, c2⟩, d⟩ := h
  exact ⟨⟨a1.warmD hW, a2.warmD hW, a3.warmD hW⟩, ⟨b1.warmC hW, b2.warmC hW, b3.warmC hW⟩, ⟨c1.moved hW.alike, c2.moved hW.alike⟩, d.warmM hW⟩
/-- what the JDK's and the class's statics and the tables say beside the words: nobody writes there -/
def Sx (G : Gx) (U : State) (H : Heap) : Prop :=
  (va_Z "java/util/ArrayList" "DEFAULTCAPACITY_EMPTY_ELEMENTDATA" "[Ljava/lang/Object;" (.ref (G.2.2.2 0)) (gA G) U H ∧ va_T (.object "java/lang/Object") (G.2.2.2 0) 0 (fun _ => .null) (gA G) U H) ∧
  (va_Z "TernaryNet$Lanes" "LANE_BITS" "[J" (.ref (G.2.2.2 1)) (gA G) U H ∧ va_T .long (G.2.2.2 1) 6 (fun j => .long (lBits j)) (gA G) U H) ∧
  (vx_Zq Bundle.tN "UNASSIGNED_STACK" Bundle.steD (gA G) U H ∧ vx_Zq Bundle.tN "SUPPRESSED_SENTINEL" Bundle.listD (gA G) U H) ∧
  (va_AO "java/lang/Object" U ∧ va_Nw (.castable RX1 "java/lang/Object") U ∧ va_Mi "[Ljava/lang/Object;" (G.2.2.2 2) U ∧ va_Dc U) ∧
  (vk_R RX4 48 "no such sort" (G.2.2.2 3) U ∧ vk_R RX4 147 "no such gate" (G.2.2.2 4) U ∧ vk_R RX4 82 "the gate takes no feed" (G.2.2.2 5) U ∧ vk_R RX4 96 "the gate is no input" (G.2.2.2 6) U ∧ vk_R RX4 98 "no such value" (G.2.2.2 7) U ∧ Sy U)
theorem Sx.moved {G : Gx} {u U : State} {H : Heap} (hW : u.WarmedH U.vm) (h : Sx G u H) : Sx G U H := by
  obtain ⟨⟨a1, a2⟩, ⟨b1, b2⟩, ⟨c1, c2⟩, ⟨d1, d2, d3, d4⟩, e1, e2, e3, e4, e5, e6⟩ := h
  have al := hW.alike
  exact ⟨⟨a1.moved al, a2.moved al⟩, ⟨b1.moved al, b2.moved al⟩, ⟨c1.moved al, c2.moved al⟩, ⟨d1.moved al, d2.warmC hW, d3.moved al, d4.moved al⟩, e1.warm hW, e2.warm hW, e3.warm hW, e4.warm hW, e5.warm hW, e6.moved hW⟩
theorem Sx.kept {G : Gx} {U : State} {H H1 : Heap} (h : Sx G U H) (hq : ∀ a : Nat, a < H.size → ¬ gA G a → H1[a]? = H[a]?) : Sx G U H1 := by
  obtain ⟨⟨a1, a2⟩, ⟨b1, b2⟩, ⟨c1, c2⟩, d, e⟩ := h
  exact ⟨⟨a1.kept hq, a2.kept hq⟩, ⟨b1.kept hq, b2.kept hq⟩, ⟨c1.kept hq, c2.kept hq⟩, d, e⟩
def PD (G : Gx) (z : Sto) (H : Heap) : Prop := va_P G.1 vwCl (va_pl (sL z) (ent G.2.1 z)) H ∧ va_D (gA G) (va_pl (sL z) (ent G.2.1 z))
/-- the world at a method's entry -/
def Wd (G : Gx) (z : Sto) (U : State) : Prop := G.2.2.1 ≤ U.heap.size ∧ PD G z U.heap ∧ va_K G.1 vwCl (tysx G.2.1) U ∧ Sx G U U.heap
def cPre (G : Gx) (z : Sto) (av : List Value) : Array Value → State → Prop := va_Pc av (Wd G z)
def cPost (G : Gx) (Post : Option Value → Sto → Prop) : Array Value → State → Outcome → State → Prop := fun _ st o t => (∃ (rv : Option Value) (z' : Sto), o = .returned rv ∧ Post rv z' ∧ PD G z' t.heap) ∧ va_F (gA G) st t
/-- THE CONTRACT of a method at a store and arguments -/
def Ct (l : Launch) (y : MethodName) (ws : List Cond) (rm : Room) (G : Gx) (z : Sto) (av : List Value) (Post : Option Value → Sto → Prop) : Prop := Met l y ws rm (cPre G z av) (cPost G Post) rm.cells rm.slots (gA G)
theorem cPre_blind (G : Gx) (z : Sto) (av : List Value) : FrameBlind (cPre G z av) := by
  intro a U g mk h
  obtain ⟨h0, h1, h2, h3, h4⟩ := h
  exact ⟨h0, h1, h2, va_K.moved (u := U) (U := U.calling g mk a) (Vm.Alike.refl U.vm) h3, Sx.moved (u := U) (U := U.calling g mk a) (State.WarmedH.refl U) h4⟩
/-- what a body has at hand from its entry on -/
def Cx (p : Program) (s : State) (m : MethodId) (args : Array Value) (meth : Method) (c : Code) (cc : ByteArray) (nL : Nat) (Ts : List Cond) (own : String) (ret : Option FieldType) (G : Gx) : Prop :=
  CallFix p m c cc nL s args Ts own ∧ va_K G.1 vwCl (tysx G.2.1) s ∧ G.2.2.1 ≤ s.heap.size ∧ Sx G s s.heap ∧ meth.locks = false ∧ meth.sig.returnType = ret
def Pic (G : Gx) (s : State) (z : Sto) (H : Heap) (locs : List Loc) : Prop := PD G z H ∧ va_S (gA G) s.heap H locs
/-- THE JUDGEMENT: from here on, whatever heap holds the store -/
def Wp (p : Program) (l : Launch) (e : Env) (R : Room) (s : State) (m : MethodId) (args : Array Value) (below : List Frame) (meth : Method) (c : Code) (G : Gx) (nL : Nat) (cells slots : Nat) (Q : State → Prop) (z : Sto) (pc : Nat) (lv : List (Nat × Value)) (st : List Value) : Prop :=
  ∀ (H : Heap) (locs : List Loc) (ls : Array Slot), Pic G s z H locs → lv_has ls nL lv → W p l e R s m args below meth c H locs cells slots Q (F0 m pc ls st)
section Core
variable {p : Program} {l : Launch} {e : Env} {R : Room} {s : State} {m : MethodId} {args : Array Value} {below : List Frame} {meth : Method} {c : Code} {G : Gx} {nL cells slots : Nat} {Q : State → Prop} {z : Sto} {pc : Nat} {lv : List (Nat × Value)} {st rest : List Value}
variable {cc : ByteArray} {Ts : List Cond} {own : String} {ret : Option FieldType}
theorem w_widen {k n : Nat} (h1 : cells ≤ k) (h2 : slots ≤ n) (kk : Wp p l e R s m args below meth c G nL k n Q z pc lv st) : Wp p l e R s m args below meth c G nL cells slots Q z pc lv st := fun H locs ls hp hl T hT X => kk H locs ls hp hl T hT (stand_widen X h1 h2)
theorem w_sub {lv' : List (Nat × Value)} (ks : List Nat) (hl' : lv_pick lv ks = lv') (kk : Wp p l e R s m args below meth c G nL cells slots Q z pc lv' st) : Wp p l e R s m args below meth c G nL cells slots Q z pc lv st := fun H locs ls hp hl => kk H locs ls hp (lv_sub hl ks hl')
theorem w_eq {st' : List Value} (h : st = st') (kk : Wp p l e R s m args below meth c G nL cells slots Q z pc lv st') : Wp p l e R s m args below meth c G nL cells slots Q z pc lv st := h ▸ kk
theorem w_topi {x : Int32} (k : ∀ y : Int32, y = x → Wp p l e R s m args below meth c G nL cells slots Q z pc lv (.int y :: rest)) : Wp p l e R s m args below meth c G nL cells slots Q z pc lv (.int x :: rest) := k x rfl
theorem w_topl {x : Int64} (k : ∀ y : Int64, y = x → Wp p l e R s m args below meth c G nL cells slots Q z pc lv (.long y :: rest)) : Wp p l e R s m args below meth c G nL cells slots Q z pc lv (.long x :: rest) := k x rfl
theorem w_inti {x y : Int32} (h : x = y) (k : Wp p l e R s m args below meth c G nL cells slots Q z pc lv (.int y :: rest)) : Wp p l e R s m args below meth c G nL cells slots Q z pc lv (.int x :: rest) := h ▸ k
theorem w_reff {x y : Option Nat} (h : x = y) (k : Wp p l e R s m args below meth c G nL cells slots Q z pc lv (va_rf y :: rest)) : Wp p l e R s m args below meth c G nL cells slots Q z pc lv (va_rf x :: rest) := h ▸ k
theorem w_store {z' : Sto} (h : z = z') (k : Wp p l e R s m args below meth c G nL cells slots Q z' pc lv st) : Wp p l e R s m args below meth c G nL cells slots Q z pc lv st := h ▸ k
theorem PD.get {H : Heap} {a : Nat} (h : PD G z H) (ha : a ∈ sL z) : va_at G.1 vwCl (a, ent G.2.1 z a) H := by
  obtain ⟨k, hk⟩ := va_pl_get (X := []) (f := ent G.2.1 z) ha
  exact h.1 k _ hk
theorem PD.lt {H : Heap} {a : Nat} (h : PD G z H) (ha : a ∈ sL z) : a < H.size := (h.get ha).lt
theorem PD.low {H : Heap} {a : Nat} (h : PD G z H) (ha : a ∈ sL z) : G.2.2.1 ≤ a := by
  obtain ⟨k, hk⟩ := va_pl_get (X := []) (f := ent G.2.1 z) ha
  exact h.2.2 k _ hk
theorem PD.fresh {H : Heap} (h : PD G z H) : H.size ∉ sL z := fun q => Nat.lt_irrefl _ (h.lt q)
theorem PD.of {z' : Sto} {H : Heap} {L : List Nat} {f : Nat → va_E} (hP : va_P G.1 vwCl (va_pl L f) H) (hD : va_D (gA G) (va_pl L f)) (hL : L = sL z') (hf : ∀ b, f b = ent G.2.1 z' b) : PD G z' H := by
  subst hL
  have e : f = ent G.2.1 z' := funext hf
  subst e
  exact ⟨hP, hD⟩
theorem ci_len {ci k t : Nat} (h : (fTy ci)[k]? = some t) (hc : ci < 7) : ∃ C T N, vwCl[ci]? = some (C, T, N) ∧ k < N ∧ N = (fTy ci).length := by
  have hk := (List.getElem?_eq_some_iff.mp h).1
  match ci, hc with
  | 0, _ => exact ⟨_, _, _, rfl, hk, rfl⟩
  | 1, _ => exact ⟨_, _, _, rfl, hk, rfl⟩
  | 2, _ => exact ⟨_, _, _, rfl, hk, rfl⟩
  | 3, _ => exact ⟨_, _, _, rfl, hk, rfl⟩
  | 4, _ => exact ⟨_, _, _, rfl, hk, rfl⟩
  | 5, _ => exact ⟨_, _, _, rfl, hk, rfl⟩
  | 6, _ => exact ⟨_, _, _, rfl, hk, rfl⟩
end Core
