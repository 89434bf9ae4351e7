/-! ===== core: contracts over a whole world (the same addresses before and behind), and their calls ===== -/
/-- the links of nest mates, which aren't words -/
def cm_N (U : State) : Prop := va_Nw (.methodLinkNest RX0 15 yX3_cellAt RX3) U ∧ va_Nw (.methodLinkNest RX0 19 yX3_tellCell RX3) U ∧ va_Nw (.methodLinkNest RX0 26 yX3_copyRow RX3) U ∧ va_Nw (.methodLinkNest RX0 34 yX3_rowOf RX3) U ∧ va_Nw (.methodLinkNest RX0 38 yX3_columnOf RX3) U ∧ va_Nw (.methodLinkNest RX0 57 yX3_placeOf RX3) U ∧ va_Nw (.methodLinkNest RX1 15 yX3_cellAt RX3) U ∧ va_Nw (.methodLinkNest RX1 19 yX3_tellCell RX3) U ∧ va_Nw (.methodLinkNest RX1 37 yX3_copyRow RX3) U ∧ va_Nw (.methodLinkNest RX2 25 yX3_copyRow RX3) U
theorem cm_N.warm {s U : State} (hW : s.WarmedH U.vm) (h : cm_N s) : cm_N U := by
  obtain ⟨h1, h2, h3, h4, h5, h6, h7, h8, h9, h10⟩ := h
  exact ⟨va_Nw.warmM hW h1, va_Nw.warmM hW h2, va_Nw.warmM hW h3, va_Nw.warmM hW h4, va_Nw.warmM hW h5, va_Nw.warmM hW h6, va_Nw.warmM hW h7, va_Nw.warmM hW h8, va_Nw.warmM hW h9, va_Nw.warmM hW h10⟩
theorem cm_N.same {u U : State} (hv : u.vm = U.vm) (h : cm_N u) : cm_N U := by
  obtain ⟨h1, h2, h3, h4, h5, h6, h7, h8, h9, h10⟩ := h
  exact ⟨va_Nw.same rfl hv h1, va_Nw.same rfl hv h2, va_Nw.same rfl hv h3, va_Nw.same rfl hv h4, va_Nw.same rfl hv h5, va_Nw.same rfl hv h6, va_Nw.same rfl hv h7, va_Nw.same rfl hv h8, va_Nw.same rfl hv h9, va_Nw.same rfl hv h10⟩
/-- the array classes: of ints, of booleans, of longs -/
abbrev cm_T (cI cZ cJ : ClassId) : List (ClassId × FieldType) := [(cI, .int), (cZ, .boolean), (cJ, .long)]
def cm_K (D : va_G) (tys : List (ClassId × FieldType)) (U : State) : Prop := va_K D vwCl tys U ∧ cm_N U
theorem cm_K.warm {D : va_G} {tys : List (ClassId × FieldType)} {s U : State} (hW : s.WarmedH U.vm) (h : cm_K D tys s) : cm_K D tys U := ⟨va_K.moved hW.alike h.1, h.2.warm hW⟩
theorem cm_K.same {D : va_G} {tys : List (ClassId × FieldType)} {u U : State} (hv : u.vm = U.vm) (h : cm_K D tys u) : cm_K D tys U := ⟨va_K.moved (by rw [hv]; exact Vm.Alike.refl U.vm) h.1, h.2.same hv⟩
/-- the world's own addresses -/
def cm_A (ws : va_W) : Nat → Prop := fun q => ∃ (k : Nat) (e : va_E), ws[k]? = some (q, e)
theorem cm_A.in {A : Nat → Prop} {ws : va_W} (hD : va_D A ws) (q : Nat) (h : cm_A ws q) : A q := by
  obtain ⟨k, e, h⟩ := h
  exact hD.2 k _ h
theorem cm_A.self {A : Nat → Prop} {ws : va_W} (hD : va_D A ws) : va_D (cm_A ws) ws := ⟨hD.1, fun k q h => ⟨k, q.2, h⟩⟩
/-- a method's contract: from any heap that holds ws it returns rv, and the heap holds ws'; nothing is made -/
def CM (l : Launch) (D : va_G) (tys : List (ClassId × FieldType)) (y : MethodName) (cc : ByteArray) (nL : Nat) (ret : Option FieldType) (rm : Room) (av : List Value) (ws : va_W) (rv : Option Value) (ws' : va_W) : Prop :=
  Met l y (Cond.code y cc nL ret :: TB) rm (va_Pc av (fun U => va_P D vwCl ws U.heap ∧ cm_K D tys U ∧ va_D (fun _ => True) ws)) (fun _ st oc t => oc = .returned rv ∧ va_P D vwCl ws' t.heap ∧ va_D (cm_A ws) ws' ∧ va_F (cm_A ws) st t) 0 0 (cm_A ws)
def cm_Q (below : List Frame) (D : va_G) (av : List Value) (s : State) (ws : va_W) (rv : Option Value) (ws' : va_W) : State → Prop :=
  MQ below (fun _ st oc t => oc = .returned rv ∧ va_P D vwCl ws' t.heap ∧ va_D (cm_A ws) ws' ∧ va_F (cm_A ws) st t) av.toArray s 0 0 (cm_A ws)
/-- what holds all through a body -/
def cm_C (p : Program) (s : State) (m : MethodId) (args : Array Value) (meth : Method) (c : Code) (cc : ByteArray) (nL : Nat) (ret : Option FieldType) (own : String) (D : va_G) (tys : List (ClassId × FieldType)) : Prop :=
  p.tables.exec = Jvm.exec ∧ c.code = cc ∧ meth.sig.returnType = ret ∧ c.maxLocals = nL ∧ s.vm.findClass own = some m.cls ∧ (∀ w ∈ TB, w.before args s = true) ∧ meth.locks = false ∧ cm_K D tys s
theorem cm_blind {D : va_G} {tys : List (ClassId × FieldType)} {av : List Value} {ws : va_W} : FrameBlind (va_Pc av (fun U => va_P D vwCl ws U.heap ∧ cm_K D tys U ∧ va_D (fun _ => True) ws)) := by
  intro a U g mk h
  obtain ⟨h0, h1, h2, h3⟩ := h
  exact ⟨h0, h1, cm_K.same (u := U) (U := U.calling g mk a) rfl h2, h3⟩
theorem CM.of {l : Launch} {D : va_G} {tys : List (ClassId × FieldType)} {y : MethodName} {rm : Room} {av : List Value} {ws ws' : va_W} {rv : Option Value} {cc : ByteArray} {nL : Nat} {ret : Option FieldType}
    (hy : plainName y.cls = true) (hn : (lg_sl av).length ≤ nL)
    (body : ∀ (p : Program) (e : Env) (s : State) (m : MethodId) (below : List Frame) (meth : Method) (c : Code) (ls : Array Slot) (H : Heap) (locs : List Loc), cm_C p s m av.toArray meth c cc nL ret y.cls D tys → lv_has ls nL (lv_args 0 av) → va_P D vwCl ws H → va_D (cm_A ws) ws → va_S (cm_A ws) s.heap H locs →
      W p l e rm s m av.toArray below meth c H locs 0 0 (cm_Q below D av s ws rv ws') (F0 m 0 ls [])) : CM l D tys y cc nL ret rm av ws rv ws' := by
  refine Met.ofW (cc := cc) (maxL := nL) (ret := ret) hy rfl ?_
  intro p e s m args below meth c s₁ B hml hv
  obtain ⟨rfl, hP, hK, hD⟩ := hv
  have hl := lv_entry av (n := nL) hn
  rw [lg_entry_eq]
  exact body p e s m below meth c _ s.heap [] ⟨B.exec, B.bytes, B.returns, hml, findClass_of_methodNamed B.named, fun w h => atoms_spec (ws := Cond.code y cc nL ret :: TB) B.pre w (List.mem_cons_of_mem _ h), B.notSynchronized, hK⟩ hl hP (cm_A.self hD) va_S.rf
section CMR
variable {p : Program} {l : Launch} {e : Env} {R : Room} {s : State} {m : MethodId} {args : Array Value} {below : List Frame} {meth : Method} {c : Code} {H : Heap} {locs : List Loc} {cells slots : Nat} {Q : State → Prop}
variable {cc : ByteArray} {nL : Nat} {ret : Option FieldType} {own : String} {D : va_G} {tys : List (ClassId × FieldType)} {pc : Nat} {ls : Array Slot} {av : List Value} {ws ws' w1 : va_W}
theorem cm_iret {v r : Int32} (C : cm_C p s m av.toArray meth c cc nL (some .int) own D tys) (hP : va_P D vwCl w1 H) (hD : va_D (cm_A ws) w1) (hS : va_S (cm_A ws) s.heap H locs) (hdg : decode cc pc = .ok (.ireturn, 1)) (hr : v = r) (hw : w1 = ws') :
    W p l e R s m av.toArray below meth c H locs 0 0 (cm_Q below D av s ws (some (.int r)) ws') (F0 m pc ls [.int v]) := by
  subst hr; subst hw
  exact W.iret C.1 C.2.1 C.2.2.1 (fun t ht _ => ⟨rfl, by rw [ht]; exact hP, hD, hS.F ht⟩) hS.2.2 hdg C.2.2.2.2.2.2.1
theorem cm_zret {v r : Int32} (C : cm_C p s m av.toArray meth c cc nL (some .boolean) own D tys) (hP : va_P D vwCl w1 H) (hD : va_D (cm_A ws) w1) (hS : va_S (cm_A ws) s.heap H locs) (hdg : decode cc pc = .ok (.ireturn, 1)) (hn : narrow .boolean (.int v) = .int v) (hr : v = r) (hw : w1 = ws') :
    W p l e R s m av.toArray below meth c H locs 0 0 (cm_Q below D av s ws (some (.int r)) ws') (F0 m pc ls [.int v]) := by
  subst hr; subst hw
  exact W.zret C.1 C.2.1 C.2.2.1 hn (fun t ht _ => ⟨rfl, by rw [ht]; exact hP, hD, hS.F ht⟩) hS.2.2 hdg C.2.2.2.2.2.2.1
theorem cm_vret (C : cm_C p s m av.toArray meth c cc nL none own D tys) (hP : va_P D vwCl w1 H) (hD : va_D (cm_A ws) w1) (hS : va_S (cm_A ws) s.heap H locs) (hdg : decode cc pc = .ok (.return_, 1)) (hw : w1 = ws') :
    W p l e R s m av.toArray below meth c H locs 0 0 (cm_Q below D av s ws none ws') (F0 m pc ls []) := by
  subst hw
  exact W.vret C.1 C.2.1 C.2.2.1 (fun t ht _ => ⟨rfl, by rw [ht]; exact hP, hD, hS.F ht⟩) hS.2.2 hdg C.2.2.2.2.2.2.1
variable {A0 : Nat → Prop} {H0 : Heap} {y : MethodName} {rm : Room} {As rest st0 : List Value} {rv : Option Value} {bytes : ByteArray} {maxL index : Nat} {ret' : Option FieldType}
/-- behind a call by contract -/
theorem cm_go {b : Array Value} {free : Addr → Prop} (hfree : free = cm_A ws) (hr : va_Run p l e R s m args below meth c H locs cells slots 0 0 (F0 m pc ls st0) rest (fun st oc t => oc = .returned rv ∧ va_P D vwCl ws' t.heap ∧ va_D (cm_A ws) ws' ∧ va_F (cm_A ws) st t) free) (hD : va_D A0 ws) (hS : va_S A0 H0 H locs)
    (kk : ∀ (H1 : Heap) (locs1 : List Loc), va_P D vwCl ws' H1 → va_D A0 ws' → va_S A0 H0 H1 locs1 → W p l e R s m args below meth c H1 locs1 cells slots Q (F0 m (pc + 3) ls (rv.toList ++ rest))) : W p l e R s m args below meth c H locs cells slots Q (F0 m pc ls st0) := by
  subst hfree
  intro T hT X
  obtain ⟨v, st₀, t, T', L, h0, X', hL, e1, e2, ⟨hv, hP1, hD1, hz, hk⟩, st⟩ := hr T hT X
  cases hv
  rw [h0] at hz hk
  obtain ⟨t2, a1, b1⟩ := kk T'.heap (locs ++ L) (by rw [e1]; exact hP1) ⟨hD1.1, fun k q h => cm_A.in hD _ (hD1.2 k q h)⟩
    ⟨Nat.le_trans hS.1 (by rw [e1]; exact hz), fun q h1 h2 => by rw [e1, hk q (Nat.lt_of_lt_of_le h1 hS.1) (fun z => h2 (cm_A.in hD q z))]; exact hS.2.1 q h1 h2, fun q hq => by
      rcases List.mem_append.mp hq with h | h
      · exact hS.2.2 q h
      · exact cm_A.in hD _ (hL q h)⟩ T' rfl X'
  exact ⟨t2, st t2 a1, b1⟩
/-- a static method of the own class -/
theorem cm_cS (n : Nat) (C : cm_C p s m args meth c cc nL ret own D tys) (hM : CM l D tys y bytes maxL ret' rm As ws rv ws') (hl1 : Cond.methodLink own index y ∈ TB) (hl2 : Cond.static y ∈ TB) (hl3 : Cond.initialized own ∈ TB) (hl4 : Cond.code y bytes maxL ret' ∈ TB) (hrc : rm.cells = 0) (hrs : rm.slots = 0)
    (hd : y.cls = own ∧ y.cls ≠ "java/lang/invoke/MethodHandle" ∧ y.cls ≠ "java/lang/invoke/VarHandle" ∧ (parseMethodDescriptor y.desc).map (fun d => d.parameters.length) = some n) (hR : rm.frames + 1 ≤ R.frames ∧ 8 + (maxL + 11) + rm.locals ≤ R.locals) (hf : cells ≤ R.cells ∧ slots ≤ R.slots)
    (hP : va_P D vwCl ws H) (hD : va_D A0 ws) (hS : va_S A0 H0 H locs) (hsz : ls.size = nL) (hn : As.length = n) (hst : st0 = As.reverse ++ rest) (hW : (rest.map fun v => v.category).sum ≤ 8) (hdg : decode cc pc = .ok (.invokestatic index, 3))
    (kk : ∀ (H1 : Heap) (locs1 : List Loc), va_P D vwCl ws' H1 → va_D A0 ws' → va_S A0 H0 H1 locs1 → W p l e R s m args below meth c H1 locs1 cells slots Q (F0 m (pc + 3) ls (rv.toList ++ rest))) : W p l e R s m args below meth c H locs cells slots Q (F0 m pc ls st0) := by
  obtain ⟨hx, hb, -, hml, hown, hts, -, hK⟩ := C
  refine cm_go (b := As.toArray) rfl (va_runS (As := As) (rest := rest) ⟨hx, hb, hml, hown, hts⟩ hM (cwS n hts (tb_cons hl1 (tb_cons hl2 (tb_cons hl3 (tb_cons hl4 tb_good)))) rfl hrc hrs hd hR) ⟨cm_blind, fun U hU hW => ⟨rfl, by rw [hU]; exact hP, hK.warm hW, hD.1, fun _ _ _ => trivial⟩⟩ rfl hn hsz hst (by show 2 * 0 + _ ≤ 8; omega) hdg ⟨by omega, by omega⟩) hD hS kk
/-- a static method of a nest mate -/
theorem cm_cN {host : String} (n : Nat) (C : cm_C p s m args meth c cc nL ret own D tys) (hM : CM l D tys y bytes maxL ret' rm As ws rv ws') (hl4 : Cond.code y bytes maxL ret' ∈ TB) (hrc : rm.cells = 0) (hrs : rm.slots = 0) (hnl : va_Nw (.methodLinkNest own index y host) s) (hini : Cond.initialized y.cls ∈ TB) (hstt : Cond.static y ∈ TB)
    (hd : y.cls ≠ "java/lang/invoke/MethodHandle" ∧ y.cls ≠ "java/lang/invoke/VarHandle" ∧ (parseMethodDescriptor y.desc).map (fun d => d.parameters.length) = some n) (hR : rm.frames + 1 ≤ R.frames ∧ 8 + (maxL + 11) + rm.locals ≤ R.locals) (hf : cells ≤ R.cells ∧ slots ≤ R.slots)
    (hP : va_P D vwCl ws H) (hD : va_D A0 ws) (hS : va_S A0 H0 H locs) (hsz : ls.size = nL) (hn : As.length = n) (hst : st0 = As.reverse ++ rest) (hW : (rest.map fun v => v.category).sum ≤ 8) (hdg : decode cc pc = .ok (.invokestatic index, 3))
    (kk : ∀ (H1 : Heap) (locs1 : List Loc), va_P D vwCl ws' H1 → va_D A0 ws' → va_S A0 H0 H1 locs1 → W p l e R s m args below meth c H1 locs1 cells slots Q (F0 m (pc + 3) ls (rv.toList ++ rest))) : W p l e R s m args below meth c H locs cells slots Q (F0 m pc ls st0) := by
  obtain ⟨hx, hb, -, hml, hown, hts, -, hK⟩ := C
  refine cm_go (b := As.toArray) rfl (va_runSN (As := As) (rest := rest) ⟨hx, hb, hml, hown, hts⟩ hM ⟨va_cnB n hts (tb_cons hl4 tb_good) rfl hrc hrs hnl (hts _ hini) hd hR, hts _ hstt, trivial⟩ ⟨cm_blind, fun U hU hW => ⟨rfl, by rw [hU]; exact hP, hK.warm hW, hD.1, fun _ _ _ => trivial⟩⟩ rfl hn hsz hst (by show 2 * 0 + _ ≤ 8; omega) hdg ⟨by omega, by omega⟩) hD hS kk
/-- an instance method, by invokevirtual -/
theorem cm_cV {C0 : String} {b q0 ci : Nat} {fs : List Value} {T0 : u_T} {N0 : Nat} (n : Nat) (C : cm_C p s m args meth c cc nL ret own D tys) (hM : CM l D tys y bytes maxL ret' rm (.ref b :: As) ws rv ws') (hl1 : Cond.methodLink own index y ∈ TB) (hl2 : Cond.instanceMethod y ∈ TB) (hl3 : Cond.selects C0 y y ∈ TB) (hl5 : Cond.initialized C0 ∈ TB) (hl4 : Cond.code y bytes maxL ret' ∈ TB) (hrc : rm.cells = 0) (hrs : rm.slots = 0)
    (he : ws[q0]? = some (b, .inr (ci, fs))) (hci : vwCl[ci]? = some (C0, T0, N0))
    (hd : y.cls = C0 ∧ y.cls ≠ "java/lang/invoke/MethodHandle" ∧ y.cls ≠ "java/lang/invoke/VarHandle" ∧ (parseMethodDescriptor y.desc).map (fun d => d.parameters.length) = some n) (hR : rm.frames + 1 ≤ R.frames ∧ 8 + (maxL + 11) + rm.locals ≤ R.locals) (hf : cells ≤ R.cells ∧ slots ≤ R.slots)
    (hP : va_P D vwCl ws H) (hD : va_D A0 ws) (hS : va_S A0 H0 H locs) (hsz : ls.size = nL) (hn : As.length = n) (hst : st0 = As.reverse ++ .ref b :: rest) (hW : (rest.map fun v => v.category).sum ≤ 8) (hdg : decode cc pc = .ok (.invokevirtual index, 3))
    (kk : ∀ (H1 : Heap) (locs1 : List Loc), va_P D vwCl ws' H1 → va_D A0 ws' → va_S A0 H0 H1 locs1 → W p l e R s m args below meth c H1 locs1 cells slots Q (F0 m (pc + 3) ls (rv.toList ++ rest))) : W p l e R s m args below meth c H locs cells slots Q (F0 m pc ls st0) := by
  obtain ⟨hx, hb, -, hml, hown, hts, -, hK⟩ := C
  refine cm_go (b := (Value.ref b :: As).toArray) rfl (va_runV (As := As) (rest := rest) ⟨hx, hb, hml, hown, hts⟩ hM (cwV n hts (tb_cons hl1 (tb_cons hl2 (tb_cons hl3 (tb_cons hl5 (tb_cons hl4 tb_good))))) rfl hrc hrs hd hR) ⟨cm_blind, va_recv hK.1 hP hci he, fun U hU hW => ⟨rfl, by rw [hU]; exact hP, hK.warm hW, hD.1, fun _ _ _ => trivial⟩⟩ rfl hn hsz hst (by show 2 * 0 + _ ≤ 8; omega) hdg ⟨by omega, by omega⟩) hD hS kk
theorem cm_cS1 {v : Value} (n : Nat) (C : cm_C p s m args meth c cc nL ret own D tys) (hM : CM l D tys y bytes maxL ret' rm As ws (some v) ws') (hl1 : Cond.methodLink own index y ∈ TB) (hl2 : Cond.static y ∈ TB) (hl3 : Cond.initialized own ∈ TB) (hl4 : Cond.code y bytes maxL ret' ∈ TB) (hrc : rm.cells = 0) (hrs : rm.slots = 0)
    (hd : y.cls = own ∧ y.cls ≠ "java/lang/invoke/MethodHandle" ∧ y.cls ≠ "java/lang/invoke/VarHandle" ∧ (parseMethodDescriptor y.desc).map (fun d => d.parameters.length) = some n) (hR : rm.frames + 1 ≤ R.frames ∧ 8 + (maxL + 11) + rm.locals ≤ R.locals) (hf : cells ≤ R.cells ∧ slots ≤ R.slots)
    (hP : va_P D vwCl ws H) (hD : va_D A0 ws) (hS : va_S A0 H0 H locs) (hsz : ls.size = nL) (hn : As.length = n) (hst : st0 = As.reverse ++ rest) (hW : (rest.map fun v => v.category).sum ≤ 8) (hdg : decode cc pc = .ok (.invokestatic index, 3))
    (kk : ∀ (H1 : Heap) (locs1 : List Loc), va_P D vwCl ws' H1 → va_D A0 ws' → va_S A0 H0 H1 locs1 → W p l e R s m args below meth c H1 locs1 cells slots Q (F0 m (pc + 3) ls (v :: rest))) : W p l e R s m args below meth c H locs cells slots Q (F0 m pc ls st0) :=
  cm_cS (rv := (some v)) n C hM hl1 hl2 hl3 hl4 hrc hrs hd hR hf hP hD hS hsz hn hst hW hdg kk
theorem cm_cS0 (n : Nat) (C : cm_C p s m args meth c cc nL ret own D tys) (hM : CM l D tys y bytes maxL ret' rm As ws none ws') (hl1 : Cond.methodLink own index y ∈ TB) (hl2 : Cond.static y ∈ TB) (hl3 : Cond.initialized own ∈ TB) (hl4 : Cond.code y bytes maxL ret' ∈ TB) (hrc : rm.cells = 0) (hrs : rm.slots = 0)
    (hd : y.cls = own ∧ y.cls ≠ "java/lang/invoke/MethodHandle" ∧ y.cls ≠ "java/lang/invoke/VarHandle" ∧ (parseMethodDescriptor y.desc).map (fun d => d.parameters.length) = some n) (hR : rm.frames + 1 ≤ R.frames ∧ 8 + (maxL + 11) + rm.locals ≤ R.locals) (hf : cells ≤ R.cells ∧ slots ≤ R.slots)
    (hP : va_P D vwCl ws H) (hD : va_D A0 ws) (hS : va_S A0 H0 H locs) (hsz : ls.size = nL) (hn : As.length = n) (hst : st0 = As.reverse ++ rest) (hW : (rest.map fun v => v.category).sum ≤ 8) (hdg : decode cc pc = .ok (.invokestatic index, 3))
    (kk : ∀ (H1 : Heap) (locs1 : List Loc), va_P D vwCl ws' H1 → va_D A0 ws' → va_S A0 H0 H1 locs1 → W p l e R s m args below meth c H1 locs1 cells slots Q (F0 m (pc + 3) ls (rest))) : W p l e R s m args below meth c H locs cells slots Q (F0 m pc ls st0) :=
  cm_cS (rv := none) n C hM hl1 hl2 hl3 hl4 hrc hrs hd hR hf hP hD hS hsz hn hst hW hdg kk
theorem cm_cN1 {v : Value} {host : String} (n : Nat) (C : cm_C p s m args meth c cc nL ret own D tys) (hM : CM l D tys y bytes maxL ret' rm As ws (some v) ws') (hl4 : Cond.code y bytes maxL ret' ∈ TB) (hrc : rm.cells = 0) (hrs : rm.slots = 0) (hnl : va_Nw (.methodLinkNest own index y host) s) (hini : Cond.initialized y.cls ∈ TB) (hstt : Cond.static y ∈ TB)
    (hd : y.cls ≠ "java/lang/invoke/MethodHandle" ∧ y.cls ≠ "java/lang/invoke/VarHandle" ∧ (parseMethodDescriptor y.desc).map (fun d => d.parameters.length) = some n) (hR : rm.frames + 1 ≤ R.frames ∧ 8 + (maxL + 11) + rm.locals ≤ R.locals) (hf : cells ≤ R.cells ∧ slots ≤ R.slots)
    (hP : va_P D vwCl ws H) (hD : va_D A0 ws) (hS : va_S A0 H0 H locs) (hsz : ls.size = nL) (hn : As.length = n) (hst : st0 = As.reverse ++ rest) (hW : (rest.map fun v => v.category).sum ≤ 8) (hdg : decode cc pc = .ok (.invokestatic index, 3))
    (kk : ∀ (H1 : Heap) (locs1 : List Loc), va_P D vwCl ws' H1 → va_D A0 ws' → va_S A0 H0 H1 locs1 → W p l e R s m args below meth c H1 locs1 cells slots Q (F0 m (pc + 3) ls (v :: rest))) : W p l e R s m args below meth c H locs cells slots Q (F0 m pc ls st0) :=
  cm_cN (rv := (some v)) n C hM hl4 hrc hrs hnl hini hstt hd hR hf hP hD hS hsz hn hst hW hdg kk
theorem cm_cN0 {host : String} (n : Nat) (C : cm_C p s m args meth c cc nL ret own D tys) (hM : CM l D tys y bytes maxL ret' rm As ws none ws') (hl4 : Cond.code y bytes maxL ret' ∈ TB) (hrc : rm.cells = 0) (hrs : rm.slots = 0) (hnl : va_Nw (.methodLinkNest own index y host) s) (hini : Cond.initialized y.cls ∈ TB) (hstt : Cond.static y ∈ TB)
    (hd : y.cls ≠ "java/lang/invoke/MethodHandle" ∧ y.cls ≠ "java/lang/invoke/VarHandle" ∧ (parseMethodDescriptor y.desc).map (fun d => d.parameters.length) = some n) (hR : rm.frames + 1 ≤ R.frames ∧ 8 + (maxL + 11) + rm.locals ≤ R.locals) (hf : cells ≤ R.cells ∧ slots ≤ R.slots)
    (hP : va_P D vwCl ws H) (hD : va_D A0 ws) (hS : va_S A0 H0 H locs) (hsz : ls.size = nL) (hn : As.length = n) (hst : st0 = As.reverse ++ rest) (hW : (rest.map fun v => v.category).sum ≤ 8) (hdg : decode cc pc = .ok (.invokestatic index, 3))
    (kk : ∀ (H1 : Heap) (locs1 : List Loc), va_P D vwCl ws' H1 → va_D A0 ws' → va_S A0 H0 H1 locs1 → W p l e R s m args below meth c H1 locs1 cells slots Q (F0 m (pc + 3) ls (rest))) : W p l e R s m args below meth c H locs cells slots Q (F0 m pc ls st0) :=
  cm_cN (rv := none) n C hM hl4 hrc hrs hnl hini hstt hd hR hf hP hD hS hsz hn hst hW hdg kk
theorem cm_cV1 {v : Value} {C0 : String} {b q0 ci : Nat} {fs : List Value} {T0 : u_T} {N0 : Nat} (n : Nat) (C : cm_C p s m args meth c cc nL ret own D tys) (hM : CM l D tys y bytes maxL ret' rm (.ref b :: As) ws (some v) ws') (hl1 : Cond.methodLink own index y ∈ TB) (hl2 : Cond.instanceMethod y ∈ TB) (hl3 : Cond.selects C0 y y ∈ TB) (hl5 : Cond.initialized C0 ∈ TB) (hl4 : Cond.code y bytes maxL ret' ∈ TB) (hrc : rm.cells = 0) (hrs : rm.slots = 0)
    (he : ws[q0]? = some (b, .inr (ci, fs))) (hci : vwCl[ci]? = some (C0, T0, N0))
    (hd : y.cls = C0 ∧ y.cls ≠ "java/lang/invoke/MethodHandle" ∧ y.cls ≠ "java/lang/invoke/VarHandle" ∧ (parseMethodDescriptor y.desc).map (fun d => d.parameters.length) = some n) (hR : rm.frames + 1 ≤ R.frames ∧ 8 + (maxL + 11) + rm.locals ≤ R.locals) (hf : cells ≤ R.cells ∧ slots ≤ R.slots)
    (hP : va_P D vwCl ws H) (hD : va_D A0 ws) (hS : va_S A0 H0 H locs) (hsz : ls.size = nL) (hn : As.length = n) (hst : st0 = As.reverse ++ .ref b :: rest) (hW : (rest.map fun v => v.category).sum ≤ 8) (hdg : decode cc pc = .ok (.invokevirtual index, 3))
    (kk : ∀ (H1 : Heap) (locs1 : List Loc), va_P D vwCl ws' H1 → va_D A0 ws' → va_S A0 H0 H1 locs1 → W p l e R s m args below meth c H1 locs1 cells slots Q (F0 m (pc + 3) ls (v :: rest))) : W p l e R s m args below meth c H locs cells slots Q (F0 m pc ls st0) :=
  cm_cV (rv := (some v)) n C hM hl1 hl2 hl3 hl5 hl4 hrc hrs he hci hd hR hf hP hD hS hsz hn hst hW hdg kk
theorem cm_cV0 {C0 : String} {b q0 ci : Nat} {fs : List Value} {T0 : u_T} {N0 : Nat} (n : Nat) (C : cm_C p s m args meth c cc nL ret own D tys) (hM : CM l D tys y bytes maxL ret' rm (.ref b :: As) ws none ws') (hl1 : Cond.methodLink own index y ∈ TB) (hl2 : Cond.instanceMethod y ∈ TB) (hl3 : Cond.selects C0 y y ∈ TB) (hl5 : Cond.initialized C0 ∈ TB) (hl4 : Cond.code y bytes maxL ret' ∈ TB) (hrc : rm.cells = 0) (hrs : rm.slots = 0)
    (he : ws[q0]? = some (b, .inr (ci, fs))) (hci : vwCl[ci]? = some (C0, T0, N0))
    (hd : y.cls = C0 ∧ y.cls ≠ "java/lang/invoke/MethodHandle" ∧ y.cls ≠ "java/lang/invoke/VarHandle" ∧ (parseMethodDescriptor y.desc).map (fun d => d.parameters.length) = some n) (hR : rm.frames + 1 ≤ R.frames ∧ 8 + (maxL + 11) + rm.locals ≤ R.locals) (hf : cells ≤ R.cells ∧ slots ≤ R.slots)
    (hP : va_P D vwCl ws H) (hD : va_D A0 ws) (hS : va_S A0 H0 H locs) (hsz : ls.size = nL) (hn : As.length = n) (hst : st0 = As.reverse ++ .ref b :: rest) (hW : (rest.map fun v => v.category).sum ≤ 8) (hdg : decode cc pc = .ok (.invokevirtual index, 3))
    (kk : ∀ (H1 : Heap) (locs1 : List Loc), va_P D vwCl ws' H1 → va_D A0 ws' → va_S A0 H0 H1 locs1 → W p l e R s m args below meth c H1 locs1 cells slots Q (F0 m (pc + 3) ls (rest))) : W p l e R s m args below meth c H locs cells slots Q (F0 m pc ls st0) :=
  cm_cV (rv := none) n C hM hl1 hl2 hl3 hl5 hl4 hrc hrs he hci hd hR hf hP hD hS hsz hn hst hW hdg kk
end CMR
