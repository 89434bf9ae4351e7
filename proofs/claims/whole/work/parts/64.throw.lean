/-! ===== what a throw needs; contracts of methods that throw, and of those that catch ===== -/
abbrev eA : String := "java/lang/IllegalArgumentException"
abbrev eS : String := "java/lang/IllegalStateException"
abbrev vtN : List String := ["java/lang/RuntimeException", "java/lang/Exception"]
abbrev vt_i (n : String) : MethodName := ⟨n, "<init>", "(Ljava/lang/String;)V"⟩
def vt_W (U : State) : Prop := va_Nw (.declares (vt_i "java/lang/RuntimeException")) U ∧ va_Nw (.declares (vt_i "java/lang/Exception")) U ∧ va_Nw (.declares (vt_i "java/lang/Throwable")) U ∧ va_Nw (.castable eA eA) U ∧ va_Nw (.castable eS eS) U ∧ va_Nc eS eA U
def vt_S (U : State) : Prop := (∃ a, vk_R RX3 42 "no such seed" a U) ∧ (∃ a, vk_R RX3 53 "there was a write already" a U) ∧ (∃ a, vk_R RX3 106 "fewer than no writes" a U) ∧ (∃ a, vk_R RX3 117 "no such page" a U) ∧ (∃ a, vk_R RX3 119 "no such slot" a U) ∧ (∃ a, vk_R RX3 121 "nothing such to tell of a slot" a U) ∧ ∃ a, vk_R RX3 162 "nothing such to count" a U
def vt_Z (A : Nat → Prop) (U : State) (H : Heap) : Prop := vx_Zq Bundle.tN "UNASSIGNED_STACK" Bundle.steD A U H ∧ vx_Zq Bundle.tN "SUPPRESSED_SENTINEL" Bundle.listD A U H
def vt_X (A : Nat → Prop) (U : State) (H : Heap) : Prop := vt_W U ∧ vt_S U ∧ vt_Z A U H
theorem vt_S.map {u U : State} (f : ∀ {k : Nat} {t : String} {a : Nat}, vk_R RX3 k t a u → vk_R RX3 k t a U) (h : vt_S u) : vt_S U := by
  obtain ⟨⟨a1, h1⟩, ⟨a2, h2⟩, ⟨a3, h3⟩, ⟨a4, h4⟩, ⟨a5, h5⟩, ⟨a6, h6⟩, ⟨a7, h7⟩⟩ := h
  exact ⟨⟨a1, f h1⟩, ⟨a2, f h2⟩, ⟨a3, f h3⟩, ⟨a4, f h4⟩, ⟨a5, f h5⟩, ⟨a6, f h6⟩, ⟨a7, f h7⟩⟩
theorem vt_X.warm {A : Nat → Prop} {s U : State} {H : Heap} (hW : s.WarmedH U.vm) (h : vt_X A s H) : vt_X A U H := by
  obtain ⟨⟨h1, h2, h3, h4, h5, h6⟩, hs, z1, z2⟩ := h
  exact ⟨⟨va_Nw.warmD hW h1, va_Nw.warmD hW h2, va_Nw.warmD hW h3, va_Nw.warmC hW h4, va_Nw.warmC hW h5, va_Nc.moved hW.alike h6⟩, hs.map (fun h => vk_R.warm hW h), vx_Zq.moved hW.alike z1, vx_Zq.moved hW.alike z2⟩
theorem vt_X.same {A : Nat → Prop} {u U : State} {H : Heap} (hv : u.vm = U.vm) (h : vt_X A u H) : vt_X A U H := by
  have ha : u.vm.Alike U.vm := by rw [hv]; exact Vm.Alike.refl _
  obtain ⟨⟨h1, h2, h3, h4, h5, h6⟩, hs, z1, z2⟩ := h
  exact ⟨⟨va_Nw.same rfl hv h1, va_Nw.same rfl hv h2, va_Nw.same rfl hv h3, va_Nw.same rfl hv h4, va_Nw.same rfl hv h5, va_Nc.moved ha h6⟩, hs.map (fun h => vk_R.same hv.symm h), vx_Zq.moved ha z1, vx_Zq.moved ha z2⟩
theorem vt_X.kept {A : Nat → Prop} {U : State} {H H1 : Heap} (h : vt_X A U H) (hq : ∀ a : Nat, a < H.size → ¬ A a → H1[a]? = H[a]?) : vt_X A U H1 := ⟨h.1, h.2.1, h.2.2.1.kept hq, h.2.2.2.kept hq⟩
theorem vt_X.narrow {A B : Nat → Prop} {U : State} {H : Heap} (h : vt_X A U H) (hAB : ∀ q, B q → A q) : vt_X B U H := ⟨h.1, h.2.1, h.2.2.1.narrow hAB, h.2.2.2.narrow hAB⟩
theorem vt_inA : ∀ w ∈ (vx_atS RX3 44 eA vtN).filter goodWord, w ∈ lw_tbl := by decide +kernel
theorem vt_inS : ∀ w ∈ (vx_atS RX3 55 eS vtN).filter goodWord, w ∈ lw_tbl := by decide +kernel
theorem vt_outA : ∀ w ∈ (vx_atS RX3 44 eA vtN).filter (fun w => !goodWord w), w ∈ [Cond.declares (vt_i "java/lang/RuntimeException"), .declares (vt_i "java/lang/Exception"), .declares (vt_i "java/lang/Throwable"), .castable eA eA] := by decide +kernel
theorem vt_outS : ∀ w ∈ (vx_atS RX3 55 eS vtN).filter (fun w => !goodWord w), w ∈ [Cond.declares (vt_i "java/lang/RuntimeException"), .declares (vt_i "java/lang/Exception"), .declares (vt_i "java/lang/Throwable"), .castable eS eS] := by decide +kernel
theorem vt_goodA : ∀ w ∈ Cond.classLink RX3 40 eA :: Cond.initialized eA :: vx_atS RX3 44 eA vtN, vx_ot w = true := by decide +kernel
theorem vt_goodS : ∀ w ∈ Cond.classLink RX3 51 eS :: Cond.initialized eS :: vx_atS RX3 55 eS vtN, vx_ot w = true := by decide +kernel
theorem vt_hatA {args : Array Value} {s : State} (hts : ∀ w ∈ TB, w.before args s = true) (hx : vt_W s) : ∀ w ∈ vx_atS RX3 44 eA vtN, w.before args s = true :=
  vx_hat (fun w h => hts w (tb_of (vt_inA w h) (List.mem_filter.mp h).2)) vt_outA (vx_c (hx.1.use rfl) (vx_c (hx.2.1.use rfl) (vx_c (hx.2.2.1.use rfl) (vx_c (hx.2.2.2.1.use rfl) vx_n))))
theorem vt_hatS {args : Array Value} {s : State} (hts : ∀ w ∈ TB, w.before args s = true) (hx : vt_W s) : ∀ w ∈ vx_atS RX3 55 eS vtN, w.before args s = true :=
  vx_hat (fun w h => hts w (tb_of (vt_inS w h) (List.mem_filter.mp h).2)) vt_outS (vx_c (hx.1.use rfl) (vx_c (hx.2.1.use rfl) (vx_c (hx.2.2.1.use rfl) (vx_c (hx.2.2.2.2.1.use rfl) vx_n))))
/-- a method that throws E0, and changes nothing -/
def CT (l : Launch) (D : va_G) (tys : List (ClassId × FieldType)) (y : MethodName) (cc : ByteArray) (nL : Nat) (ret : Option FieldType) (rm : Room) (av : List Value) (ws : va_W) (E0 : String) : Prop :=
  vx_Met l y (Cond.code y cc nL ret :: TB) rm (va_Pc av (fun U => va_P D vwCl ws U.heap ∧ cm_K D tys U ∧ va_D (fun _ => True) ws ∧ vt_X (cm_A ws) U U.heap)) (fun _ _ _ _ => False) (fun E st t => E = E0 ∧ st.heap.size ≤ t.heap.size ∧ ∀ q : Nat, q < st.heap.size → t.heap[q]? = st.heap[q]?) 1 6 (cm_A ws)
def ct_Q (below : List Frame) (av : List Value) (s : State) (ws : va_W) (E0 : String) : State → Prop :=
  vx_MQ below (fun _ _ _ _ => False) (fun E st t => E = E0 ∧ st.heap.size ≤ t.heap.size ∧ ∀ q : Nat, q < st.heap.size → t.heap[q]? = st.heap[q]?) av.toArray s 1 6 (cm_A ws)
theorem ct_blind {D : va_G} {tys : List (ClassId × FieldType)} {av : List Value} {ws : va_W} : FrameBlind (va_Pc av (fun U => va_P D vwCl ws U.heap ∧ cm_K D tys U ∧ va_D (fun _ => True) ws ∧ vt_X (cm_A ws) U U.heap)) := by
  intro a U g mk h
  obtain ⟨h0, h1, h2, h3, h4⟩ := h
  exact ⟨h0, h1, cm_K.same (u := U) (U := U.calling g mk a) rfl h2, h3, vt_X.same (u := U) (U := U.calling g mk a) rfl h4⟩
theorem CT.of {l : Launch} {D : va_G} {tys : List (ClassId × FieldType)} {y : MethodName} {rm : Room} {av : List Value} {ws : va_W} {E0 : String} {cc : ByteArray} {nL : Nat} {ret : Option FieldType}
    (hy : plainName y.cls = true) (hn : (lg_sl av).length ≤ nL)
    (body : ∀ (p : Program) (e : Env) (s : State) (m : MethodId) (below : List Frame) (meth : Method) (c : Code) (ls : Array Slot), cm_C p s m av.toArray meth c cc nL ret y.cls D tys → (∀ x ∈ c.exceptionTable.toList, False) → vt_X (cm_A ws) s s.heap → lv_has ls nL (lv_args 0 av) → va_P D vwCl ws s.heap →
      W p l e rm s m av.toArray below meth c s.heap [] 0 0 (ct_Q below av s ws E0) (F0 m 0 ls [])) : CT l D tys y cc nL ret rm av ws E0 := by
  refine vx_ofW (cc := cc) (maxL := nL) (ret := ret) hy rfl ?_
  intro p e s m args below meth c s₁ B hml hnx hv
  obtain ⟨rfl, hP, hK, hD, hX⟩ := hv
  have hl := lv_entry av (n := nL) hn
  rw [lg_entry_eq]
  exact body p e s m below meth c _ ⟨B.exec, B.bytes, B.returns, hml, findClass_of_methodNamed B.named, fun w h => atoms_spec (ws := Cond.code y cc nL ret :: TB) B.pre w (List.mem_cons_of_mem _ h), B.notSynchronized, hK⟩ hnx hX hl hP
section CTR
variable {p : Program} {l : Launch} {e : Env} {R : Room} {s : State} {m : MethodId} {args : Array Value} {below : List Frame} {meth : Method} {c : Code} {H : Heap} {locs : List Loc} {cells slots : Nat} {Q : State → Prop}
variable {cc : ByteArray} {nL : Nat} {ret : Option FieldType} {own : String} {D : va_G} {tys : List (ClassId × FieldType)} {pc : Nat} {ls : Array Slot} {av : List Value} {ws w1 : va_W}
theorem ct_throwA {text : String} {is : Nat} (hl : l.stackTraces = false) (C : cm_C p s m av.toArray meth c cc nL ret RX3 D tys) (hnx : ∀ x ∈ c.exceptionTable.toList, False) (hX : vt_X (cm_A ws) s s.heap) (hstr : ∃ a, vk_R RX3 is text a s) (hk : Cond.classLink RX3 40 eA ∈ TB) (hi : Cond.initialized eA ∈ TB) (hsz : ls.size = nL)
    (d0 : decode cc pc = .ok (.new 40, 3)) (d3 : decode cc (pc + 3) = .ok (.dup, 1)) (d4 : decode cc (pc + 4) = .ok (.ldc is, 2)) (d6 : decode cc (pc + 6) = .ok (.invokespecial 44, 3)) (d9 : decode cc (pc + 9) = .ok (.athrow, 1))
    (hR : 5 < R.frames) (hR2 : 82 ≤ R.locals) (hR3 : 1 ≤ R.cells) (hR4 : 6 ≤ R.slots) : W p l e R s m av.toArray below meth c s.heap [] 0 0 (ct_Q below av s ws eA) (F0 m pc ls []) := by
  obtain ⟨hx, hb, -, hml, hown, hts, hlk, -⟩ := C
  obtain ⟨a9, hstr⟩ := hstr
  exact vx_throwS (A := cm_A ws) (names := vtN) hx hb hl hown (by decide +kernel) (by decide +kernel) (hts _ hk) (hts _ hi) hstr (vt_hatA hts hX.1) vt_goodA hX.2.2.1 hX.2.2.2 va_S.rf (hsz.trans hml.symm) d0 d3 d4 d6 d9 (fun x h9 => (hnx x h9).elim) hR (by show 0 + 82 ≤ R.locals; omega) (by omega) (by omega) hlk (fun t _ h1 h2 => ⟨rfl, h1, h2⟩) (fun z h9 => by cases h9) (Nat.le_refl _) (Nat.le_refl _)
theorem ct_throwS {text : String} {is : Nat} (hl : l.stackTraces = false) (C : cm_C p s m av.toArray meth c cc nL ret RX3 D tys) (hnx : ∀ x ∈ c.exceptionTable.toList, False) (hX : vt_X (cm_A ws) s s.heap) (hstr : ∃ a, vk_R RX3 is text a s) (hk : Cond.classLink RX3 51 eS ∈ TB) (hi : Cond.initialized eS ∈ TB) (hsz : ls.size = nL)
    (d0 : decode cc pc = .ok (.new 51, 3)) (d3 : decode cc (pc + 3) = .ok (.dup, 1)) (d4 : decode cc (pc + 4) = .ok (.ldc is, 2)) (d6 : decode cc (pc + 6) = .ok (.invokespecial 55, 3)) (d9 : decode cc (pc + 9) = .ok (.athrow, 1))
    (hR : 5 < R.frames) (hR2 : 82 ≤ R.locals) (hR3 : 1 ≤ R.cells) (hR4 : 6 ≤ R.slots) : W p l e R s m av.toArray below meth c s.heap [] 0 0 (ct_Q below av s ws eS) (F0 m pc ls []) := by
  obtain ⟨hx, hb, -, hml, hown, hts, hlk, -⟩ := C
  obtain ⟨a9, hstr⟩ := hstr
  exact vx_throwS (A := cm_A ws) (names := vtN) hx hb hl hown (by decide +kernel) (by decide +kernel) (hts _ hk) (hts _ hi) hstr (vt_hatS hts hX.1) vt_goodS hX.2.2.1 hX.2.2.2 va_S.rf (hsz.trans hml.symm) d0 d3 d4 d6 d9 (fun x h9 => (hnx x h9).elim) hR (by show 0 + 82 ≤ R.locals; omega) (by omega) (by omega) hlk (fun t _ h1 h2 => ⟨rfl, h1, h2⟩) (fun z h9 => by cases h9) (Nat.le_refl _) (Nat.le_refl _)
variable {A0 : Nat → Prop} {H0 : Heap} {y : MethodName} {rm : Room} {As rest st0 : List Value} {bytes : ByteArray} {maxL index : Nat} {ret' : Option FieldType}
/-- a call of a method that throws -/
theorem ct_cV {E0 : String} {C0 : String} {b q0 ci : Nat} {fs : List Value} {T0 : u_T} {N0 : Nat} (n : Nat) (C : cm_C p s m args meth c cc nL ret own D tys) (hM : CT l D tys y bytes maxL ret' rm (.ref b :: As) ws E0) (hX : vt_X (cm_A ws) s H) (hl1 : Cond.methodLink own index y ∈ TB) (hl2 : Cond.instanceMethod y ∈ TB) (hl3 : Cond.selects C0 y y ∈ TB) (hl5 : Cond.initialized C0 ∈ TB) (hl4 : Cond.code y bytes maxL ret' ∈ TB) (hrc : rm.cells = 1) (hrs : rm.slots = 6)
    (he : ws[q0]? = some (b, .inr (ci, fs))) (hci : vwCl[ci]? = some (C0, T0, N0))
    (hd : y.cls = C0 ∧ y.cls ≠ "java/lang/invoke/MethodHandle" ∧ y.cls ≠ "java/lang/invoke/VarHandle" ∧ (parseMethodDescriptor y.desc).map (fun d => d.parameters.length) = some n) (hR : rm.frames + 1 ≤ R.frames ∧ 8 + (maxL + 11) + rm.locals ≤ R.locals) (hf : cells + 1 ≤ R.cells ∧ slots + 6 ≤ R.slots)
    (hP : va_P D vwCl ws H) (hD : va_D A0 ws) (hS : va_S A0 H0 H locs) (hsz : ls.size = nL) (hn : As.length = n) (hst : st0 = As.reverse ++ .ref b :: rest) (hW : (rest.map fun v => v.category).sum ≤ 8) (hdg : decode cc pc = .ok (.invokevirtual index, 3))
    (kx : ∀ (ce : Cell) (q9 : Addr) (H1 : Heap) (locs1 : List Loc), va_P D vwCl ws H1 → va_S A0 H0 H1 locs1 → H1[q9]? = some ce → ce.vm = .none → s.vm.findClass E0 = some ce.cls → vx_W p l e R s m args below meth c H1 locs1 (cells + 1) (slots + 6) Q (F0 m pc ls rest) q9) : W p l e R s m args below meth c H locs cells slots Q (F0 m pc ls st0) := by
  obtain ⟨hx, hb, -, hml, hown, hts, -, hK⟩ := C
  have hr := vx_runV (e := e) (below := below) (meth := meth) (locs := locs) (cells := cells) (slots := slots) (As := As) (rest := rest) (b := b) (g := F0 m pc ls st0) ⟨hx, hb, hml, hown, hts⟩ hM (cwV n hts (tb_cons hl1 (tb_cons hl2 (tb_cons hl3 (tb_cons hl5 (tb_cons hl4 tb_good))))) rfl hrc hrs hd hR) ⟨ct_blind, va_recv hK.1 hP hci he, fun U hU hW => ⟨rfl, by rw [hU]; exact hP, hK.warm hW, ⟨hD.1, fun _ _ _ => trivial⟩, by rw [hU]; exact hX.warm hW⟩⟩ rfl hn hsz hst (by show 2 * 0 + _ ≤ 8; omega) hdg hf
  intro T hT X
  rcases hr T hT X with ⟨v, st₀, t, T', L, h0, X', hL, e1, e2, hq, st⟩ | ⟨q, st₀, t, T', L, E, ce, h0, X', hL, e1, e2, ⟨hE, hz, hk⟩, hce, hcv, hcl, st⟩
  · exact hq.elim
  · subst hE
    rw [h0] at hz hk
    have hk1 : ∀ a : Nat, a < H.size → T'.heap[a]? = H[a]? := fun a ha => by rw [e1]; exact hk a ha
    obtain ⟨t2, a1, b1⟩ := kx ce q T'.heap (locs ++ L) (hP.kept (fun k x hx => hk1 x.1 ((hP k x hx).lt)))
      ⟨Nat.le_trans hS.1 (by rw [e1]; exact hz), fun a h1 h2 => by rw [hk1 a (Nat.lt_of_lt_of_le h1 hS.1)]; exact hS.2.1 a h1 h2, fun a ha => by
        rcases List.mem_append.mp ha with h | h
        · exact hS.2.2 a h
        · exact cm_A.in hD _ (hL a h)⟩ (by rw [e1]; exact hce) hcv hcl T' rfl X'
    exact ⟨t2, st.trans a1, b1⟩
end CTR
/-- a method with handlers, that answers a number -/
def CH (l : Launch) (D : va_G) (tys : List (ClassId × FieldType)) (y : MethodName) (cc : ByteArray) (nL : Nat) (hh : List (Nat × Nat × Nat × Nat)) (rm : Room) (av : List Value) (ws : va_W) (E : Int32 → va_W → Prop) : Prop :=
  Met l y (Cond.codeWith y cc nL (some .int) hh :: TB) rm (va_Pc av (fun U => va_P D vwCl ws U.heap ∧ cm_K D tys U ∧ va_D (fun _ => True) ws ∧ vt_X (cm_A ws) U U.heap)) (fun _ st oc t => ∃ (r : Int32) (ws' : va_W), E r ws' ∧ oc = .returned (some (.int r)) ∧ va_P D vwCl ws' t.heap ∧ va_D (cm_A ws) ws' ∧ va_F (cm_A ws) st t) 1 6 (cm_A ws)
def ch_Q (below : List Frame) (D : va_G) (av : List Value) (s : State) (ws : va_W) (E : Int32 → va_W → Prop) : State → Prop :=
  MQ below (fun _ st oc t => ∃ (r : Int32) (ws' : va_W), E r ws' ∧ oc = .returned (some (.int r)) ∧ va_P D vwCl ws' t.heap ∧ va_D (cm_A ws) ws' ∧ va_F (cm_A ws) st t) av.toArray s 1 6 (cm_A ws)
theorem CH.of {l : Launch} {D : va_G} {tys : List (ClassId × FieldType)} {y : MethodName} {rm : Room} {av : List Value} {ws : va_W} {E : Int32 → va_W → Prop} {cc : ByteArray} {nL : Nat} {hh : List (Nat × Nat × Nat × Nat)}
    (hy : plainName y.cls = true) (hn : (lg_sl av).length ≤ nL)
    (body : ∀ (p : Program) (e : Env) (s : State) (m : MethodId) (below : List Frame) (meth : Method) (c : Code) (ls : Array Slot) (H : Heap) (locs : List Loc), cm_C p s m av.toArray meth c cc nL (some .int) y.cls D tys → c.exceptionTable.toList = tableOf hh → vt_X (cm_A ws) s H → vt_W s → lv_has ls nL (lv_args 0 av) → va_P D vwCl ws H → va_D (cm_A ws) ws → va_S (cm_A ws) s.heap H locs →
      W p l e rm s m av.toArray below meth c H locs 0 0 (ch_Q below D av s ws E) (F0 m 0 ls [])) : CH l D tys y cc nL hh rm av ws E := by
  unfold CH Met
  refine MetFree.of_bodyS (code := cc) (maxLocals := nL) (ret := some .int) hy ?_ ?_
  · intro args s m h hn
    obtain ⟨m9, meth, c, hn9, h1, h2, h3, h4, -, h5, h6, -⟩ := Cond.codeWith_spec (atoms_spec (ws := Cond.codeWith y cc nL (some .int) hh :: TB) h _ List.mem_cons_self)
    cases hn.symm.trans hn9
    exact ⟨meth, c, h1, h2, h3, h4, h5, h6⟩
  · intro p e s m args below meth c s₁ B hml hv _
    obtain ⟨rfl, hP, hK, hD, hX⟩ := hv
    have hh0 : s₁.heap = s.heap := by rw [B.state]; rfl
    have hts : ∀ w ∈ Cond.codeWith y cc nL (some .int) hh :: TB, w.before av.toArray s = true := atoms_spec (ws := Cond.codeWith y cc nL (some .int) hh :: TB) B.pre
    have hl := lv_entry av (n := nL) hn
    have k := body p e s m below meth c _ s.heap [] ⟨B.exec, B.bytes, B.returns, hml, findClass_of_methodNamed B.named, fun w h => hts w (List.mem_cons_of_mem _ h), B.notSynchronized, hK⟩ (vx_table (x := y) B (hts _ List.mem_cons_self)) hX hX.1 hl hP (cm_A.self hD) va_S.rf
    rw [← lg_entry_eq] at k
    obtain ⟨t, a1, o, b1, b2, b3⟩ := k s₁ hh0 (Stand.of_body B)
    exact ⟨t, o, a1, b1, b2, b3⟩
section CHR
variable {p : Program} {l : Launch} {e : Env} {R : Room} {s : State} {m : MethodId} {args : Array Value} {below : List Frame} {meth : Method} {c : Code} {H : Heap} {locs : List Loc} {cells slots : Nat} {Q : State → Prop}
variable {cc : ByteArray} {nL : Nat} {ret : Option FieldType} {own : String} {D : va_G} {tys : List (ClassId × FieldType)} {pc : Nat} {ls : Array Slot} {av : List Value} {ws w1 : va_W} {E : Int32 → va_W → Prop}
theorem ch_iret {v : Int32} (hc : cells ≤ 1) (hs : slots ≤ 6) (C : cm_C p s m av.toArray meth c cc nL (some .int) own D tys) (hP : va_P D vwCl w1 H) (hD : va_D (cm_A ws) w1) (hS : va_S (cm_A ws) s.heap H locs) (hdg : decode cc pc = .ok (.ireturn, 1)) (hr : E v w1) :
    W p l e R s m av.toArray below meth c H locs cells slots (ch_Q below D av s ws E) (F0 m pc ls [.int v]) :=
  W.widen hc hs (W.iret C.1 C.2.1 C.2.2.1 (fun t ht _ => ⟨v, w1, hr, rfl, by rw [ht]; exact hP, hD, hS.F ht⟩) hS.2.2 hdg C.2.2.2.2.2.2.1)
variable {A0 : Nat → Prop} {H0 : Heap} {y : MethodName} {rm : Room} {As rest st0 : List Value} {bytes : ByteArray} {maxL index : Nat}
/-- a static method with handlers, called -/
theorem ch_cS {hh : List (Nat × Nat × Nat × Nat)} (n : Nat) (C : cm_C p s m args meth c cc nL ret own D tys) (hM : CH l D tys y bytes maxL hh rm As ws E) (hX : vt_X (cm_A ws) s H) (hl1 : Cond.methodLink own index y ∈ TB) (hl2 : Cond.static y ∈ TB) (hl3 : Cond.initialized y.cls ∈ TB) (hl4 : Cond.codeWith y bytes maxL (some .int) hh ∈ TB) (hrc : rm.cells = 1) (hrs : rm.slots = 6)
    (hd : y.cls ≠ "java/lang/invoke/MethodHandle" ∧ y.cls ≠ "java/lang/invoke/VarHandle" ∧ (parseMethodDescriptor y.desc).map (fun d => d.parameters.length) = some n) (hR : rm.frames + 1 ≤ R.frames ∧ 8 + (maxL + 11) + rm.locals ≤ R.locals) (hf : cells + 1 ≤ R.cells ∧ slots + 6 ≤ R.slots)
    (hP : va_P D vwCl ws H) (hD : va_D A0 ws) (hS : va_S A0 H0 H locs) (hsz : ls.size = nL) (hn : As.length = n) (hst : st0 = As.reverse ++ rest) (hW : (rest.map fun v => v.category).sum ≤ 8) (hdg : decode cc pc = .ok (.invokestatic index, 3))
    (kk : ∀ (r : Int32) (w1 : va_W) (H1 : Heap) (locs1 : List Loc), E r w1 → va_P D vwCl w1 H1 → va_D A0 w1 → va_S A0 H0 H1 locs1 → W p l e R s m args below meth c H1 locs1 (cells + 1) (slots + 6) Q (F0 m (pc + 3) ls (.int r :: rest))) : W p l e R s m args below meth c H locs cells slots Q (F0 m pc ls st0) := by
  obtain ⟨hx, hb, -, hml, hown, hts, -, hK⟩ := C
  have hr := vx_runSW (e := e) (below := below) (meth := meth) (locs := locs) (cells := cells) (slots := slots) (hh := hh) (As := As) (rest := rest) (g := F0 m pc ls st0) ⟨hx, hb, hml, hown, hts⟩ hM (vx_cwSW n hts (by unfold va_wsS; exact tb_cons hl1 (tb_cons hl2 (tb_cons hl3 (tb_cons hl4 tb_good)))) rfl hrc hrs hd hR) ⟨ct_blind, fun U hU hW => ⟨rfl, by rw [hU]; exact hP, hK.warm hW, ⟨hD.1, fun _ _ _ => trivial⟩, by rw [hU]; exact hX.warm hW⟩⟩ rfl hn hsz hst (by show 2 * 0 + _ ≤ 8; omega) hdg hf
  intro T hT X
  obtain ⟨v, st₀, t, T', L, h0, X', hL, e1, e2, ⟨r, ws', hE, hv, hP1, hD1, hz, hk⟩, st⟩ := hr T hT X
  cases hv
  rw [h0] at hz hk
  obtain ⟨t2, a1, b1⟩ := kk r ws' T'.heap (locs ++ L) hE (by rw [e1]; exact hP1) ⟨hD1.1, fun k q h => cm_A.in hD _ (hD1.2 k q h)⟩
    ⟨Nat.le_trans hS.1 (by rw [e1]; exact hz), fun q h1 h2 => by rw [e1, hk q (Nat.lt_of_lt_of_le h1 hS.1) (fun z => h2 (cm_A.in hD q z))]; exact hS.2.1 q h1 h2, fun q hq => by
      rcases List.mem_append.mp hq with h | h
      · exact hS.2.2 q h
      · exact cm_A.in hD _ (hL q h)⟩ T' rfl X'
  exact ⟨t2, st t2 a1, b1⟩
end CHR
