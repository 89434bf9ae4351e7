/-! ===== making: contracts of constructors, over a world that grows ===== -/
def CA (l : Launch) (D : va_G) (tys : List (ClassId × FieldType)) (y : MethodName) (cc : ByteArray) (nL : Nat) (rm : Room) (av : List Value) (ws : va_W) (mc ms : Nat) (E : va_W → Prop) : Prop :=
  ∀ sz : Nat, Met l y (Cond.code y cc nL none :: TB) rm (va_Pc av (fun U => U.heap.size = sz ∧ va_P D vwCl ws U.heap ∧ cm_K D tys U ∧ va_D (fun _ => True) ws)) (fun _ st oc t => ∃ ws', E ws' ∧ oc = .returned none ∧ va_P D vwCl ws' t.heap ∧ va_D (va_A ws sz) ws' ∧ va_F (va_A ws sz) st t) mc ms (va_A ws sz)
def ca_Q (below : List Frame) (D : va_G) (av : List Value) (s : State) (ws : va_W) (mc ms : Nat) (E : va_W → Prop) : State → Prop :=
  MQ below (fun _ st oc t => ∃ ws', E ws' ∧ oc = .returned none ∧ va_P D vwCl ws' t.heap ∧ va_D (va_A ws s.heap.size) ws' ∧ va_F (va_A ws s.heap.size) st t) av.toArray s mc ms (va_A ws s.heap.size)
theorem ca_blind {D : va_G} {tys : List (ClassId × FieldType)} {av : List Value} {ws : va_W} {sz : Nat} : FrameBlind (va_Pc av (fun U => U.heap.size = sz ∧ va_P D vwCl ws U.heap ∧ cm_K D tys U ∧ va_D (fun _ => True) ws)) := by
  intro a U g mk h
  obtain ⟨h0, h1, h2, h3, h4⟩ := h
  exact ⟨h0, h1, h2, cm_K.same (u := U) (U := U.calling g mk a) rfl h3, h4⟩
theorem CA.of {l : Launch} {D : va_G} {tys : List (ClassId × FieldType)} {y : MethodName} {rm : Room} {av : List Value} {ws : va_W} {mc ms : Nat} {E : va_W → Prop} {cc : ByteArray} {nL : Nat}
    (hy : plainName y.cls = true) (hi : y.name = "<init>") (hn : (lg_sl av).length ≤ nL)
    (body : ∀ (p : Program) (e : Env) (s : State) (m : MethodId) (below : List Frame) (meth : Method) (c : Code) (ls : Array Slot) (H : Heap) (locs : List Loc), cm_C p s m av.toArray meth c cc nL none y.cls D tys → meth.name = "<init>" → lv_has ls nL (lv_args 0 av) → (∀ q : Nat, s.heap.size ≤ q → va_A ws s.heap.size q) → va_P D vwCl ws H → va_D (va_A ws s.heap.size) ws → va_S (va_A ws s.heap.size) s.heap H locs →
      W p l e rm s m av.toArray below meth c H locs 0 0 (ca_Q below D av s ws mc ms E) (F0 m 0 ls [])) : CA l D tys y cc nL rm av ws mc ms E := by
  intro sz
  refine Met.ofW (cc := cc) (maxL := nL) (ret := none) hy rfl ?_
  intro p e s m args below meth c s₁ B hml hv
  obtain ⟨rfl, hsz, hP, hK, hD⟩ := hv
  subst hsz
  have hl := lv_entry av (n := nL) hn
  rw [lg_entry_eq]
  exact body p e s m below meth c _ s.heap [] ⟨B.exec, B.bytes, B.returns, hml, findClass_of_methodNamed B.named, fun w h => atoms_spec (ws := Cond.code y cc nL none :: TB) B.pre w (List.mem_cons_of_mem _ h), B.notSynchronized, hK⟩ ((name_of_methodNamed B.named B.method).1.trans hi) hl (fun q h => Or.inr h) hP hD.self va_S.rf
theorem ca_z {ty : FieldType} (h : defaultValue ty = .int 0) (cA : ClassId) (n : Nat) : vp_cell cA (n, .inl (fun _ => nI 0)) = arrV cA n (fun _ => defaultValue ty) := by
  rw [h, ← nI_0]
  rfl
section CAR
variable {p : Program} {l : Launch} {e : Env} {R : Room} {s : State} {m : MethodId} {args : Array Value} {below : List Frame} {meth : Method} {c : Code} {H : Heap} {locs : List Loc} {cells slots : Nat} {Q : State → Prop}
variable {cc : ByteArray} {nL : Nat} {ret : Option FieldType} {own : String} {D : va_G} {tys : List (ClassId × FieldType)} {pc : Nat} {ls : Array Slot} {av : List Value} {ws w1 : va_W} {A0 : Nat → Prop} {H0 : Heap} {rest st0 : List Value}
theorem ca_vret {mc ms : Nat} {E : va_W → Prop} (C : cm_C p s m av.toArray meth c cc nL none own D tys) (hP : va_P D vwCl w1 H) (hD : va_D (va_A ws s.heap.size) w1) (hS : va_S (va_A ws s.heap.size) s.heap H locs) (hdg : decode cc pc = .ok (.return_, 1)) (hE : E w1) :
    W p l e R s m av.toArray below meth c H locs mc ms (ca_Q below D av s ws mc ms E) (F0 m pc ls []) :=
  W.vret C.1 C.2.1 C.2.2.1 (fun t ht _ => ⟨w1, hE, rfl, by rw [ht]; exact hP, hD, hS.F ht⟩) hS.2.2 hdg C.2.2.2.2.2.2.1
theorem ca_newa {atype : ArrayType} {ty : FieldType} {cX : ClassId} {nm : String} (k : Nat) (C : cm_C p s m args meth c cc nL ret own D tys) (hty : newarray.typeOf atype = ty) (hw : Cond.arrayClass ty ∈ TB) (htk : tys[k]? = some (cX, ty)) (hnm : ∀ cA : ClassId, va_RA s cA ty → s.vm.findClass nm = some cA) (hA : ∀ q, H0.size ≤ q → A0 q) (hP : va_P D vwCl ws H) (hD : va_D A0 ws) (hS : va_S A0 H0 H locs)
    {n : Int32} {N' : Nat} {a0 : vp_A} (ha : ∀ cA : ClassId, vp_cell cA a0 = arrV cA N' (fun _ => defaultValue ty)) (hn : ¬ n < 0) (hN : n.toNatClampNeg = N') (hbytes : N' * componentBytes ty ≤ 536870912) (hcells : cells + 1 ≤ R.cells) (hslots : slots + N' ≤ R.slots) (hdg : decode cc pc = .ok (.newarray atype, 2))
    (kk : ∀ (q : Nat) (H1 : Heap), va_P D vwCl (ws ++ [(q, .inl (cX, a0))]) H1 → va_D A0 (ws ++ [(q, .inl (cX, a0))]) → va_S A0 H0 H1 locs → W p l e R s m args below meth c H1 locs (cells + 1) (slots + N') Q (F0 m (pc + 2) ls (.ref q :: rest))) : W p l e R s m args below meth c H locs cells slots Q (F0 m pc ls (.int n :: rest)) := by
  obtain ⟨hx, hb, -, -, -, hts, -, hK⟩ := C
  refine va_newa hx hb (by rw [hty]; exact hts _ hw) hty hK.1 hP hD hS hA ha hn hN hbytes hcells hslots hdg (fun q cA H1 hK1 hP1 hD1 hS1 => ?_)
  have e1 := hnm cA (hK1.2 tys.length (cA, ty) (by simp)).2
  have e2 := hnm cX (hK.1.2 k (cX, ty) htk).2
  have e3 : cA = cX := Option.some.inj (e1.symm.trans e2)
  subst e3
  exact kk q H1 hP1 hD1 hS1
variable {y : MethodName} {rm : Room} {As : List Value} {bytes : ByteArray} {maxL index : Nat}
/-- a constructor, called on a cell of its own -/
theorem cm_cI {b : Nat} {wc wr : va_W} {mc ms : Nat} {E : va_W → Prop} (n : Nat) (isC isR : List Nat) (C : cm_C p s m args meth c cc nL ret own D tys) (hM : CA l D tys y bytes maxL rm (.ref b :: As) wc mc ms E) (hl1 : Cond.methodLink own index y ∈ TB) (hl2 : Cond.instanceMethod y ∈ TB) (hl5 : Cond.initialized y.cls ∈ TB) (hl4 : Cond.code y bytes maxL none ∈ TB) (hrc : rm.cells = mc) (hrs : rm.slots = ms) (hi : y.name = "<init>")
    (hd : y.cls ≠ "java/lang/invoke/MethodHandle" ∧ y.cls ≠ "java/lang/invoke/VarHandle" ∧ (parseMethodDescriptor y.desc).map (fun d => d.parameters.length) = some n) (hR : rm.frames + 1 ≤ R.frames ∧ 8 + (maxL + 11) + rm.locals ≤ R.locals) (hf : cells + mc ≤ R.cells ∧ slots + ms ≤ R.slots)
    (hF : isC.filterMap (fun i => ws[i]?) = wc) (hC : isC.map (fun i => ws[i]?) = wc.map some) (hR2 : isR.map (fun i => ws[i]?) = wr.map some) (hnc : va_nd isC = true) (hnr : va_nd isR = true) (hdis : ∀ i ∈ isR, i ∉ isC)
    (hA : ∀ q, H0.size ≤ q → A0 q) (hP : va_P D vwCl ws H) (hD : va_D A0 ws) (hS : va_S A0 H0 H locs) (hsz : ls.size = nL) (hn : As.length = n) (hst : st0 = As.reverse ++ .ref b :: rest) (hW : (rest.map fun v => v.category).sum ≤ 8) (hdg : decode cc pc = .ok (.invokespecial index, 3))
    (kk : ∀ (ws' : va_W) (H1 : Heap) (locs1 : List Loc), E ws' → va_P D vwCl (wr ++ ws') H1 → va_D A0 (wr ++ ws') → va_S A0 H0 H1 locs1 → W p l e R s m args below meth c H1 locs1 (cells + mc) (slots + ms) Q (F0 m (pc + 3) ls rest)) : W p l e R s m args below meth c H locs cells slots Q (F0 m pc ls st0) := by
  obtain ⟨hx, hb, -, hml, hown, hts, -, hK⟩ := C
  have hPc := hP.sub (ws' := wc) isC hF
  have hDc := hD.sub (ws' := wc) isC hnc hC
  have hFc := va_free (wc := wc) hD hS hA isC hC
  have hr := va_runI (e := e) (below := below) (meth := meth) (locs := locs) (As := As) (rest := rest) (b := b) (g := F0 m pc ls st0) ⟨hx, hb, hml, hown, hts⟩ (hM H.size) (cwI n hts (tb_cons hl4 tb_good) rfl hrc hrs (hts _ hl5) (hts _ hl1) (hts _ hl2) hi hd hR) ⟨ca_blind, fun U hU hW => ⟨rfl, by rw [hU], by rw [hU]; exact hPc, hK.warm hW, hDc.1, fun _ _ _ => trivial⟩⟩ rfl hn hsz hst (by show 2 * 0 + _ ≤ 8; omega) hdg hf
  intro T hT X
  obtain ⟨v, st₀, t, T', L, h0, X', hL, e1, e2, ⟨ws', hE, hv, hP1, hD1, hz, hk⟩, st⟩ := hr T hT X
  cases hv
  rw [h0] at hz hk
  have hk1 : ∀ q : Nat, q < H.size → ¬ va_A wc H.size q → T'.heap[q]? = H[q]? := fun q h1 h2 => by rw [e1]; exact hk q h1 h2
  obtain ⟨hP2, hD2⟩ := va_join (w1 := ws') hP hD isC isR hC hR2 hnr hdis hk1 hFc (by rw [e1]; exact hP1) hD1
  obtain ⟨t2, a1, b1⟩ := kk ws' T'.heap (locs ++ L) hE hP2 hD2
    ⟨Nat.le_trans hS.1 (by rw [e1]; exact hz), fun q h1 h2 => by rw [hk1 q (Nat.lt_of_lt_of_le h1 hS.1) (fun z => h2 (hFc q z))]; exact hS.2.1 q h1 h2, fun q hq => by
      rcases List.mem_append.mp hq with h | h
      · exact hS.2.2 q h
      · exact hFc _ (hL q h)⟩ T' rfl X'
  exact ⟨t2, st t2 a1, b1⟩
end CAR
set_option maxHeartbeats 4000000 in
set_option maxRecDepth 100000 in
/-- new X0_init -/
theorem k_X0_init (l : Launch) (D : va_G) (cI cZ cJ : ClassId) (h0 : Nat) : CA l D (cm_T cI cZ cJ) yX0_init cX0_init 1 ({ frames := 1, cells := 1, slots := 440, locals := 20 } : Room) [.ref h0] [(h0, .inr (0, [.null]))] 1 440 (fun w => ∃ q1 : Nat, w = [(h0, .inr (0, [.ref q1])), (q1, .inl (cI, 440, .inl (fun _ => nI 0)))]) := by
  refine CA.of (by decide) rfl (Nat.le_of_ble_eq_true rfl) ?_
  intro p e s m below meth c ls H locs C hin hl hA hP hD hS
  refine lv_aload_n C.1 C.2.1 dX0_init_0 rfl (lv_at hl 0 rfl) ?_
  refine W.objInit C.1 C.2.1 C.2.2.2.2.1 (C.2.2.2.2.2.1 _ tw_26) (C.2.2.2.2.2.1 _ tw_19) (C.2.2.2.2.2.1 _ tw_20) rfl (hl.1.trans C.2.2.2.1.symm) rfl dX0_init_1 (Nat.le_of_ble_eq_true rfl) (Nat.le_of_ble_eq_true rfl) ?_
  refine W.eq (g2 := F0 m 4 ls []) rfl ?_
  refine lv_aload_n C.1 C.2.1 dX0_init_4 rfl (lv_at hl 0 rfl) ?_
  refine lv_sipush (v := nI 440) C.1 C.2.1 dX0_init_5 (by decide +kernel) ?_
  refine ca_newa (atype := .int) (ty := .int) (nm := "[I") (N' := 440) (a0 := (440, .inl (fun _ => nI 0))) 0 C rfl tw_33 rfl (fun _ h9 => va_nm_int h9) hA hP hD hS (fun c9 => ca_z rfl c9 440) (by decide +kernel) (by decide +kernel) (by decide +kernel) (Nat.le_of_ble_eq_true rfl) (Nat.le_of_ble_eq_true rfl) dX0_init_8 (fun q1 H hP hD hS => ?_)
  have hP : va_P D vwCl [(h0, .inr (0, [.null])), (q1, .inl (cI, 440, .inl (fun _ => nI 0)))] H := hP
  have hD : va_D _ [(h0, .inr (0, [.null])), (q1, .inl (cI, 440, .inl (fun _ => nI 0)))] := hD
  refine W.widen (k := 1) (n := 440) (by decide) (by decide) ?_
  refine va_putF (D := D) (ci := 0) (v := .ref q1) (ty := tyX0 0) (C := RX0) (T := TX0) (N := 1) C.1 C.2.1 C.2.2.2.2.2.1 ui_X0 tyX0 tyX0_ok nmX0 C.2.2.2.2.1 C.2.2.2.2.2.2.2.1 hP hD hS 0 rfl rfl 0 (by decide) (C.2.2.2.2.2.1 _ tw_27) (fun _ h9 => h9) rfl hin rfl (tyX0_ok 0 (by decide)) rfl rfl (Nat.le_of_ble_eq_true rfl) dX0_init_10 (fun H locs hP hD hS => ?_)
  have hP : va_P D vwCl [(h0, .inr (0, [.ref q1])), (q1, .inl (cI, 440, .inl (fun _ => nI 0)))] H := hP
  have hD : va_D _ [(h0, .inr (0, [.ref q1])), (q1, .inl (cI, 440, .inl (fun _ => nI 0)))] := hD
  exact ca_vret C hP hD hS dX0_init_13 ⟨q1, rfl⟩
set_option maxHeartbeats 4000000 in
set_option maxRecDepth 100000 in
/-- new X1_init -/
theorem k_X1_init (l : Launch) (D : va_G) (cI cZ cJ : ClassId) (h0 : Nat) : CA l D (cm_T cI cZ cJ) yX1_init cX1_init 1 ({ frames := 1, cells := 1, slots := 22, locals := 20 } : Room) [.ref h0] [(h0, .inr (1, [.null]))] 1 22 (fun w => ∃ q1 : Nat, w = [(h0, .inr (1, [.ref q1])), (q1, .inl (cI, 22, .inl (fun _ => nI 0)))]) := by
  refine CA.of (by decide) rfl (Nat.le_of_ble_eq_true rfl) ?_
  intro p e s m below meth c ls H locs C hin hl hA hP hD hS
  refine lv_aload_n C.1 C.2.1 dX1_init_0 rfl (lv_at hl 0 rfl) ?_
  refine W.objInit C.1 C.2.1 C.2.2.2.2.1 (C.2.2.2.2.2.1 _ tw_55) (C.2.2.2.2.2.1 _ tw_19) (C.2.2.2.2.2.1 _ tw_20) rfl (hl.1.trans C.2.2.2.1.symm) rfl dX1_init_1 (Nat.le_of_ble_eq_true rfl) (Nat.le_of_ble_eq_true rfl) ?_
  refine W.eq (g2 := F0 m 4 ls []) rfl ?_
  refine lv_aload_n C.1 C.2.1 dX1_init_4 rfl (lv_at hl 0 rfl) ?_
  refine lv_bipush (v := nI 22) C.1 C.2.1 dX1_init_5 (by decide +kernel) ?_
  refine ca_newa (atype := .int) (ty := .int) (nm := "[I") (N' := 22) (a0 := (22, .inl (fun _ => nI 0))) 0 C rfl tw_33 rfl (fun _ h9 => va_nm_int h9) hA hP hD hS (fun c9 => ca_z rfl c9 22) (by decide +kernel) (by decide +kernel) (by decide +kernel) (Nat.le_of_ble_eq_true rfl) (Nat.le_of_ble_eq_true rfl) dX1_init_7 (fun q1 H hP hD hS => ?_)
  have hP : va_P D vwCl [(h0, .inr (1, [.null])), (q1, .inl (cI, 22, .inl (fun _ => nI 0)))] H := hP
  have hD : va_D _ [(h0, .inr (1, [.null])), (q1, .inl (cI, 22, .inl (fun _ => nI 0)))] := hD
  refine W.widen (k := 1) (n := 22) (by decide) (by decide) ?_
  refine va_putF (D := D) (ci := 1) (v := .ref q1) (ty := tyX1 0) (C := RX1) (T := TX1) (N := 1) C.1 C.2.1 C.2.2.2.2.2.1 ui_X1 tyX1 tyX1_ok nmX1 C.2.2.2.2.1 C.2.2.2.2.2.2.2.1 hP hD hS 0 rfl rfl 0 (by decide) (C.2.2.2.2.2.1 _ tw_56) (fun _ h9 => h9) rfl hin rfl (tyX1_ok 0 (by decide)) rfl rfl (Nat.le_of_ble_eq_true rfl) dX1_init_9 (fun H locs hP hD hS => ?_)
  have hP : va_P D vwCl [(h0, .inr (1, [.ref q1])), (q1, .inl (cI, 22, .inl (fun _ => nI 0)))] H := hP
  have hD : va_D _ [(h0, .inr (1, [.ref q1])), (q1, .inl (cI, 22, .inl (fun _ => nI 0)))] := hD
  exact ca_vret C hP hD hS dX1_init_12 ⟨q1, rfl⟩
set_option maxHeartbeats 4000000 in
set_option maxRecDepth 100000 in
/-- new Waiting -/
theorem k_X2_init (l : Launch) (D : va_G) (cI cZ cJ : ClassId) (h0 : Nat) : CA l D (cm_T cI cZ cJ) yX2_init cX2_init 1 ({ frames := 1, cells := 2, slots := 920, locals := 20 } : Room) [.ref h0] [(h0, .inr (2, [.null, .null, .int (nI 0)]))] 2 920 (fun w => ∃ q1 q2 : Nat, w = [(h0, .inr (2, [.ref q1, .ref q2, .int (nI 0)])), (q1, .inl (cI, 40, .inl (fun _ => nI 0))), (q2, .inl (cI, 880, .inl (fun _ => nI 0)))]) := by
  refine CA.of (by decide) rfl (Nat.le_of_ble_eq_true rfl) ?_
  intro p e s m below meth c ls H locs C hin hl hA hP hD hS
  refine lv_aload_n C.1 C.2.1 dX2_init_0 rfl (lv_at hl 0 rfl) ?_
  refine W.objInit C.1 C.2.1 C.2.2.2.2.1 (C.2.2.2.2.2.1 _ tw_39) (C.2.2.2.2.2.1 _ tw_19) (C.2.2.2.2.2.1 _ tw_20) rfl (hl.1.trans C.2.2.2.1.symm) rfl dX2_init_1 (Nat.le_of_ble_eq_true rfl) (Nat.le_of_ble_eq_true rfl) ?_
  refine W.eq (g2 := F0 m 4 ls []) rfl ?_
  refine lv_aload_n C.1 C.2.1 dX2_init_4 rfl (lv_at hl 0 rfl) ?_
  refine lv_bipush (v := nI 40) C.1 C.2.1 dX2_init_5 (by decide +kernel) ?_
  refine ca_newa (atype := .int) (ty := .int) (nm := "[I") (N' := 40) (a0 := (40, .inl (fun _ => nI 0))) 0 C rfl tw_33 rfl (fun _ h9 => va_nm_int h9) hA hP hD hS (fun c9 => ca_z rfl c9 40) (by decide +kernel) (by decide +kernel) (by decide +kernel) (Nat.le_of_ble_eq_true rfl) (Nat.le_of_ble_eq_true rfl) dX2_init_7 (fun q1 H hP hD hS => ?_)
  have hP : va_P D vwCl [(h0, .inr (2, [.null, .null, .int (nI 0)])), (q1, .inl (cI, 40, .inl (fun _ => nI 0)))] H := hP
  have hD : va_D _ [(h0, .inr (2, [.null, .null, .int (nI 0)])), (q1, .inl (cI, 40, .inl (fun _ => nI 0)))] := hD
  refine W.widen (k := 1) (n := 40) (by decide) (by decide) ?_
  refine va_putF (D := D) (ci := 2) (v := .ref q1) (ty := tyX2 0) (C := RX2) (T := TX2) (N := 3) C.1 C.2.1 C.2.2.2.2.2.1 ui_X2 tyX2 tyX2_ok nmX2 C.2.2.2.2.1 C.2.2.2.2.2.2.2.1 hP hD hS 0 rfl rfl 0 (by decide) (C.2.2.2.2.2.1 _ tw_40) (fun _ h9 => h9) rfl hin rfl (tyX2_ok 0 (by decide)) rfl rfl (Nat.le_of_ble_eq_true rfl) dX2_init_9 (fun H locs hP hD hS => ?_)
  have hP : va_P D vwCl [(h0, .inr (2, [.ref q1, .null, .int (nI 0)])), (q1, .inl (cI, 40, .inl (fun _ => nI 0)))] H := hP
  have hD : va_D _ [(h0, .inr (2, [.ref q1, .null, .int (nI 0)])), (q1, .inl (cI, 40, .inl (fun _ => nI 0)))] := hD
  refine lv_aload_n C.1 C.2.1 dX2_init_12 rfl (lv_at hl 0 rfl) ?_
  refine lv_sipush (v := nI 880) C.1 C.2.1 dX2_init_13 (by decide +kernel) ?_
  refine ca_newa (atype := .int) (ty := .int) (nm := "[I") (N' := 880) (a0 := (880, .inl (fun _ => nI 0))) 0 C rfl tw_33 rfl (fun _ h9 => va_nm_int h9) hA hP hD hS (fun c9 => ca_z rfl c9 880) (by decide +kernel) (by decide +kernel) (by decide +kernel) (Nat.le_of_ble_eq_true rfl) (Nat.le_of_ble_eq_true rfl) dX2_init_16 (fun q2 H hP hD hS => ?_)
  have hP : va_P D vwCl [(h0, .inr (2, [.ref q1, .null, .int (nI 0)])), (q1, .inl (cI, 40, .inl (fun _ => nI 0))), (q2, .inl (cI, 880, .inl (fun _ => nI 0)))] H := hP
  have hD : va_D _ [(h0, .inr (2, [.ref q1, .null, .int (nI 0)])), (q1, .inl (cI, 40, .inl (fun _ => nI 0))), (q2, .inl (cI, 880, .inl (fun _ => nI 0)))] := hD
  refine W.widen (k := 2) (n := 920) (by decide) (by decide) ?_
  refine va_putF (D := D) (ci := 2) (v := .ref q2) (ty := tyX2 1) (C := RX2) (T := TX2) (N := 3) C.1 C.2.1 C.2.2.2.2.2.1 ui_X2 tyX2 tyX2_ok nmX2 C.2.2.2.2.1 C.2.2.2.2.2.2.2.1 hP hD hS 0 rfl rfl 1 (by decide) (C.2.2.2.2.2.1 _ tw_41) (fun _ h9 => h9) rfl hin rfl (tyX2_ok 1 (by decide)) rfl rfl (Nat.le_of_ble_eq_true rfl) dX2_init_18 (fun H locs hP hD hS => ?_)
  have hP : va_P D vwCl [(h0, .inr (2, [.ref q1, .ref q2, .int (nI 0)])), (q1, .inl (cI, 40, .inl (fun _ => nI 0))), (q2, .inl (cI, 880, .inl (fun _ => nI 0)))] H := hP
  have hD : va_D _ [(h0, .inr (2, [.ref q1, .ref q2, .int (nI 0)])), (q1, .inl (cI, 40, .inl (fun _ => nI 0))), (q2, .inl (cI, 880, .inl (fun _ => nI 0)))] := hD
  exact ca_vret C hP hD hS dX2_init_21 ⟨q1, q2, rfl⟩
