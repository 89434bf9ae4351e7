/-! THE CLAIM OUT OF ONE WALK OF THE LAW'S BODY. Your part is whole_start (and what it stands on); all else here is the same for every law, but numbers. -/
def R_law : String := "CuckooPagesLaw"
def lw_P (b : Addr) (xs : List Int32) (args : Array Value) (s : State) : Prop := args = #[.ref b] ∧ s.IntsAt b xs ∧ xs.length ≤ 2048 ∧ (Jvm.Cond.and given_1 narrow_1).before args s = true
def lw_Q (_ : Array Value) (s : State) (o : Outcome) (t : State) : Prop := o = .returned (some (.int 1)) ∧ Framed s o t [] 1067 12552
def lw_Z (below : List Frame) (a : Array Value) (s : State) : State → Prop := fun t => ∃ o, t.status = .running ∧ Ended t below o ∧ lw_Q a s o t
/-- the law's own end, with 1 on the stack, nothing written that was there before, its room as the claim has it -/
theorem lw_ret {p : Program} {l : Launch} {e : Env} {s : State} {m : MethodId} {below : List Frame} {meth : Method} {c : Code} {b : Nat} (hx : p.tables.exec = Jvm.exec) (hb : c.code = code) (hr : meth.sig.returnType = ret) (hlocks : meth.locks = false) {pc : Nat} {H : Heap} {ls : Array Slot} (hdg : decode code pc = .ok (.ireturn, 1)) : W p l e room_1 s m #[Value.ref b] below meth c H [] 1067 12552 (lw_Z below #[Value.ref b] s) (F0 m pc ls [.int 1]) := by
  intro T hT X
  obtain ⟨fs, hret, hrun, hended, hW, hframe⟩ := X.leave (v := some (.int 1)) (hlocks := hlocks) (fun h => by rw [hr] at h; cases h)
  have hmeth' : T.vm.method? m = some meth := X.method'
  refine ⟨T.setFrames fs, ?_, .returned (some (.int 1)), hrun, hended, rfl, ⟨_, rfl⟩, hW, hframe⟩
  jvm_step X.here [X.here.top, hx, hb, hdg, hmeth', hr, ret, narrow_b1]
  (try refine ⟨rfl, ?_⟩); (try refine ⟨rfl, ?_⟩)
  first | (intro acts; rw [hret _ acts rfl rfl rfl]) | rw [hret _ _ rfl rfl rfl]
  exact Steps.refl _
/-- what holds at the law's entry: the machine, the code, the tables' words (any of lw_tbl by 'hts w (by decide +kernel)'), the script of L ints xs at the cell b, what the Statement gives of the start (any of its parts by flat_of_before) -/
def lw_At (p : Program) (s : State) (m : MethodId) (meth : Method) (c : Code) (b L : Nat) (xs : Nat → Int32) : Prop :=
  p.tables.exec = Jvm.exec ∧ c.code = code ∧ meth.sig.returnType = ret ∧ c.maxLocals = 7 ∧ s.vm.findClass R_law = some m.cls ∧ (∀ w ∈ lw_tbl, w.before #[Value.ref b] s = true) ∧ va_X b L xs s s.heap ∧ b < s.heap.size ∧ meth.locks = false ∧ (Jvm.Cond.and given_1 narrow_1).before #[Value.ref b] s = true
theorem arr_int {args : Array Value} {s : State} (h : (Cond.arrayClass .int).before args s = true) : ∃ cA, ArrOfT s cA .int ∧ va_RA s cA .int := by
  obtain ⟨cA, kA, comp, h1, h2, h3⟩ := Cond.arrayClass_spec h
  exact ⟨cA, fun n z => ⟨fun k h => (by cases h), kA, h2, comp, h3⟩, h1⟩
theorem arr_boolean {args : Array Value} {s : State} (h : (Cond.arrayClass .boolean).before args s = true) : ∃ cA, ArrOfT s cA .boolean ∧ va_RA s cA .boolean := by
  obtain ⟨cA, kA, comp, h1, h2, h3⟩ := Cond.arrayClass_spec h
  exact ⟨cA, fun n z => ⟨fun k h => (by cases h), kA, h2, comp, h3⟩, h1⟩
theorem arr_long {args : Array Value} {s : State} (h : (Cond.arrayClass .long).before args s = true) : ∃ cA, ArrOfT s cA .long ∧ va_RA s cA .long := by
  obtain ⟨cA, kA, comp, h1, h2, h3⟩ := Cond.arrayClass_spec h
  exact ⟨cA, fun n z => ⟨fun k h => (by cases h), kA, h2, comp, h3⟩, h1⟩
theorem str_of {args : Array Value} {s : State} {k : Nat} {t : String} {cur : Nat} (hcur : s.vm.findClass RX3 = some cur) (h : (Cond.stringRef RX3 k t).before args s = true) : ∃ a, vk_R RX3 k t a s := by
  obtain ⟨_, _, _, a, -, -, -, -, -, h9⟩ := Cond.stringRef_spec (args := args) (first := s) (o := none) (idx := []) hcur h
  first
    | exact ⟨a, vk_R.of h h9⟩
    | exact ⟨a, vk_R.of (A := #[]) h h9⟩
set_option maxHeartbeats 4000000 in
set_option maxRecDepth 100000 in
/-- the law from its entry -/
theorem whole_start {p : Program} {e : Env} {s : State} {m : MethodId} {below : List Frame} {meth : Method} {c : Code} (l : Launch) (hls : l.stackTraces = false) {b L : Nat} {xs : Nat → Int32} (hL : L ≤ 2048) (C0 : lw_At p s m meth c b L xs) : W p l e room_1 s m #[Value.ref b] below meth c s.heap [] 0 0 (lw_Z below #[Value.ref b] s) (entryFrame m ([Value.ref b] : List Value).toArray 7) := by
  obtain ⟨hx, hb, hr, hml, hown, hts, hXs, hbl, hlocks, hgv⟩ := C0
  have htb : ∀ w ∈ TB, w.before #[Value.ref b] s = true := fun w h => hts w (List.mem_filter.mp h).1
  obtain ⟨c0, i0, k0⟩ := u_known (C := RX0) (T := TX0) (N := 1) (n := 1) htb ui_X0 (htb _ tw_22)
  obtain ⟨c1, i1, k1⟩ := u_known (C := RX1) (T := TX1) (N := 1) (n := 1) htb ui_X1 (htb _ tw_51)
  obtain ⟨c2, i2, k2⟩ := u_known (C := RX2) (T := TX2) (N := 3) (n := 3) htb ui_X2 (htb _ tw_35)
  obtain ⟨c3, i3, k3⟩ := u_known (C := RX3) (T := TX3) (N := 10) (n := 10) htb ui_X3 (htb _ tw_14)
  obtain ⟨c4, i4, k4⟩ := u_known (C := RX4) (T := TX4) (N := 34) (n := 34) htb ui_X4 (htb _ tw_451)
  obtain ⟨D, hKc⟩ : ∃ D : va_G, ∀ (k : Nat) (q : vw_C), vwCl[k]? = some q → u_Kn s q.1 q.2.1 q.2.2 (D.1 k) (D.2 k) := by
    refine ⟨(fun k => match k with | 0 => c0 | 1 => c1 | 2 => c2 | 3 => c3 | _ => c4, fun k => match k with | 0 => i0 | 1 => i1 | 2 => i2 | 3 => i3 | _ => i4), ?_⟩
    intro k q hq
    match k, hq with
    | 0, hq => cases hq; exact k0
    | 1, hq => cases hq; exact k1
    | 2, hq => cases hq; exact k2
    | 3, hq => cases hq; exact k3
    | 4, hq => cases hq; exact k4
    | k + 5, hq => simp [vwCl] at hq
  obtain ⟨cI, aI1, aI2⟩ := arr_int (htb _ tw_33)
  obtain ⟨cZ, aZ1, aZ2⟩ := arr_boolean (htb _ tw_559)
  obtain ⟨cJ, aJ1, aJ2⟩ := arr_long (htb _ tw_692)
  have hK : cm_K D (cm_T cI cZ cJ) s := by
    refine ⟨⟨hKc, fun k q hq => ?_⟩, va_Nw.of rfl (hts (.methodLinkNest RX0 15 yX3_cellAt RX3) (by decide +kernel)), va_Nw.of rfl (hts (.methodLinkNest RX0 19 yX3_tellCell RX3) (by decide +kernel)), va_Nw.of rfl (hts (.methodLinkNest RX0 26 yX3_copyRow RX3) (by decide +kernel)), va_Nw.of rfl (hts (.methodLinkNest RX0 34 yX3_rowOf RX3) (by decide +kernel)), va_Nw.of rfl (hts (.methodLinkNest RX0 38 yX3_columnOf RX3) (by decide +kernel)), va_Nw.of rfl (hts (.methodLinkNest RX0 57 yX3_placeOf RX3) (by decide +kernel)), va_Nw.of rfl (hts (.methodLinkNest RX1 15 yX3_cellAt RX3) (by decide +kernel)), va_Nw.of rfl (hts (.methodLinkNest RX1 19 yX3_tellCell RX3) (by decide +kernel)), va_Nw.of rfl (hts (.methodLinkNest RX1 37 yX3_copyRow RX3) (by decide +kernel)), va_Nw.of rfl (hts (.methodLinkNest RX2 25 yX3_copyRow RX3) (by decide +kernel))⟩
    match k, hq with
    | 0, hq => cases hq; exact ⟨aI1, aI2⟩
    | 1, hq => cases hq; exact ⟨aZ1, aZ2⟩
    | 2, hq => cases hq; exact ⟨aJ1, aJ2⟩
    | k + 3, hq => simp [cm_T] at hq
  have C : cm_C p s m #[Value.ref b] meth c code 7 ret RL D (cm_T cI cZ cJ) := ⟨hx, hb, hr, hml, hown, htb, hlocks, hK⟩
  have hgs := flat_of_before _ hgv
  have hc3 : s.vm.findClass RX3 = some (D.1 3) := (hKc 3 _ rfl).2.1
  have hVX : vt_X (la_A s) s s.heap := by
    refine ⟨⟨va_Nw.of rfl (hts (.declares (vt_i "java/lang/RuntimeException")) (by decide +kernel)), va_Nw.of rfl (hts (.declares (vt_i "java/lang/Exception")) (by decide +kernel)), va_Nw.of rfl (hts (.declares (vt_i "java/lang/Throwable")) (by decide +kernel)), va_Nw.of rfl (hts (.castable eA eA) (by decide +kernel)), va_Nw.of rfl (hts (.castable eS eS) (by decide +kernel)), va_Nc.of (hgs (.not (.castable eS eA)) (by decide +kernel))⟩, ⟨str_of hc3 (hts (.stringRef RX3 42 "no such seed") (by decide +kernel)), str_of hc3 (hts (.stringRef RX3 53 "there was a write already") (by decide +kernel)), str_of hc3 (hts (.stringRef RX3 106 "fewer than no writes") (by decide +kernel)), str_of hc3 (hts (.stringRef RX3 117 "no such page") (by decide +kernel)), str_of hc3 (hts (.stringRef RX3 119 "no such slot") (by decide +kernel)), str_of hc3 (hts (.stringRef RX3 121 "nothing such to tell of a slot") (by decide +kernel)), str_of hc3 (hts (.stringRef RX3 162 "nothing such to count") (by decide +kernel))⟩, ?_, ?_⟩
    · exact vx_Zqof (hts (.laysStatic "java/lang/Throwable" "UNASSIGNED_STACK" "[Ljava/lang/StackTraceElement;") (by decide +kernel)) (htb _ tw_6) (hgs (.isRef (.static "java/lang/Throwable" "UNASSIGNED_STACK" "[Ljava/lang/StackTraceElement;")) (by decide +kernel)) (fun a h9 => Nat.not_le.mpr h9)
    · exact vx_Zqof (hts (.laysStatic "java/lang/Throwable" "SUPPRESSED_SENTINEL" "Ljava/util/List;") (by decide +kernel)) (htb _ tw_6) (hgs (.isRef (.static "java/lang/Throwable" "SUPPRESSED_SENTINEL" "Ljava/util/List;")) (by decide +kernel)) (fun a h9 => Nat.not_le.mpr h9)
  have hend : ∀ (ls : Array Slot) (H : Heap) (locs : List Loc), va_S (la_A s) s.heap H locs → W p l e room_1 s m #[Value.ref b] below meth c H locs 1067 12552 (lw_Z below #[Value.ref b] s) (F0 m 545 ls []) := by
    intro ls H locs hS
    refine lv_iconst (v := 1) C.1 C.2.1 dL_law_545 (by decide +kernel) ?_
    exact va_forget hS.2.2 (lw_ret hx hb hr hlocks dL_law_546)
  have hA : ∀ q : Nat, s.heap.size ≤ q → la_A s q := fun _ h => h
  have hS : va_S (la_A s) s.heap s.heap [] := va_S.rf
  have hP : va_P D vwCl [] s.heap := fun k q h => by simp at h
  have hD : va_D (la_A s) [] := ⟨fun i j p q h => by simp at h, fun k q h => by simp at h⟩
  have hl := lv_entry ([.ref b]) (n := 7) (Nat.le_of_ble_eq_true rfl)
  rw [lg_entry_eq]
  generalize (lg_sl ([.ref b]) ++ List.replicate (7 - (lg_sl ([.ref b])).length) Slot.unset).toArray = ls at hl ⊢
  have hl : lv_has ls 7 [(0, .ref b)] := hl
  refine va_new (ci := 3) (fs := [.null, .null, .null, .null, .null, .null, .int (nI 0), .int (nI 0), .int (nI 0), .int (nI 0)]) (C := RX3) (T := TX3) (N := 10) C.1 C.2.1 htb ui_X3 tyX3 tyX3_ok C.2.2.2.2.1 (htb _ tw_13) (htb _ tw_14) (htb _ tw_1) hK.1 hP hD hS hA rfl (fun j hj => match j, hj with | 0, _ => rfl | 1, _ => rfl | 2, _ => rfl | 3, _ => rfl | 4, _ => rfl | 5, _ => rfl | 6, _ => rfl | 7, _ => rfl | 8, _ => rfl | 9, _ => rfl | j + 10, h => absurd h (by omega)) (Nat.le_of_ble_eq_true rfl) (Nat.le_of_ble_eq_true rfl) dL_law_0 (fun q1 H hP hD hS => ?_)
  refine W.widen (k := 1) (n := 10) (by decide) (by decide) ?_
  refine lv_dup C.1 C.2.1 dL_law_3 rfl ?_
  have hP : va_P D vwCl [(q1, .inr (3, [.null, .null, .null, .null, .null, .null, .int (nI 0), .int (nI 0), .int (nI 0), .int (nI 0)]))] H := hP
  have hD : va_D (la_A s) [(q1, .inr (3, [.null, .null, .null, .null, .null, .null, .int (nI 0), .int (nI 0), .int (nI 0), .int (nI 0)]))] := hD
  refine cm_cI (wc := [(q1, .inr (3, [.null, .null, .null, .null, .null, .null, .int (nI 0), .int (nI 0), .int (nI 0), .int (nI 0)]))]) (wr := []) (rest := [.ref q1]) 0 [0] [] C (k_X3_init l D cI cZ cJ q1) tw_15 tw_16 tw_1 tw_17 rfl rfl rfl (by decide +kernel) ⟨Nat.le_of_ble_eq_true rfl, Nat.le_of_ble_eq_true rfl⟩ ⟨Nat.le_of_ble_eq_true rfl, Nat.le_of_ble_eq_true rfl⟩ rfl rfl rfl (by decide) (by decide) (by decide) hA hP hD hS hl.1 rfl rfl (Nat.le_of_ble_eq_true rfl) dL_law_4 (fun w9 H locs hE hP hD hS => ?_)
  obtain ⟨ac, hac, rfl⟩ := hE
  refine W.widen (k := 13) (n := 2283) (by decide) (by decide) ?_
  have hP9 := hP
  have hD9 := hD
  subst hac
  have hP := hP9
  have hD := hD9
  have hP : va_P D vwCl (cw ac cI [] sd0 (fun _ => nI 0) (fun _ => nI 0) (fun _ => nI 0) (fun _ => nI 0, fun _ => nI 0, fun _ => nI 0, 0, 0) (nI 0) (nI 0) (nI 0)) H := hP
  have hD : va_D (la_A s) (cw ac cI [] sd0 (fun _ => nI 0) (fun _ => nI 0) (fun _ => nI 0) (fun _ => nI 0, fun _ => nI 0, fun _ => nI 0, 0, 0) (nI 0) (nI 0) (nI 0)) := hD
  refine lv_astore_n (lv' := [(1, _), (0, _)]) C.1 C.2.1 dL_law_7 rfl hl (by decide) rfl (fun ls hl => ?_)
  refine va_new (ci := 4) (fs := [.int (nI 0), .null, .null, .null, .null, .int (nI 0), .int (nI 0), .int (nI 0), .null, .null, .null, .null, .null, .null, .int (nI 0), .int (nI 0), .int (nI 0), .null, .null, .null, .int (nI 0), .int (nI 0), .null, .null, .null, .null, .null, .null, .null, .int (nI 0), .null, .int (nI 0), .int (nI 0), .int (nI 0)]) (C := RX4) (T := TX4) (N := 34) C.1 C.2.1 htb ui_X4 tyX4 tyX4_ok C.2.2.2.2.1 (htb _ tw_450) (htb _ tw_451) (htb _ tw_5) hK.1 hP hD hS hA rfl (fun j hj => match j, hj with | 0, _ => rfl | 1, _ => rfl | 2, _ => rfl | 3, _ => rfl | 4, _ => rfl | 5, _ => rfl | 6, _ => rfl | 7, _ => rfl | 8, _ => rfl | 9, _ => rfl | 10, _ => rfl | 11, _ => rfl | 12, _ => rfl | 13, _ => rfl | 14, _ => rfl | 15, _ => rfl | 16, _ => rfl | 17, _ => rfl | 18, _ => rfl | 19, _ => rfl | 20, _ => rfl | 21, _ => rfl | 22, _ => rfl | 23, _ => rfl | 24, _ => rfl | 25, _ => rfl | 26, _ => rfl | 27, _ => rfl | 28, _ => rfl | 29, _ => rfl | 30, _ => rfl | 31, _ => rfl | 32, _ => rfl | 33, _ => rfl | j + 34, h => absurd h (by omega)) (Nat.le_of_ble_eq_true rfl) (Nat.le_of_ble_eq_true rfl) dL_law_8 (fun q2 H hP hD hS => ?_)
  refine W.widen (k := 14) (n := 2317) (by decide) (by decide) ?_
  refine lv_dup C.1 C.2.1 dL_law_11 rfl ?_
  refine cm_cI (wc := [(q2, .inr (4, [.int (nI 0), .null, .null, .null, .null, .int (nI 0), .int (nI 0), .int (nI 0), .null, .null, .null, .null, .null, .null, .int (nI 0), .int (nI 0), .int (nI 0), .null, .null, .null, .int (nI 0), .int (nI 0), .null, .null, .null, .null, .null, .null, .null, .int (nI 0), .null, .int (nI 0), .int (nI 0), .int (nI 0)]))]) (wr := (cw ac cI [] sd0 (fun _ => nI 0) (fun _ => nI 0) (fun _ => nI 0) (fun _ => nI 0, fun _ => nI 0, fun _ => nI 0, 0, 0) (nI 0) (nI 0) (nI 0))) (rest := [.ref q2]) 0 [13] [0, 1, 2, 3, 4, 5, 6, 7, 8, 9, 10, 11, 12] C (k_X4_init l D cI cZ cJ q2) tw_452 tw_453 tw_5 tw_454 rfl rfl rfl (by decide +kernel) ⟨Nat.le_of_ble_eq_true rfl, Nat.le_of_ble_eq_true rfl⟩ ⟨Nat.le_of_ble_eq_true rfl, Nat.le_of_ble_eq_true rfl⟩ rfl rfl rfl (by decide) (by decide) (by decide) hA hP hD hS hl.1 rfl rfl (Nat.le_of_ble_eq_true rfl) dL_law_12 (fun w9 H locs hE hP hD hS => ?_)
  obtain ⟨am, ham, rfl⟩ := hE
  refine W.widen (k := 35) (n := 4317) (by decide) (by decide) ?_
  have hP9 := hP
  have hD9 := hD
  subst ham
  have hP := hP9
  have hD := hD9
  refine lv_astore_n (lv' := [(2, _), (1, _), (0, _)]) C.1 C.2.1 dL_law_15 rfl hl (by decide) rfl (fun ls hl => ?_)
  refine lv_iconst (v := nI 1) C.1 C.2.1 dL_law_16 (by decide +kernel) ?_
  refine ca_newa (atype := .long) (ty := .long) (nm := "[J") (N' := 1) (a0 := (1, .inr (.inl (fun _ => 0)))) 2 C rfl tw_692 rfl (fun _ h9 => va_nm_long h9) hA hP hD hS (fun c9 => rfl) (by decide +kernel) (by decide +kernel) (by decide +kernel) (Nat.le_of_ble_eq_true rfl) (Nat.le_of_ble_eq_true rfl) dL_law_17 (fun ao H hP hD hS => ?_)
  have hP : va_P D vwCl (LWt ac am ao cI cZ cJ (fun _ => 0) sd0 (fun _ => nI 0) (fun _ => nI 0) (fun _ => nI 0) (fun _ => nI 0, fun _ => nI 0, fun _ => nI 0, 0, 0) (nI 0) (nI 0) (nI 0) (fun _ => nI 0) A00) H := hP
  have hD : va_D (la_A s) (LWt ac am ao cI cZ cJ (fun _ => 0) sd0 (fun _ => nI 0) (fun _ => nI 0) (fun _ => nI 0) (fun _ => nI 0, fun _ => nI 0, fun _ => nI 0, 0, 0) (nI 0) (nI 0) (nI 0) (fun _ => nI 0) A00) := hD
  refine lv_astore_n (lv' := [(3, _), (2, _), (1, _), (0, _)]) C.1 C.2.1 dL_law_19 rfl hl (by decide) rfl (fun ls hl => ?_)
  refine lv_iconst (v := nI 0) C.1 C.2.1 dL_law_20 (by decide +kernel) ?_
  refine lv_istore (lv' := [(4, _), (3, _), (2, _), (1, _), (0, _)]) C.1 C.2.1 dL_law_21 hl (by decide) rfl (fun ls hl => ?_)
  refine W.widen (k := 36 + 0) (n := 4318 + 6 * 0) (by decide) (by decide) ?_
  exact law_loop hls hL C hXs hbl hVX hend (L / 4) 0 (by omega) (by omega) _ _ _ _ _ _ _ _ _ _ _ _ _ _ hl hP hD hS INV00
