/-! ===== contracts whose end is one of many worlds ===== -/
def CRi (l : Launch) (D : va_G) (tys : List (ClassId × FieldType)) (y : MethodName) (cc : ByteArray) (nL : Nat) (ret : Option FieldType) (rm : Room) (av : List Value) (ws : va_W) (E : Int32 → va_W → Prop) : Prop :=
  Met l y (Cond.code y cc nL ret :: TB) rm (va_Pc av (fun U => va_P D vwCl ws U.heap ∧ cm_K D tys U ∧ va_D (fun _ => True) ws)) (fun _ st oc t => ∃ (r : Int32) (ws' : va_W), E r ws' ∧ oc = .returned (some (.int r)) ∧ va_P D vwCl ws' t.heap ∧ va_D (cm_A ws) ws' ∧ va_F (cm_A ws) st t) 0 0 (cm_A ws)
def cr_Q (below : List Frame) (D : va_G) (av : List Value) (s : State) (ws : va_W) (E : Int32 → va_W → Prop) : State → Prop :=
  MQ below (fun _ st oc t => ∃ (r : Int32) (ws' : va_W), E r ws' ∧ oc = .returned (some (.int r)) ∧ va_P D vwCl ws' t.heap ∧ va_D (cm_A ws) ws' ∧ va_F (cm_A ws) st t) av.toArray s 0 0 (cm_A ws)
theorem CRi.of {l : Launch} {D : va_G} {tys : List (ClassId × FieldType)} {y : MethodName} {rm : Room} {av : List Value} {ws : va_W} {E : Int32 → va_W → Prop} {cc : ByteArray} {nL : Nat} {ret : Option FieldType}
    (hy : plainName y.cls = true) (hn : (lg_sl av).length ≤ nL)
    (body : ∀ (p : Program) (e : Env) (s : State) (m : MethodId) (below : List Frame) (meth : Method) (c : Code) (ls : Array Slot) (H : Heap) (locs : List Loc), cm_C p s m av.toArray meth c cc nL ret y.cls D tys → lv_has ls nL (lv_args 0 av) → va_P D vwCl ws H → va_D (cm_A ws) ws → va_S (cm_A ws) s.heap H locs →
      W p l e rm s m av.toArray below meth c H locs 0 0 (cr_Q below D av s ws E) (F0 m 0 ls [])) : CRi l D tys y cc nL ret rm av ws E := by
  refine Met.ofW (cc := cc) (maxL := nL) (ret := ret) hy rfl ?_
  intro p e s m args below meth c s₁ B hml hv
  obtain ⟨rfl, hP, hK, hD⟩ := hv
  have hl := lv_entry av (n := nL) hn
  rw [lg_entry_eq]
  exact body p e s m below meth c _ s.heap [] ⟨B.exec, B.bytes, B.returns, hml, findClass_of_methodNamed B.named, fun w h => atoms_spec (ws := Cond.code y cc nL ret :: TB) B.pre w (List.mem_cons_of_mem _ h), B.notSynchronized, hK⟩ hl hP (cm_A.self hD) va_S.rf
section CRR
variable {p : Program} {l : Launch} {e : Env} {R : Room} {s : State} {m : MethodId} {args : Array Value} {below : List Frame} {meth : Method} {c : Code} {H : Heap} {locs : List Loc} {cells slots : Nat} {Q : State → Prop}
variable {cc : ByteArray} {nL : Nat} {ret : Option FieldType} {own : String} {D : va_G} {tys : List (ClassId × FieldType)} {pc : Nat} {ls : Array Slot} {av : List Value} {ws w1 : va_W} {E : Int32 → va_W → Prop}
theorem cr_iret {v : Int32} (C : cm_C p s m av.toArray meth c cc nL (some .int) own D tys) (hP : va_P D vwCl w1 H) (hD : va_D (cm_A ws) w1) (hS : va_S (cm_A ws) s.heap H locs) (hdg : decode cc pc = .ok (.ireturn, 1)) (hr : E v w1) :
    W p l e R s m av.toArray below meth c H locs 0 0 (cr_Q below D av s ws E) (F0 m pc ls [.int v]) :=
  W.iret C.1 C.2.1 C.2.2.1 (fun t ht _ => ⟨v, w1, hr, rfl, by rw [ht]; exact hP, hD, hS.F ht⟩) hS.2.2 hdg C.2.2.2.2.2.2.1
theorem cr_zret {v : Int32} (C : cm_C p s m av.toArray meth c cc nL (some .boolean) own D tys) (hP : va_P D vwCl w1 H) (hD : va_D (cm_A ws) w1) (hS : va_S (cm_A ws) s.heap H locs) (hdg : decode cc pc = .ok (.ireturn, 1)) (hn : narrow .boolean (.int v) = .int v) (hr : E v w1) :
    W p l e R s m av.toArray below meth c H locs 0 0 (cr_Q below D av s ws E) (F0 m pc ls [.int v]) :=
  W.zret C.1 C.2.1 C.2.2.1 hn (fun t ht _ => ⟨v, w1, hr, rfl, by rw [ht]; exact hP, hD, hS.F ht⟩) hS.2.2 hdg C.2.2.2.2.2.2.1
variable {A0 : Nat → Prop} {H0 : Heap} {y : MethodName} {rm : Room} {As rest st0 : List Value} {bytes : ByteArray} {maxL index : Nat} {ret' : Option FieldType}
/-- an instance method, by invokevirtual -/
theorem cr_cV {C0 : String} {b q0 ci : Nat} {fs : List Value} {T0 : u_T} {N0 : Nat} (n : Nat) (C : cm_C p s m args meth c cc nL ret own D tys) (hM : CRi l D tys y bytes maxL ret' rm (.ref b :: As) ws E) (hl1 : Cond.methodLink own index y ∈ TB) (hl2 : Cond.instanceMethod y ∈ TB) (hl3 : Cond.selects C0 y y ∈ TB) (hl5 : Cond.initialized C0 ∈ TB) (hl4 : Cond.code y bytes maxL ret' ∈ TB) (hrc : rm.cells = 0) (hrs : rm.slots = 0)
    (he : ws[q0]? = some (b, .inr (ci, fs))) (hci : vwCl[ci]? = some (C0, T0, N0))
    (hd : y.cls = C0 ∧ y.cls ≠ "java/lang/invoke/MethodHandle" ∧ y.cls ≠ "java/lang/invoke/VarHandle" ∧ (parseMethodDescriptor y.desc).map (fun d => d.parameters.length) = some n) (hR : rm.frames + 1 ≤ R.frames ∧ 8 + (maxL + 11) + rm.locals ≤ R.locals) (hf : cells ≤ R.cells ∧ slots ≤ R.slots)
    (hP : va_P D vwCl ws H) (hD : va_D A0 ws) (hS : va_S A0 H0 H locs) (hsz : ls.size = nL) (hn : As.length = n) (hst : st0 = As.reverse ++ .ref b :: rest) (hW : (rest.map fun v => v.category).sum ≤ 8) (hdg : decode cc pc = .ok (.invokevirtual index, 3))
    (kk : ∀ (r : Int32) (w1 : va_W) (H1 : Heap) (locs1 : List Loc), E r w1 → va_P D vwCl w1 H1 → va_D A0 w1 → va_S A0 H0 H1 locs1 → W p l e R s m args below meth c H1 locs1 cells slots Q (F0 m (pc + 3) ls (.int r :: rest))) : W p l e R s m args below meth c H locs cells slots Q (F0 m pc ls st0) := by
  obtain ⟨hx, hb, -, hml, hown, hts, -, hK⟩ := C
  have hr := va_runV (As := As) (rest := rest) (g := F0 m pc ls st0) (locs := locs) (cells := cells) (slots := slots) (below := below) (meth := meth) (e := e) (R := R) ⟨hx, hb, hml, hown, hts⟩ hM (cwV n hts (tb_cons hl1 (tb_cons hl2 (tb_cons hl3 (tb_cons hl5 (tb_cons hl4 tb_good))))) rfl hrc hrs hd hR) ⟨cm_blind, va_recv hK.1 hP hci he, fun U hU hW => ⟨rfl, by rw [hU]; exact hP, hK.warm hW, hD.1, fun _ _ _ => trivial⟩⟩ rfl hn hsz hst (by show 2 * 0 + _ ≤ 8; omega) hdg ⟨by omega, by omega⟩
  intro T hT X
  obtain ⟨v, st₀, t, T', L, h0, X', hL, e1, e2, ⟨r, w1, hE, hv, hP1, hD1, hz, hk⟩, st⟩ := hr T hT X
  cases hv
  rw [h0] at hz hk
  obtain ⟨t2, a1, b1⟩ := kk r w1 T'.heap (locs ++ L) hE (by rw [e1]; exact hP1) ⟨hD1.1, fun k q h => cm_A.in hD _ (hD1.2 k q h)⟩
    ⟨Nat.le_trans hS.1 (by rw [e1]; exact hz), fun q h1 h2 => by rw [e1, hk q (Nat.lt_of_lt_of_le h1 hS.1) (fun z => h2 (cm_A.in hD q z))]; exact hS.2.1 q h1 h2, fun q hq => by
      rcases List.mem_append.mp hq with h | h
      · exact hS.2.2 q h
      · exact cm_A.in hD _ (hL q h)⟩ T' rfl X'
  exact ⟨t2, st t2 a1, b1⟩
end CRR
/-! ===== the class's world, and its writes ===== -/
/-- THE DISK's cells, the rows and the cells of the WRITES that wait, how many wait, how many there were ever -/
abbrev WS : Type := (Nat → Int32) × (Nat → Int32) × (Nat → Int32) × Nat × Nat
abbrev cw (ad : Nat → Nat) (cI : ClassId) (X : va_W) (sd fn ft fm : Nat → Int32) (σ : WS) (ta lp lr : Int32) : va_W :=
  (ad 0, .inr (3, [.ref (ad 1), .ref (ad 2), .ref (ad 4), .ref (ad 6), .ref (ad 8), .ref (ad 11), .int (nI σ.2.2.2.2), .int ta, .int lp, .int lr])) ::
  (ad 1, .inl (cI, 4, .inl sd)) :: (ad 2, .inr (0, [.ref (ad 3)])) :: (ad 3, .inl (cI, 440, .inl fn)) :: (ad 4, .inr (0, [.ref (ad 5)])) :: (ad 5, .inl (cI, 440, .inl σ.1)) ::
  (ad 6, .inr (0, [.ref (ad 7)])) :: (ad 7, .inl (cI, 440, .inl ft)) :: (ad 8, .inr (2, [.ref (ad 9), .ref (ad 10), .int (nI σ.2.2.2.1)])) :: (ad 9, .inl (cI, 40, .inl σ.2.1)) :: (ad 10, .inl (cI, 880, .inl σ.2.2.1)) ::
  (ad 11, .inr (1, [.ref (ad 12)])) :: (ad 12, .inl (cI, 22, .inl fm)) :: X
def sOk (σ : WS) : Prop := σ.2.2.2.1 ≤ 40 ∧ ∀ j, j < σ.2.2.2.1 → σ.2.1 j = nI (σ.2.1 j).toNatClampNeg ∧ (σ.2.1 j).toNatClampNeg < 20
/-- a WRITE of the row r of fn -/
def wr (fn : Nat → Int32) (r : Nat) (σ : WS) : WS :=
  if σ.2.2.2.1 < 40 then (σ.1, upd σ.2.1 σ.2.2.2.1 (nI r), va_cpy fn σ.2.2.1 (r * 22) (σ.2.2.2.1 * 22) 22, σ.2.2.2.1 + 1, σ.2.2.2.2 + 1)
  else (doN σ.2.1 σ.2.2.1 0 σ.2.2.2.1 σ.1, upd σ.2.1 0 (nI r), va_cpy fn σ.2.2.1 (r * 22) (0 * 22) 22, 0 + 1, σ.2.2.2.2 + 1)
theorem wr_ok {fn : Nat → Int32} {r : Nat} {σ : WS} (h : sOk σ) (hr : r < 20) : sOk (wr fn r σ) := by
  obtain ⟨fd, fr, fw, t, e⟩ := σ
  obtain ⟨h1, h2⟩ := h
  dsimp only at h1 h2
  have hc : (nI r).toNatClampNeg = r := nI_clamp (by omega)
  by_cases ht : t < 40
  · rw [show wr fn r (fd, fr, fw, t, e) = (fd, upd fr t (nI r), va_cpy fn fw (r * 22) (t * 22) 22, t + 1, e + 1) from if_pos ht]
    refine ⟨by dsimp only; omega, fun j hj => ?_⟩
    dsimp only at hj ⊢
    by_cases hjt : j = t
    · subst hjt; rw [pk_us, hc]; exact ⟨rfl, hr⟩
    · rw [pk_un hjt]; exact h2 j (by omega)
  · rw [show wr fn r (fd, fr, fw, t, e) = (doN fr fw 0 t fd, upd fr 0 (nI r), va_cpy fn fw (r * 22) (0 * 22) 22, 0 + 1, e + 1) from if_neg ht]
    refine ⟨by dsimp only; omega, fun j hj => ?_⟩
    dsimp only at hj ⊢
    obtain rfl : j = 0 := by omega
    rw [pk_us, hc]; exact ⟨rfl, hr⟩
def mk1 (x : (Nat → Int32) × WS) (m : Nat × Int32 × Int32) : (Nat → Int32) × WS := (fillC x.1 m.1 m.2.1 m.2.2, wr (fillC x.1 m.1 m.2.1 m.2.2) (m.1 / 4) x.2)
/-- the moves made, from the end back -/
def mkR : List (Nat × Int32 × Int32) → (Nat → Int32) × WS → (Nat → Int32) × WS
  | [], x => x
  | m :: M, x => mk1 (mkR M x) m
theorem mkR_app : ∀ (A B : List (Nat × Int32 × Int32)) (x : (Nat → Int32) × WS), mkR (A ++ B) x = mkR A (mkR B x) := by
  intro A
  induction A with
  | nil => intro B x; rfl
  | cons m A ih => intro B x; simp only [List.cons_append, mkR, ih]
def mEnc (fm : Nat → Int32) (M : List (Nat × Int32 × Int32)) : Prop := M.length ≤ 7 ∧ fm 0 = nI M.length ∧ ∀ (j : Nat) (m : Nat × Int32 × Int32), M[j]? = some m → fm (1 + j * 3) = nI m.1 ∧ fm (2 + j * 3) = m.2.1 ∧ fm (3 + j * 3) = m.2.2 ∧ m.1 < 72
theorem mkR_ok {M : List (Nat × Int32 × Int32)} (hM : ∀ m ∈ M, m.1 < 72) : ∀ {x : (Nat → Int32) × WS}, sOk x.2 → sOk (mkR M x).2 := by
  induction M with
  | nil => intro x h; exact h
  | cons m M ih =>
    intro x h
    have := hM m List.mem_cons_self
    exact wr_ok (ih (fun q hq => hM q (List.mem_cons_of_mem _ hq)) h) (by omega)
theorem m1_sub (x : Int32) : x + Int32.ofInt (-1) = x - nI 1 := by
  rw [Int32.sub_eq_add_neg]; rfl
set_option maxHeartbeats 4000000 in
set_option maxRecDepth 100000 in
/-- write -/
theorem k_X3_write (l : Launch) (D : va_G) (cI cZ cJ : ClassId) (ad : Nat → Nat) (X : va_W) (sd fn ft fm : Nat → Int32) (σ : WS) (ta lp lr : Int32) (hσ : sOk σ) (r : Nat) (hr : r < 20) : CM l D (cm_T cI cZ cJ) yX3_write cX3_write 2 none (cm_rm 3 88) [.ref (ad 0), .int (nI r)] (cw ad cI X sd fn ft fm σ ta lp lr) none (cw ad cI X sd fn ft fm (wr fn r σ) ta lp lr) := by
  obtain ⟨fd, fr, fw, t, e9⟩ := σ
  obtain ⟨hσ1, hσ2⟩ := hσ
  dsimp only at hσ1 hσ2
  refine CM.of (by decide) (Nat.le_of_ble_eq_true rfl) ?_
  intro p e s m below meth c ls H locs C hl hP hD hS
  by_cases ht : t < 40
  · refine lv_aload_n C.1 C.2.1 dX3_write_0 rfl (lv_at hl 0 rfl) ?_
    refine va_get (ci := 3) (C := RX3) (T := TX3) (N := 10) C.1 C.2.1 C.2.2.2.2.2.1 ui_X3 C.2.2.2.2.1 C.2.2.2.2.2.2.2.1 hP 0 (rfl) rfl 4 (by decide) (C.2.2.2.2.2.1 _ tw_65) (fun _ h9 => h9) rfl dX3_write_1 ?_
    refine cm_cV1 (q0 := 8) 0 C (k_X2_size l D cI cZ cJ (cw ad cI X sd fn ft fm (fd, fr, fw, t, e9) ta lp lr) t (qW := 8) (qR := 9) (qC := 10) rfl rfl rfl) tw_248 tw_249 tw_250 tw_3 tw_251 rfl rfl (rfl) rfl (by decide +kernel) ⟨Nat.le_of_ble_eq_true rfl, Nat.le_of_ble_eq_true rfl⟩ ⟨Nat.zero_le _, Nat.zero_le _⟩ hP hD hS hl.1 rfl rfl (Nat.le_of_ble_eq_true rfl) dX3_write_4 (fun H locs hP hD hS => ?_)
    refine lv_bipush (v := nI 40) C.1 C.2.1 dX3_write_7 (by decide +kernel) ?_
    refine lv_icmp_lt (tgt := 25) C.1 C.2.1 dX3_write_9 (by decide) (fun _ => ?_) (fun h => absurd (nI_lt ht (by decide)) h)
    refine lv_aload_n C.1 C.2.1 dX3_write_25 rfl (lv_at hl 0 rfl) ?_
    refine va_get (ci := 3) (C := RX3) (T := TX3) (N := 10) C.1 C.2.1 C.2.2.2.2.2.1 ui_X3 C.2.2.2.2.1 C.2.2.2.2.2.2.2.1 hP 0 (rfl) rfl 4 (by decide) (C.2.2.2.2.2.1 _ tw_65) (fun _ h9 => h9) rfl dX3_write_26 ?_
    refine lv_aload_n C.1 C.2.1 dX3_write_29 rfl (lv_at hl 0 rfl) ?_
    refine va_get (ci := 3) (C := RX3) (T := TX3) (N := 10) C.1 C.2.1 C.2.2.2.2.2.1 ui_X3 C.2.2.2.2.1 C.2.2.2.2.2.2.2.1 hP 0 (rfl) rfl 1 (by decide) (C.2.2.2.2.2.1 _ tw_62) (fun _ h9 => h9) rfl dX3_write_30 ?_
    refine lv_iload_n C.1 C.2.1 dX3_write_33 rfl (lv_at hl 1 rfl) ?_
    refine cm_cV0 (q0 := 8) 2 C (k_X2_add l D cI cZ cJ (cw ad cI X sd fn ft fm (fd, fr, fw, t, e9) ta lp lr) t ht (qW := 8) (qR := 9) (qC := 10) rfl rfl rfl (qI := 2) (qA := 3) rfl rfl (by decide) (by decide) (by decide) (by decide) (by decide) r hr) tw_257 tw_258 tw_259 tw_3 tw_260 rfl rfl (rfl) rfl (by decide +kernel) ⟨Nat.le_of_ble_eq_true rfl, Nat.le_of_ble_eq_true rfl⟩ ⟨Nat.zero_le _, Nat.zero_le _⟩ hP hD hS hl.1 rfl rfl (Nat.le_of_ble_eq_true rfl) dX3_write_34 (fun H locs hP hD hS => ?_)
    have hP : va_P D vwCl (cw ad cI X sd fn ft fm (fd, upd fr t (nI r), va_cpy fn fw (r * 22) (t * 22) 22, t + 1, e9) ta lp lr) H := hP
    have hD : va_D (cm_A (cw ad cI X sd fn ft fm (fd, fr, fw, t, e9) ta lp lr)) (cw ad cI X sd fn ft fm (fd, upd fr t (nI r), va_cpy fn fw (r * 22) (t * 22) 22, t + 1, e9) ta lp lr) := hD
    refine lv_aload_n C.1 C.2.1 dX3_write_37 rfl (lv_at hl 0 rfl) ?_
    refine lv_dup C.1 C.2.1 dX3_write_38 rfl ?_
    refine va_get (ci := 3) (C := RX3) (T := TX3) (N := 10) C.1 C.2.1 C.2.2.2.2.2.1 ui_X3 C.2.2.2.2.1 C.2.2.2.2.2.2.2.1 hP 0 (rfl) rfl 6 (by decide) (C.2.2.2.2.2.1 _ tw_67) (fun _ h9 => h9) rfl dX3_write_39 ?_
    refine lv_iconst (v := nI 1) C.1 C.2.1 dX3_write_42 (by decide +kernel) ?_
    refine lv_iadd C.1 C.2.1 dX3_write_43 ?_
    rw [nI_add]
    refine va_put (ci := 3) (C := RX3) (T := TX3) (N := 10) (ty := .int) C.1 C.2.1 C.2.2.2.2.2.1 ui_X3 tyX3 tyX3_ok nmX3 C.2.2.2.2.1 C.2.2.2.2.2.2.2.1 hP hD hS 0 (rfl) rfl 6 (by decide) (C.2.2.2.2.2.1 _ tw_67) (fun _ h9 => h9) rfl (by decide +kernel) rfl rfl (Nat.le_of_ble_eq_true rfl) dX3_write_44 (fun H locs hP hD hS => ?_)
    exact cm_vret C hP hD hS dX3_write_47 (by rw [show wr fn r (fd, fr, fw, t, e9) = _ from if_pos ht]; rfl)
  · obtain rfl : t = 40 := by omega
    refine lv_aload_n C.1 C.2.1 dX3_write_0 rfl (lv_at hl 0 rfl) ?_
    refine va_get (ci := 3) (C := RX3) (T := TX3) (N := 10) C.1 C.2.1 C.2.2.2.2.2.1 ui_X3 C.2.2.2.2.1 C.2.2.2.2.2.2.2.1 hP 0 (rfl) rfl 4 (by decide) (C.2.2.2.2.2.1 _ tw_65) (fun _ h9 => h9) rfl dX3_write_1 ?_
    refine cm_cV1 (q0 := 8) 0 C (k_X2_size l D cI cZ cJ (cw ad cI X sd fn ft fm (fd, fr, fw, 40, e9) ta lp lr) 40 (qW := 8) (qR := 9) (qC := 10) rfl rfl rfl) tw_248 tw_249 tw_250 tw_3 tw_251 rfl rfl (rfl) rfl (by decide +kernel) ⟨Nat.le_of_ble_eq_true rfl, Nat.le_of_ble_eq_true rfl⟩ ⟨Nat.zero_le _, Nat.zero_le _⟩ hP hD hS hl.1 rfl rfl (Nat.le_of_ble_eq_true rfl) dX3_write_4 (fun H locs hP hD hS => ?_)
    refine lv_bipush (v := nI 40) C.1 C.2.1 dX3_write_7 (by decide +kernel) ?_
    refine lv_icmp_lt (tgt := 25) C.1 C.2.1 dX3_write_9 (by decide) (fun h => absurd h (nI_nlt (by omega) (by omega))) (fun _ => ?_)
    refine lv_aload_n C.1 C.2.1 dX3_write_12 rfl (lv_at hl 0 rfl) ?_
    refine va_get (ci := 3) (C := RX3) (T := TX3) (N := 10) C.1 C.2.1 C.2.2.2.2.2.1 ui_X3 C.2.2.2.2.1 C.2.2.2.2.2.2.2.1 hP 0 (rfl) rfl 4 (by decide) (C.2.2.2.2.2.1 _ tw_65) (fun _ h9 => h9) rfl dX3_write_13 ?_
    refine lv_bipush (v := nI 40) C.1 C.2.1 dX3_write_16 (by decide +kernel) ?_
    refine lv_aload_n C.1 C.2.1 dX3_write_18 rfl (lv_at hl 0 rfl) ?_
    refine va_get (ci := 3) (C := RX3) (T := TX3) (N := 10) C.1 C.2.1 C.2.2.2.2.2.1 ui_X3 C.2.2.2.2.1 C.2.2.2.2.2.2.2.1 hP 0 (rfl) rfl 2 (by decide) (C.2.2.2.2.2.1 _ tw_63) (fun _ h9 => h9) rfl dX3_write_19 ?_
    refine cm_cV0 (q0 := 8) 2 C (k_X2_doFirst l D cI cZ cJ (cw ad cI X sd fn ft fm (fd, fr, fw, 40, e9) ta lp lr) 40 (qW := 8) (qR := 9) (qC := 10) rfl rfl rfl (qI := 4) (qA := 5) rfl rfl (by decide) (by decide) (by decide) (by decide) 40 (by decide) (fun j hj => hσ2 j (by omega))) tw_252 tw_253 tw_254 tw_3 tw_255 rfl rfl (rfl) rfl (by decide +kernel) ⟨Nat.le_of_ble_eq_true rfl, Nat.le_of_ble_eq_true rfl⟩ ⟨Nat.zero_le _, Nat.zero_le _⟩ hP hD hS hl.1 rfl rfl (Nat.le_of_ble_eq_true rfl) dX3_write_22 (fun H locs hP hD hS => ?_)
    have hP : va_P D vwCl (cw ad cI X sd fn ft fm (doN fr fw 0 40 fd, fr, fw, 0, e9) ta lp lr) H := hP
    have hD : va_D (cm_A (cw ad cI X sd fn ft fm (fd, fr, fw, 40, e9) ta lp lr)) (cw ad cI X sd fn ft fm (doN fr fw 0 40 fd, fr, fw, 0, e9) ta lp lr) := hD
    refine lv_aload_n C.1 C.2.1 dX3_write_25 rfl (lv_at hl 0 rfl) ?_
    refine va_get (ci := 3) (C := RX3) (T := TX3) (N := 10) C.1 C.2.1 C.2.2.2.2.2.1 ui_X3 C.2.2.2.2.1 C.2.2.2.2.2.2.2.1 hP 0 (rfl) rfl 4 (by decide) (C.2.2.2.2.2.1 _ tw_65) (fun _ h9 => h9) rfl dX3_write_26 ?_
    refine lv_aload_n C.1 C.2.1 dX3_write_29 rfl (lv_at hl 0 rfl) ?_
    refine va_get (ci := 3) (C := RX3) (T := TX3) (N := 10) C.1 C.2.1 C.2.2.2.2.2.1 ui_X3 C.2.2.2.2.1 C.2.2.2.2.2.2.2.1 hP 0 (rfl) rfl 1 (by decide) (C.2.2.2.2.2.1 _ tw_62) (fun _ h9 => h9) rfl dX3_write_30 ?_
    refine lv_iload_n C.1 C.2.1 dX3_write_33 rfl (lv_at hl 1 rfl) ?_
    refine cm_cV0 (q0 := 8) 2 C (k_X2_add l D cI cZ cJ (cw ad cI X sd fn ft fm (doN fr fw 0 40 fd, fr, fw, 0, e9) ta lp lr) 0 (by decide) (qW := 8) (qR := 9) (qC := 10) rfl rfl rfl (qI := 2) (qA := 3) rfl rfl (by decide) (by decide) (by decide) (by decide) (by decide) r hr) tw_257 tw_258 tw_259 tw_3 tw_260 rfl rfl (rfl) rfl (by decide +kernel) ⟨Nat.le_of_ble_eq_true rfl, Nat.le_of_ble_eq_true rfl⟩ ⟨Nat.zero_le _, Nat.zero_le _⟩ hP hD hS hl.1 rfl rfl (Nat.le_of_ble_eq_true rfl) dX3_write_34 (fun H locs hP hD hS => ?_)
    have hP : va_P D vwCl (cw ad cI X sd fn ft fm (doN fr fw 0 40 fd, upd fr 0 (nI r), va_cpy fn fw (r * 22) (0 * 22) 22, 0 + 1, e9) ta lp lr) H := hP
    have hD : va_D (cm_A (cw ad cI X sd fn ft fm (fd, fr, fw, 40, e9) ta lp lr)) (cw ad cI X sd fn ft fm (doN fr fw 0 40 fd, upd fr 0 (nI r), va_cpy fn fw (r * 22) (0 * 22) 22, 0 + 1, e9) ta lp lr) := hD
    refine lv_aload_n C.1 C.2.1 dX3_write_37 rfl (lv_at hl 0 rfl) ?_
    refine lv_dup C.1 C.2.1 dX3_write_38 rfl ?_
    refine va_get (ci := 3) (C := RX3) (T := TX3) (N := 10) C.1 C.2.1 C.2.2.2.2.2.1 ui_X3 C.2.2.2.2.1 C.2.2.2.2.2.2.2.1 hP 0 (rfl) rfl 6 (by decide) (C.2.2.2.2.2.1 _ tw_67) (fun _ h9 => h9) rfl dX3_write_39 ?_
    refine lv_iconst (v := nI 1) C.1 C.2.1 dX3_write_42 (by decide +kernel) ?_
    refine lv_iadd C.1 C.2.1 dX3_write_43 ?_
    rw [nI_add]
    refine va_put (ci := 3) (C := RX3) (T := TX3) (N := 10) (ty := .int) C.1 C.2.1 C.2.2.2.2.2.1 ui_X3 tyX3 tyX3_ok nmX3 C.2.2.2.2.1 C.2.2.2.2.2.2.2.1 hP hD hS 0 (rfl) rfl 6 (by decide) (C.2.2.2.2.2.1 _ tw_67) (fun _ h9 => h9) rfl (by decide +kernel) rfl rfl (Nat.le_of_ble_eq_true rfl) dX3_write_44 (fun H locs hP hD hS => ?_)
    exact cm_vret C hP hD hS dX3_write_47 (by rw [show wr fn r (fd, fr, fw, 40, e9) = _ from if_neg ht]; rfl)
set_option maxHeartbeats 4000000 in
set_option maxRecDepth 100000 in
/-- makeMoves -/
theorem k_X3_makeMoves (l : Launch) (D : va_G) (cI cZ cJ : ClassId) (ad : Nat → Nat) (X : va_W) (sd fn ft fm : Nat → Int32) (σ : WS) (ta lp lr : Int32) (hσ : sOk σ) (M : List (Nat × Int32 × Int32)) (hm : mEnc fm M) : CM l D (cm_T cI cZ cJ) yX3_makeMoves cX3_makeMoves 3 none (cm_rm 4 109) [.ref (ad 0)] (cw ad cI X sd fn ft fm σ ta lp lr) none (cw ad cI X sd (mkR M (fn, σ)).1 ft fm (mkR M (fn, σ)).2 ta lp lr) := by
  refine CM.of (by decide) (Nat.le_of_ble_eq_true rfl) ?_
  intro p e s m below meth c ls H locs C hl hP hD hS
  refine lv_aload_n C.1 C.2.1 dX3_makeMoves_0 rfl (lv_at hl 0 rfl) ?_
  refine va_get (ci := 3) (C := RX3) (T := TX3) (N := 10) C.1 C.2.1 C.2.2.2.2.2.1 ui_X3 C.2.2.2.2.1 C.2.2.2.2.2.2.2.1 hP 0 (rfl) rfl 5 (by decide) (C.2.2.2.2.2.1 _ tw_66) (fun _ h9 => h9) rfl dX3_makeMoves_1 ?_
  refine cm_cV1 (q0 := 11) 0 C (k_X1_size l D cI cZ cJ (cw ad cI X sd fn ft fm σ ta lp lr) (qM := 11) (qN := 12) rfl rfl) tw_273 tw_151 tw_152 tw_4 tw_153 rfl rfl (rfl) rfl (by decide +kernel) ⟨Nat.le_of_ble_eq_true rfl, Nat.le_of_ble_eq_true rfl⟩ ⟨Nat.zero_le _, Nat.zero_le _⟩ hP hD hS hl.1 rfl rfl (Nat.le_of_ble_eq_true rfl) dX3_makeMoves_4 (fun H locs hP hD hS => ?_)
  rw [hm.2.1]
  refine lv_iconst (v := nI 1) C.1 C.2.1 dX3_makeMoves_7 (by decide +kernel) ?_
  refine lv_isub C.1 C.2.1 dX3_makeMoves_8 ?_
  refine lv_istore_n (lv' := [(1, _), (0, _)]) C.1 C.2.1 dX3_makeMoves_9 rfl hl (by decide) rfl (fun ls hl => ?_)
  have hm1 := hm.1
  have loop : ∀ (k : Nat) (g : Nat → Int32) (τ : WS), k ≤ M.length → sOk τ → ∀ (ls : Array Slot) (H : Heap) (locs : List Loc), lv_has ls 3 [(1, .int (nI k - nI 1)), (0, .ref (ad 0))] → va_P D vwCl (cw ad cI X sd g ft fm τ ta lp lr) H → va_D (cm_A (cw ad cI X sd fn ft fm σ ta lp lr)) (cw ad cI X sd g ft fm τ ta lp lr) → va_S (cm_A (cw ad cI X sd fn ft fm σ ta lp lr)) s.heap H locs → W p l e (cm_rm 4 109) s m ([.ref (ad 0)] : List Value).toArray below meth c H locs 0 0 (cm_Q below D [.ref (ad 0)] s (cw ad cI X sd fn ft fm σ ta lp lr) none (cw ad cI X sd (mkR (M.take k) (g, τ)).1 ft fm (mkR (M.take k) (g, τ)).2 ta lp lr)) (F0 m 10 ls []) := by
    intro k
    induction k with
    | zero =>
      intro g τ hk hτ ls H locs hl hP hD hS
      refine lv_iload_n C.1 C.2.1 dX3_makeMoves_10 rfl (lv_at hl 0 rfl) ?_
      refine lv_if_lt (tgt := 61) C.1 C.2.1 dX3_makeMoves_11 (by decide) (fun _ => ?_) (fun h => absurd (by decide) h)
      exact cm_vret C hP hD hS dX3_makeMoves_61 rfl
    | succ k ih =>
      intro g τ hk hτ ls H locs hl hP hD hS
      have hmk : M[k]? = some (M[k]'(by omega)) := List.getElem?_eq_getElem (by omega)
      generalize M[k]'(by omega) = m9 at hmk
      obtain ⟨m1, m2, m3, m4⟩ := hm.2.2 k m9 hmk
      rw [pk_sub (by omega), Nat.add_sub_cancel] at hl
      refine lv_iload_n C.1 C.2.1 dX3_makeMoves_10 rfl (lv_at hl 0 rfl) ?_
      refine lv_if_lt (tgt := 61) C.1 C.2.1 dX3_makeMoves_11 (by decide) (fun h => absurd h (nI_pos (by omega))) (fun _ => ?_)
      refine lv_aload_n C.1 C.2.1 dX3_makeMoves_14 rfl (lv_at hl 1 rfl) ?_
      refine va_get (ci := 3) (C := RX3) (T := TX3) (N := 10) C.1 C.2.1 C.2.2.2.2.2.1 ui_X3 C.2.2.2.2.1 C.2.2.2.2.2.2.2.1 hP 0 (rfl) rfl 5 (by decide) (C.2.2.2.2.2.1 _ tw_66) (fun _ h9 => h9) rfl dX3_makeMoves_15 ?_
      refine lv_iload_n C.1 C.2.1 dX3_makeMoves_18 rfl (lv_at hl 0 rfl) ?_
      refine cm_cV1 (q0 := 11) 1 C (k_X1_placeAt l D cI cZ cJ (cw ad cI X sd g ft fm τ ta lp lr) (qM := 11) (qN := 12) rfl rfl k (by omega)) tw_274 tw_215 tw_216 tw_4 tw_217 rfl rfl (rfl) rfl (by decide +kernel) ⟨Nat.le_of_ble_eq_true rfl, Nat.le_of_ble_eq_true rfl⟩ ⟨Nat.zero_le _, Nat.zero_le _⟩ hP hD hS hl.1 rfl rfl (Nat.le_of_ble_eq_true rfl) dX3_makeMoves_19 (fun H locs hP hD hS => ?_)
      rw [m1]
      refine lv_istore_n (lv' := [(2, _), (1, _), (0, _)]) C.1 C.2.1 dX3_makeMoves_22 rfl hl (by decide) rfl (fun ls hl => ?_)
      refine lv_aload_n C.1 C.2.1 dX3_makeMoves_23 rfl (lv_at hl 2 rfl) ?_
      refine va_get (ci := 3) (C := RX3) (T := TX3) (N := 10) C.1 C.2.1 C.2.2.2.2.2.1 ui_X3 C.2.2.2.2.1 C.2.2.2.2.2.2.2.1 hP 0 (rfl) rfl 1 (by decide) (C.2.2.2.2.2.1 _ tw_62) (fun _ h9 => h9) rfl dX3_makeMoves_24 ?_
      refine lv_iload_n C.1 C.2.1 dX3_makeMoves_27 rfl (lv_at hl 0 rfl) ?_
      refine lv_aload_n C.1 C.2.1 dX3_makeMoves_28 rfl (lv_at hl 2 rfl) ?_
      refine va_get (ci := 3) (C := RX3) (T := TX3) (N := 10) C.1 C.2.1 C.2.2.2.2.2.1 ui_X3 C.2.2.2.2.1 C.2.2.2.2.2.2.2.1 hP 0 (rfl) rfl 5 (by decide) (C.2.2.2.2.2.1 _ tw_66) (fun _ h9 => h9) rfl dX3_makeMoves_29 ?_
      refine lv_iload_n C.1 C.2.1 dX3_makeMoves_32 rfl (lv_at hl 1 rfl) ?_
      refine cm_cV1 (q0 := 11) 1 C (k_X1_keyAt l D cI cZ cJ (cw ad cI X sd g ft fm τ ta lp lr) (qM := 11) (qN := 12) rfl rfl k (by omega)) tw_275 tw_219 tw_220 tw_4 tw_221 rfl rfl (rfl) rfl (by decide +kernel) ⟨Nat.le_of_ble_eq_true rfl, Nat.le_of_ble_eq_true rfl⟩ ⟨Nat.zero_le _, Nat.zero_le _⟩ hP hD hS hl.1 rfl rfl (Nat.le_of_ble_eq_true rfl) dX3_makeMoves_33 (fun H locs hP hD hS => ?_)
      rw [m2]
      refine lv_aload_n C.1 C.2.1 dX3_makeMoves_36 rfl (lv_at hl 2 rfl) ?_
      refine va_get (ci := 3) (C := RX3) (T := TX3) (N := 10) C.1 C.2.1 C.2.2.2.2.2.1 ui_X3 C.2.2.2.2.1 C.2.2.2.2.2.2.2.1 hP 0 (rfl) rfl 5 (by decide) (C.2.2.2.2.2.1 _ tw_66) (fun _ h9 => h9) rfl dX3_makeMoves_37 ?_
      refine lv_iload_n C.1 C.2.1 dX3_makeMoves_40 rfl (lv_at hl 1 rfl) ?_
      refine cm_cV1 (q0 := 11) 1 C (k_X1_valueAt l D cI cZ cJ (cw ad cI X sd g ft fm τ ta lp lr) (qM := 11) (qN := 12) rfl rfl k (by omega)) tw_276 tw_223 tw_224 tw_4 tw_225 rfl rfl (rfl) rfl (by decide +kernel) ⟨Nat.le_of_ble_eq_true rfl, Nat.le_of_ble_eq_true rfl⟩ ⟨Nat.zero_le _, Nat.zero_le _⟩ hP hD hS hl.1 rfl rfl (Nat.le_of_ble_eq_true rfl) dX3_makeMoves_41 (fun H locs hP hD hS => ?_)
      rw [m3]
      refine cm_cV0 (q0 := 2) 3 C (k_X0_fill l D cI cZ cJ (cw ad cI X sd g ft fm τ ta lp lr) (qI := 2) (qA := 3) rfl rfl (by decide) m9.1 m4 m9.2.1 m9.2.2) tw_277 tw_227 tw_228 tw_2 tw_229 rfl rfl (rfl) rfl (by decide +kernel) ⟨Nat.le_of_ble_eq_true rfl, Nat.le_of_ble_eq_true rfl⟩ ⟨Nat.zero_le _, Nat.zero_le _⟩ hP hD hS hl.1 rfl rfl (Nat.le_of_ble_eq_true rfl) dX3_makeMoves_44 (fun H locs hP hD hS => ?_)
      have hP : va_P D vwCl (cw ad cI X sd (fillC g m9.1 m9.2.1 m9.2.2) ft fm τ ta lp lr) H := hP
      have hD : va_D (cm_A (cw ad cI X sd fn ft fm σ ta lp lr)) (cw ad cI X sd (fillC g m9.1 m9.2.1 m9.2.2) ft fm τ ta lp lr) := hD
      refine lv_aload_n C.1 C.2.1 dX3_makeMoves_47 rfl (lv_at hl 2 rfl) ?_
      refine lv_iload_n C.1 C.2.1 dX3_makeMoves_48 rfl (lv_at hl 0 rfl) ?_
      refine cm_cS1 1 C (c_rowOf l D cI cZ cJ (cw ad cI X sd (fillC g m9.1 m9.2.1 m9.2.2) ft fm τ ta lp lr) m9.1 (by omega)) tw_278 tw_179 tw_1 tw_180 rfl rfl (by decide +kernel) ⟨Nat.le_of_ble_eq_true rfl, Nat.le_of_ble_eq_true rfl⟩ ⟨Nat.zero_le _, Nat.zero_le _⟩ hP hD hS hl.1 rfl rfl (Nat.le_of_ble_eq_true rfl) dX3_makeMoves_49 (fun H locs hP hD hS => ?_)
      refine cm_cV0 (q0 := 0) 1 C (k_X3_write l D cI cZ cJ ad X sd (fillC g m9.1 m9.2.1 m9.2.2) ft fm τ ta lp lr hτ (m9.1 / 4) (by omega)) tw_244 tw_246 ts_6 tw_1 tw_247 rfl rfl (rfl) rfl (by decide +kernel) ⟨Nat.le_of_ble_eq_true rfl, Nat.le_of_ble_eq_true rfl⟩ ⟨Nat.zero_le _, Nat.zero_le _⟩ hP hD hS hl.1 rfl rfl (Nat.le_of_ble_eq_true rfl) dX3_makeMoves_52 (fun H locs hP hD hS => ?_)
      refine lv_iinc (v := (nI k - nI 1)) (lv' := [(1, _), (2, _), (0, _)]) C.1 C.2.1 dX3_makeMoves_55 hl (k := 1) rfl (m1_sub (nI k)) (by decide) rfl (fun ls hl => ?_)
      refine lv_goto (tgt := 10) C.1 C.2.1 dX3_makeMoves_58 (by decide) ?_
      rw [show M.take (k + 1) = M.take k ++ [m9] by rw [List.take_add_one, hmk]; rfl, mkR_app]
      exact ih (fillC g m9.1 m9.2.1 m9.2.2) (wr (fillC g m9.1 m9.2.1 m9.2.2) (m9.1 / 4) τ) (by omega) (wr_ok hτ (by omega)) ls H locs (lv_sub hl [0, 2] rfl) hP hD hS
  have hfin := loop M.length fn σ (Nat.le_refl _) hσ ls H locs hl hP hD hS
  rw [List.take_length] at hfin
  exact hfin
