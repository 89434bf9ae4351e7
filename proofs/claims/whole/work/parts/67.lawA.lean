/-! ===== the law, call by call ===== -/
abbrev LWt (ac am : Nat → Nat) (ao : Nat) (cI cZ cJ : ClassId) (fo : Nat → Int64) (sd fn ft fm : Nat → Int32) (σ : WS) (ta lp lr : Int32) (I : Nat → Int32) (A : Nat → Nat → Int32) : va_W := cw ac cI (mw am cI cZ [(ao, .inl (cJ, 1, .inr (.inl fo)))] I A) sd fn ft fm σ ta lp lr
abbrev PWt (ac am : Nat → Nat) (ao : Nat) (cI cZ cJ : ClassId) (fo : Nat → Int64) (sd fn ft fm : Nat → Int32) (σ : WS) (ta lp lr : Int32) (I : Nat → Int32) (A : Nat → Nat → Int32) : va_W := mw am cI cZ ((ao, .inl (cJ, 1, .inr (.inl fo))) :: cw ac cI [] sd fn ft fm σ ta lp lr) I A
abbrev la_A (s : State) : Nat → Prop := fun q => s.heap.size ≤ q
section LAP
variable {D : va_G} {H : Heap} {B : Nat → Prop} {ac am : Nat → Nat} {ao : Nat} {cI cZ cJ : ClassId} {fo : Nat → Int64} {sd fn ft fm : Nat → Int32} {σ : WS} {ta lp lr : Int32} {I : Nat → Int32} {A : Nat → Nat → Int32}
theorem la_PM (hP : va_P D vwCl (LWt ac am ao cI cZ cJ fo sd fn ft fm σ ta lp lr I A) H) : va_P D vwCl (PWt ac am ao cI cZ cJ fo sd fn ft fm σ ta lp lr I A) H := hP.sub [13, 14, 15, 16, 17, 18, 19, 20, 21, 22, 23, 24, 25, 26, 27, 28, 29, 30, 31, 32, 33, 34, 35, 0, 1, 2, 3, 4, 5, 6, 7, 8, 9, 10, 11, 12] rfl
theorem la_DM (hD : va_D B (LWt ac am ao cI cZ cJ fo sd fn ft fm σ ta lp lr I A)) : va_D B (PWt ac am ao cI cZ cJ fo sd fn ft fm σ ta lp lr I A) := hD.sub [13, 14, 15, 16, 17, 18, 19, 20, 21, 22, 23, 24, 25, 26, 27, 28, 29, 30, 31, 32, 33, 34, 35, 0, 1, 2, 3, 4, 5, 6, 7, 8, 9, 10, 11, 12] (by decide) rfl
theorem la_PC (hP : va_P D vwCl (PWt ac am ao cI cZ cJ fo sd fn ft fm σ ta lp lr I A) H) : va_P D vwCl (LWt ac am ao cI cZ cJ fo sd fn ft fm σ ta lp lr I A) H := hP.sub [23, 24, 25, 26, 27, 28, 29, 30, 31, 32, 33, 34, 35, 0, 1, 2, 3, 4, 5, 6, 7, 8, 9, 10, 11, 12, 13, 14, 15, 16, 17, 18, 19, 20, 21, 22] rfl
theorem la_DC (hD : va_D B (PWt ac am ao cI cZ cJ fo sd fn ft fm σ ta lp lr I A)) : va_D B (LWt ac am ao cI cZ cJ fo sd fn ft fm σ ta lp lr I A) := hD.sub [23, 24, 25, 26, 27, 28, 29, 30, 31, 32, 33, 34, 35, 0, 1, 2, 3, 4, 5, 6, 7, 8, 9, 10, 11, 12, 13, 14, 15, 16, 17, 18, 19, 20, 21, 22] (by decide) rfl
end LAP
theorem INV.at0 {n : Nat} {sd fn : Nat → Int32} {σ : WS} {ta lp lr : Int32} {I : Nat → Int32} {A : Nat → Nat → Int32} (h : INV n sd fn σ ta lp lr I A) (x : Int32) : INV n sd fn σ ta lp lr (va_up I 0 x) A := h.c (fun i a _ _ => va_up_ne _ _ a) (fun _ _ _ _ _ _ _ _ => rfl) eq72.rf
def law_k (p : Program) (l : Launch) (e : Env) (s : State) (m : MethodId) (below : List Frame) (meth : Method) (c : Code) (D : va_G) (cI cZ cJ : ClassId) (b n ao : Nat) (ac am : Nat → Nat) (Q : State → Prop) : Prop :=
  ∀ (ls : Array Slot) (H : Heap) (locs : List Loc) (fo : Nat → Int64) (sd fn ft fm : Nat → Int32) (σ : WS) (ta lp lr : Int32) (I : Nat → Int32) (A : Nat → Nat → Int32), lv_has ls 7 [(4, .int (nI (4 * n))), (3, .ref ao), (2, .ref (am 0)), (1, .ref (ac 0)), (0, .ref b)] → va_P D vwCl (LWt ac am ao cI cZ cJ fo sd fn ft fm σ ta lp lr I A) H → va_D (la_A s) (LWt ac am ao cI cZ cJ fo sd fn ft fm σ ta lp lr I A) → va_S (la_A s) s.heap H locs → INV (10 * n + 10) sd fn σ ta lp lr I A →
    W p l e room_1 s m #[Value.ref b] below meth c H locs (36 + (n + 1)) (4318 + 6 * (n + 1)) Q (F0 m 539 ls [])
set_option maxHeartbeats 4000000 in
set_option maxRecDepth 100000 in
/-- the law: has -/
theorem op_has {p : Program} {l : Launch} {e : Env} {s : State} {m : MethodId} {below : List Frame} {meth : Method} {c : Code} {D : va_G} {cI cZ cJ : ClassId} {b L n ao : Nat} {xs : Nat → Int32} {ac am : Nat → Nat} {Q : State → Prop} (hls : l.stackTraces = false) (hL : L ≤ 2048) (hn : 4 * n + 4 ≤ L) (C : cm_C p s m #[Value.ref b] meth c code 7 ret RL D (cm_T cI cZ cJ)) (hXs : va_X b L xs s s.heap) (hbl : b < s.heap.size) (hVX : vt_X (la_A s) s s.heap) (kk : law_k p l e s m below meth c D cI cZ cJ b n ao ac am Q)
    {ls : Array Slot} {H : Heap} {locs : List Loc} {fo : Nat → Int64} {sd fn ft fm : Nat → Int32} {σ : WS} {ta lp lr : Int32} {I : Nat → Int32} {A : Nat → Nat → Int32} (hl : lv_has ls 7 [(4, .int (nI (4 * n))), (3, .ref ao), (2, .ref (am 0)), (1, .ref (ac 0)), (0, .ref b)]) (hP : va_P D vwCl (LWt ac am ao cI cZ cJ fo sd fn ft fm σ ta lp lr I A) H) (hD : va_D (la_A s) (LWt ac am ao cI cZ cJ fo sd fn ft fm σ ta lp lr I A)) (hS : va_S (la_A s) s.heap H locs) (hI : INV (10 * n) sd fn σ ta lp lr I A) : W p l e room_1 s m #[Value.ref b] below meth c H locs (36 + n) (4318 + 6 * n) Q (F0 m 181 ls []) := by
  have hbA : ¬ la_A s b := by show ¬ s.heap.size ≤ b; omega
  have hcA : 36 + n ≤ room_1.cells := by show 36 + n ≤ 1067; omega
  have hsA : 4318 + 6 * n ≤ room_1.slots := by show 4318 + 6 * n ≤ 12552; omega
  have hcB : 36 + n + 1 ≤ room_1.cells := by show 36 + n + 1 ≤ 1067; omega
  have hsB : 4318 + 6 * n + 6 ≤ room_1.slots := by show 4318 + 6 * n + 6 ≤ 12552; omega
  obtain ⟨z, y, hz, hy, hz1, hy1, hk⟩ := hI.2.1.gd.now hI.2.2.1
  have h5 : I 5 = nI z := hI.1.2.2.1.trans hz1
  have h6 : I 6 = nI y := hI.1.2.2.2.1.trans hy1
  have hte := hI.1.2.1.teq hz
  have hA4 : A 4 y = sd y := hI.1.1 y hy
  have hok : okW σ.2.2.2.1 (I, A) := hI.1.2.2.2.2.2.2.2.2.2.1
  have hσ : sOk σ := hI.1.2.2.2.2.2.2.2.2.1
  have hfe : findS (uM A z) (kM A z) (A 4 y) (xs (nI (4 * n + 1)).toNatClampNeg) = findS (uR fn z) (kR fn z) (sd y) (xs (nI (4 * n + 1)).toNatClampNeg) := by rw [hA4]; exact (findS_c hte _ _).symm
  refine lv_aload_n C.1 C.2.1 dL_law_181 rfl (lv_at hl 3 rfl) ?_
  refine lv_aload_n C.1 C.2.1 dL_law_182 rfl (lv_at hl 4 rfl) ?_
  refine lv_iload C.1 C.2.1 dL_law_183 (lv_at hl 0 rfl) ?_
  refine lv_iconst (v := nI 1) C.1 C.2.1 dL_law_185 (by decide +kernel) ?_
  refine lv_iadd C.1 C.2.1 dL_law_186 ?_
  rw [nI_add]
  refine va_sld C.1 C.2.1 hXs hbl hbA hS (nI_in (by omega) (by omega)) dL_law_187 ?_
  refine cm_cV1 (q0 := 0) 1 C (k_X3_has l D cI cZ cJ ac (mw am cI cZ [(ao, .inl (cJ, 1, .inr (.inl fo)))] I A) sd fn ft fm σ ta lp lr z y hz hy hz1 hy1 (xs (nI (4 * n + 1)).toNatClampNeg)) tw_283 tw_284 tw_285 tw_1 tw_286 rfl rfl (rfl) rfl (by decide +kernel) ⟨Nat.le_of_ble_eq_true rfl, Nat.le_of_ble_eq_true rfl⟩ ⟨hcA, hsA⟩ hP hD hS hl.1 rfl rfl (Nat.le_of_ble_eq_true rfl) dL_law_188 (fun H locs hP hD hS => ?_)
  have hP := la_PM hP
  have hD := la_DM hD
  have hP : va_P D vwCl (PWt ac am ao cI cZ cJ fo sd fn ft fm σ ta lp lr I A) H := hP
  have hD : va_D (la_A s) (PWt ac am ao cI cZ cJ fo sd fn ft fm σ ta lp lr I A) := hD
  refine lv_aload_n C.1 C.2.1 dL_law_191 rfl (lv_at hl 2 rfl) ?_
  refine lv_aload_n C.1 C.2.1 dL_law_192 rfl (lv_at hl 4 rfl) ?_
  refine lv_iload C.1 C.2.1 dL_law_193 (lv_at hl 0 rfl) ?_
  refine lv_iconst (v := nI 1) C.1 C.2.1 dL_law_195 (by decide +kernel) ?_
  refine lv_iadd C.1 C.2.1 dL_law_196 ?_
  rw [nI_add]
  refine va_sld C.1 C.2.1 hXs hbl hbA hS (nI_in (by omega) (by omega)) dL_law_197 ?_
  refine cm_cV1 (q0 := 0) 1 C (k_X4_has l D cI cZ cJ am ((ao, .inl (cJ, 1, .inr (.inl fo))) :: cw ac cI [] sd fn ft fm σ ta lp lr) I A z y hz hy h5 h6 (xs (nI (4 * n + 1)).toNatClampNeg)) tw_644 tw_645 tw_646 tw_5 tw_647 rfl rfl (rfl) rfl (by decide +kernel) ⟨Nat.le_of_ble_eq_true rfl, Nat.le_of_ble_eq_true rfl⟩ ⟨hcA, hsA⟩ hP hD hS hl.1 rfl rfl (Nat.le_of_ble_eq_true rfl) dL_law_198 (fun H locs hP hD hS => ?_)
  have hP : va_P D vwCl (PWt ac am ao cI cZ cJ fo sd fn ft fm σ ta lp lr (va_up I 0 (nI 0)) A) H := hP
  have hD : va_D (la_A s) (PWt ac am ao cI cZ cJ fo sd fn ft fm σ ta lp lr (va_up I 0 (nI 0)) A) := hD
  have hP := la_PC hP
  have hD := la_DC hD
  refine lv_icmp_eq (tgt := 539) C.1 C.2.1 dL_law_201 (by decide) (fun _ => ?_) (fun h => absurd (by rw [hfe]) h)
  refine W.widen (k := 36 + (n + 1)) (n := 4318 + 6 * (n + 1)) (by omega) (by omega) ?_
  exact kk _ _ _ _ _ _ _ _ _ _ _ _ _ _ hl hP hD hS ((hI.at0 (nI 0)).up (by omega))
set_option maxHeartbeats 4000000 in
set_option maxRecDepth 100000 in
/-- the law: get -/
theorem op_get {p : Program} {l : Launch} {e : Env} {s : State} {m : MethodId} {below : List Frame} {meth : Method} {c : Code} {D : va_G} {cI cZ cJ : ClassId} {b L n ao : Nat} {xs : Nat → Int32} {ac am : Nat → Nat} {Q : State → Prop} (hls : l.stackTraces = false) (hL : L ≤ 2048) (hn : 4 * n + 4 ≤ L) (C : cm_C p s m #[Value.ref b] meth c code 7 ret RL D (cm_T cI cZ cJ)) (hXs : va_X b L xs s s.heap) (hbl : b < s.heap.size) (hVX : vt_X (la_A s) s s.heap) (kk : law_k p l e s m below meth c D cI cZ cJ b n ao ac am Q)
    {ls : Array Slot} {H : Heap} {locs : List Loc} {fo : Nat → Int64} {sd fn ft fm : Nat → Int32} {σ : WS} {ta lp lr : Int32} {I : Nat → Int32} {A : Nat → Nat → Int32} (hl : lv_has ls 7 [(4, .int (nI (4 * n))), (3, .ref ao), (2, .ref (am 0)), (1, .ref (ac 0)), (0, .ref b)]) (hP : va_P D vwCl (LWt ac am ao cI cZ cJ fo sd fn ft fm σ ta lp lr I A) H) (hD : va_D (la_A s) (LWt ac am ao cI cZ cJ fo sd fn ft fm σ ta lp lr I A)) (hS : va_S (la_A s) s.heap H locs) (hI : INV (10 * n) sd fn σ ta lp lr I A) : W p l e room_1 s m #[Value.ref b] below meth c H locs (36 + n) (4318 + 6 * n) Q (F0 m 206 ls []) := by
  have hbA : ¬ la_A s b := by show ¬ s.heap.size ≤ b; omega
  have hcA : 36 + n ≤ room_1.cells := by show 36 + n ≤ 1067; omega
  have hsA : 4318 + 6 * n ≤ room_1.slots := by show 4318 + 6 * n ≤ 12552; omega
  have hcB : 36 + n + 1 ≤ room_1.cells := by show 36 + n + 1 ≤ 1067; omega
  have hsB : 4318 + 6 * n + 6 ≤ room_1.slots := by show 4318 + 6 * n + 6 ≤ 12552; omega
  obtain ⟨z, y, hz, hy, hz1, hy1, hk⟩ := hI.2.1.gd.now hI.2.2.1
  have h5 : I 5 = nI z := hI.1.2.2.1.trans hz1
  have h6 : I 6 = nI y := hI.1.2.2.2.1.trans hy1
  have hte := hI.1.2.1.teq hz
  have hA4 : A 4 y = sd y := hI.1.1 y hy
  have hok : okW σ.2.2.2.1 (I, A) := hI.1.2.2.2.2.2.2.2.2.2.1
  have hσ : sOk σ := hI.1.2.2.2.2.2.2.2.2.1
  have hfe : findS (uM A z) (kM A z) (A 4 y) (xs (nI (4 * n + 1)).toNatClampNeg) = findS (uR fn z) (kR fn z) (sd y) (xs (nI (4 * n + 1)).toNatClampNeg) := by rw [hA4]; exact (findS_c hte _ _).symm
  refine lv_aload_n C.1 C.2.1 dL_law_206 rfl (lv_at hl 3 rfl) ?_
  refine lv_aload_n C.1 C.2.1 dL_law_207 rfl (lv_at hl 4 rfl) ?_
  refine lv_iload C.1 C.2.1 dL_law_208 (lv_at hl 0 rfl) ?_
  refine lv_iconst (v := nI 1) C.1 C.2.1 dL_law_210 (by decide +kernel) ?_
  refine lv_iadd C.1 C.2.1 dL_law_211 ?_
  rw [nI_add]
  refine va_sld C.1 C.2.1 hXs hbl hbA hS (nI_in (by omega) (by omega)) dL_law_212 ?_
  refine cm_cV1 (q0 := 0) 1 C (k_X3_get l D cI cZ cJ ac (mw am cI cZ [(ao, .inl (cJ, 1, .inr (.inl fo)))] I A) sd fn ft fm σ ta lp lr z y hz hy hz1 hy1 (xs (nI (4 * n + 1)).toNatClampNeg)) tw_287 tw_288 tw_289 tw_1 tw_290 rfl rfl (rfl) rfl (by decide +kernel) ⟨Nat.le_of_ble_eq_true rfl, Nat.le_of_ble_eq_true rfl⟩ ⟨hcA, hsA⟩ hP hD hS hl.1 rfl rfl (Nat.le_of_ble_eq_true rfl) dL_law_213 (fun H locs hP hD hS => ?_)
  have hP := la_PM hP
  have hD := la_DM hD
  have hP : va_P D vwCl (PWt ac am ao cI cZ cJ fo sd fn ft fm σ ta lp lr I A) H := hP
  have hD : va_D (la_A s) (PWt ac am ao cI cZ cJ fo sd fn ft fm σ ta lp lr I A) := hD
  refine lv_aload_n C.1 C.2.1 dL_law_216 rfl (lv_at hl 2 rfl) ?_
  refine lv_aload_n C.1 C.2.1 dL_law_217 rfl (lv_at hl 4 rfl) ?_
  refine lv_iload C.1 C.2.1 dL_law_218 (lv_at hl 0 rfl) ?_
  refine lv_iconst (v := nI 1) C.1 C.2.1 dL_law_220 (by decide +kernel) ?_
  refine lv_iadd C.1 C.2.1 dL_law_221 ?_
  rw [nI_add]
  refine va_sld C.1 C.2.1 hXs hbl hbA hS (nI_in (by omega) (by omega)) dL_law_222 ?_
  refine cm_cV1 (q0 := 0) 1 C (k_X4_get l D cI cZ cJ am ((ao, .inl (cJ, 1, .inr (.inl fo))) :: cw ac cI [] sd fn ft fm σ ta lp lr) I A z y hz hy h5 h6 (xs (nI (4 * n + 1)).toNatClampNeg)) tw_648 tw_649 tw_650 tw_5 tw_651 rfl rfl (rfl) rfl (by decide +kernel) ⟨Nat.le_of_ble_eq_true rfl, Nat.le_of_ble_eq_true rfl⟩ ⟨hcA, hsA⟩ hP hD hS hl.1 rfl rfl (Nat.le_of_ble_eq_true rfl) dL_law_223 (fun H locs hP hD hS => ?_)
  have hP : va_P D vwCl (PWt ac am ao cI cZ cJ fo sd fn ft fm σ ta lp lr (va_up I 0 (nI 0)) A) H := hP
  have hD : va_D (la_A s) (PWt ac am ao cI cZ cJ fo sd fn ft fm σ ta lp lr (va_up I 0 (nI 0)) A) := hD
  have hP := la_PC hP
  have hD := la_DC hD
  refine lv_icmp_eq (tgt := 539) C.1 C.2.1 dL_law_226 (by decide) (fun _ => ?_) (fun h => absurd (by rw [hfe]; cases hf : findS (uR fn z) (kR fn z) (sd y) (xs (nI (4 * n + 1)).toNatClampNeg) with | none => rfl | some i => exact ((hte i (findS_lt hf).1).2 (findS_lt hf).2.1).2) h)
  refine W.widen (k := 36 + (n + 1)) (n := 4318 + 6 * (n + 1)) (by omega) (by omega) ?_
  exact kk _ _ _ _ _ _ _ _ _ _ _ _ _ _ hl hP hD hS ((hI.at0 (nI 0)).up (by omega))
set_option maxHeartbeats 4000000 in
set_option maxRecDepth 100000 in
/-- the law: reads -/
theorem op_reads {p : Program} {l : Launch} {e : Env} {s : State} {m : MethodId} {below : List Frame} {meth : Method} {c : Code} {D : va_G} {cI cZ cJ : ClassId} {b L n ao : Nat} {xs : Nat → Int32} {ac am : Nat → Nat} {Q : State → Prop} (hls : l.stackTraces = false) (hL : L ≤ 2048) (hn : 4 * n + 4 ≤ L) (C : cm_C p s m #[Value.ref b] meth c code 7 ret RL D (cm_T cI cZ cJ)) (hXs : va_X b L xs s s.heap) (hbl : b < s.heap.size) (hVX : vt_X (la_A s) s s.heap) (kk : law_k p l e s m below meth c D cI cZ cJ b n ao ac am Q)
    {ls : Array Slot} {H : Heap} {locs : List Loc} {fo : Nat → Int64} {sd fn ft fm : Nat → Int32} {σ : WS} {ta lp lr : Int32} {I : Nat → Int32} {A : Nat → Nat → Int32} (hl : lv_has ls 7 [(4, .int (nI (4 * n))), (3, .ref ao), (2, .ref (am 0)), (1, .ref (ac 0)), (0, .ref b)]) (hP : va_P D vwCl (LWt ac am ao cI cZ cJ fo sd fn ft fm σ ta lp lr I A) H) (hD : va_D (la_A s) (LWt ac am ao cI cZ cJ fo sd fn ft fm σ ta lp lr I A)) (hS : va_S (la_A s) s.heap H locs) (hI : INV (10 * n) sd fn σ ta lp lr I A) : W p l e room_1 s m #[Value.ref b] below meth c H locs (36 + n) (4318 + 6 * n) Q (F0 m 458 ls []) := by
  have hbA : ¬ la_A s b := by show ¬ s.heap.size ≤ b; omega
  have hcA : 36 + n ≤ room_1.cells := by show 36 + n ≤ 1067; omega
  have hsA : 4318 + 6 * n ≤ room_1.slots := by show 4318 + 6 * n ≤ 12552; omega
  have hcB : 36 + n + 1 ≤ room_1.cells := by show 36 + n + 1 ≤ 1067; omega
  have hsB : 4318 + 6 * n + 6 ≤ room_1.slots := by show 4318 + 6 * n + 6 ≤ 12552; omega
  obtain ⟨z, y, hz, hy, hz1, hy1, hk⟩ := hI.2.1.gd.now hI.2.2.1
  have h5 : I 5 = nI z := hI.1.2.2.1.trans hz1
  have h6 : I 6 = nI y := hI.1.2.2.2.1.trans hy1
  have hte := hI.1.2.1.teq hz
  have hA4 : A 4 y = sd y := hI.1.1 y hy
  have hok : okW σ.2.2.2.1 (I, A) := hI.1.2.2.2.2.2.2.2.2.2.1
  have hσ : sOk σ := hI.1.2.2.2.2.2.2.2.2.1
  have hfe : findS (uM A z) (kM A z) (A 4 y) (xs (nI (4 * n + 1)).toNatClampNeg) = findS (uR fn z) (kR fn z) (sd y) (xs (nI (4 * n + 1)).toNatClampNeg) := by rw [hA4]; exact (findS_c hte _ _).symm
  refine lv_aload_n C.1 C.2.1 dL_law_458 rfl (lv_at hl 3 rfl) ?_
  refine lv_aload_n C.1 C.2.1 dL_law_459 rfl (lv_at hl 4 rfl) ?_
  refine lv_iload C.1 C.2.1 dL_law_460 (lv_at hl 0 rfl) ?_
  refine lv_iconst (v := nI 1) C.1 C.2.1 dL_law_462 (by decide +kernel) ?_
  refine lv_iadd C.1 C.2.1 dL_law_463 ?_
  rw [nI_add]
  refine va_sld C.1 C.2.1 hXs hbl hbA hS (nI_in (by omega) (by omega)) dL_law_464 ?_
  refine cm_cV1 (q0 := 0) 1 C (k_X3_reads l D cI cZ cJ ac (mw am cI cZ [(ao, .inl (cJ, 1, .inr (.inl fo)))] I A) sd fn ft fm σ ta lp lr z y hz hy hz1 hy1 (xs (nI (4 * n + 1)).toNatClampNeg)) tw_307 tw_308 tw_309 tw_1 tw_310 rfl rfl (rfl) rfl (by decide +kernel) ⟨Nat.le_of_ble_eq_true rfl, Nat.le_of_ble_eq_true rfl⟩ ⟨hcA, hsA⟩ hP hD hS hl.1 rfl rfl (Nat.le_of_ble_eq_true rfl) dL_law_465 (fun H locs hP hD hS => ?_)
  have hP := la_PM hP
  have hD := la_DM hD
  have hP : va_P D vwCl (PWt ac am ao cI cZ cJ fo sd fn ft fm σ ta lp lr I A) H := hP
  have hD : va_D (la_A s) (PWt ac am ao cI cZ cJ fo sd fn ft fm σ ta lp lr I A) := hD
  refine lv_aload_n C.1 C.2.1 dL_law_468 rfl (lv_at hl 2 rfl) ?_
  refine lv_aload_n C.1 C.2.1 dL_law_469 rfl (lv_at hl 4 rfl) ?_
  refine lv_iload C.1 C.2.1 dL_law_470 (lv_at hl 0 rfl) ?_
  refine lv_iconst (v := nI 1) C.1 C.2.1 dL_law_472 (by decide +kernel) ?_
  refine lv_iadd C.1 C.2.1 dL_law_473 ?_
  rw [nI_add]
  refine va_sld C.1 C.2.1 hXs hbl hbA hS (nI_in (by omega) (by omega)) dL_law_474 ?_
  refine cm_cV1 (q0 := 0) 1 C (k_X4_reads l D cI cZ cJ am ((ao, .inl (cJ, 1, .inr (.inl fo))) :: cw ac cI [] sd fn ft fm σ ta lp lr) I A z y hz hy h5 h6 (xs (nI (4 * n + 1)).toNatClampNeg)) tw_680 tw_681 tw_682 tw_5 tw_683 rfl rfl (rfl) rfl (by decide +kernel) ⟨Nat.le_of_ble_eq_true rfl, Nat.le_of_ble_eq_true rfl⟩ ⟨hcA, hsA⟩ hP hD hS hl.1 rfl rfl (Nat.le_of_ble_eq_true rfl) dL_law_475 (fun H locs hP hD hS => ?_)
  have hP : va_P D vwCl (PWt ac am ao cI cZ cJ fo sd fn ft fm σ ta lp lr (va_up I 0 (nI 0)) A) H := hP
  have hD : va_D (la_A s) (PWt ac am ao cI cZ cJ fo sd fn ft fm σ ta lp lr (va_up I 0 (nI 0)) A) := hD
  have hP := la_PC hP
  have hD := la_DC hD
  refine lv_icmp_eq (tgt := 539) C.1 C.2.1 dL_law_478 (by decide) (fun _ => ?_) (fun h => absurd (by rw [rd_eq, hA4]; exact rdM_c hte _ _) h)
  refine W.widen (k := 36 + (n + 1)) (n := 4318 + 6 * (n + 1)) (by omega) (by omega) ?_
  exact kk _ _ _ _ _ _ _ _ _ _ _ _ _ _ hl hP hD hS ((hI.at0 (nI 0)).up (by omega))
set_option maxHeartbeats 4000000 in
set_option maxRecDepth 100000 in
/-- the law: home -/
theorem op_home {p : Program} {l : Launch} {e : Env} {s : State} {m : MethodId} {below : List Frame} {meth : Method} {c : Code} {D : va_G} {cI cZ cJ : ClassId} {b L n ao : Nat} {xs : Nat → Int32} {ac am : Nat → Nat} {Q : State → Prop} (hls : l.stackTraces = false) (hL : L ≤ 2048) (hn : 4 * n + 4 ≤ L) (C : cm_C p s m #[Value.ref b] meth c code 7 ret RL D (cm_T cI cZ cJ)) (hXs : va_X b L xs s s.heap) (hbl : b < s.heap.size) (hVX : vt_X (la_A s) s s.heap) (kk : law_k p l e s m below meth c D cI cZ cJ b n ao ac am Q)
    {ls : Array Slot} {H : Heap} {locs : List Loc} {fo : Nat → Int64} {sd fn ft fm : Nat → Int32} {σ : WS} {ta lp lr : Int32} {I : Nat → Int32} {A : Nat → Nat → Int32} (hl : lv_has ls 7 [(4, .int (nI (4 * n))), (3, .ref ao), (2, .ref (am 0)), (1, .ref (ac 0)), (0, .ref b)]) (hP : va_P D vwCl (LWt ac am ao cI cZ cJ fo sd fn ft fm σ ta lp lr I A) H) (hD : va_D (la_A s) (LWt ac am ao cI cZ cJ fo sd fn ft fm σ ta lp lr I A)) (hS : va_S (la_A s) s.heap H locs) (hI : INV (10 * n) sd fn σ ta lp lr I A) : W p l e room_1 s m #[Value.ref b] below meth c H locs (36 + n) (4318 + 6 * n) Q (F0 m 405 ls []) := by
  have hbA : ¬ la_A s b := by show ¬ s.heap.size ≤ b; omega
  have hcA : 36 + n ≤ room_1.cells := by show 36 + n ≤ 1067; omega
  have hsA : 4318 + 6 * n ≤ room_1.slots := by show 4318 + 6 * n ≤ 12552; omega
  have hcB : 36 + n + 1 ≤ room_1.cells := by show 36 + n + 1 ≤ 1067; omega
  have hsB : 4318 + 6 * n + 6 ≤ room_1.slots := by show 4318 + 6 * n + 6 ≤ 12552; omega
  obtain ⟨z, y, hz, hy, hz1, hy1, hk⟩ := hI.2.1.gd.now hI.2.2.1
  have h5 : I 5 = nI z := hI.1.2.2.1.trans hz1
  have h6 : I 6 = nI y := hI.1.2.2.2.1.trans hy1
  have hte := hI.1.2.1.teq hz
  have hA4 : A 4 y = sd y := hI.1.1 y hy
  have hok : okW σ.2.2.2.1 (I, A) := hI.1.2.2.2.2.2.2.2.2.2.1
  have hσ : sOk σ := hI.1.2.2.2.2.2.2.2.2.1
  have hfe : findS (uM A z) (kM A z) (A 4 y) (xs (nI (4 * n + 1)).toNatClampNeg) = findS (uR fn z) (kR fn z) (sd y) (xs (nI (4 * n + 1)).toNatClampNeg) := by rw [hA4]; exact (findS_c hte _ _).symm
  by_cases h2 : (xs (nI (4 * n + 2)).toNatClampNeg) = 0
  · refine lv_aload_n C.1 C.2.1 dL_law_405 rfl (lv_at hl 3 rfl) ?_
    refine lv_aload_n C.1 C.2.1 dL_law_406 rfl (lv_at hl 4 rfl) ?_
    refine lv_iload C.1 C.2.1 dL_law_407 (lv_at hl 0 rfl) ?_
    refine lv_iconst (v := nI 1) C.1 C.2.1 dL_law_409 (by decide +kernel) ?_
    refine lv_iadd C.1 C.2.1 dL_law_410 ?_
    rw [nI_add]
    refine va_sld C.1 C.2.1 hXs hbl hbA hS (nI_in (by omega) (by omega)) dL_law_411 ?_
    refine lv_aload_n C.1 C.2.1 dL_law_412 rfl (lv_at hl 4 rfl) ?_
    refine lv_iload C.1 C.2.1 dL_law_413 (lv_at hl 0 rfl) ?_
    refine lv_iconst (v := nI 2) C.1 C.2.1 dL_law_415 (by decide +kernel) ?_
    refine lv_iadd C.1 C.2.1 dL_law_416 ?_
    rw [nI_add]
    refine va_sld C.1 C.2.1 hXs hbl hbA hS (nI_in (by omega) (by omega)) dL_law_417 ?_
    refine lv_if_eq (tgt := 425) C.1 C.2.1 dL_law_418 (by decide) (fun _ => ?_) (fun h => absurd (h2) h)
    refine lv_iconst (v := nI 0) C.1 C.2.1 dL_law_425 (by decide +kernel) ?_
    refine cm_cV1 (q0 := 0) 2 C (k_X3_home1 l D cI cZ cJ ac (mw am cI cZ [(ao, .inl (cJ, 1, .inr (.inl fo)))] I A) sd fn ft fm σ ta lp lr z y hz hy hz1 hy1 (xs (nI (4 * n + 1)).toNatClampNeg)) tw_303 tw_304 tw_305 tw_1 tw_306 rfl rfl (rfl) rfl (by decide +kernel) ⟨Nat.le_of_ble_eq_true rfl, Nat.le_of_ble_eq_true rfl⟩ ⟨hcA, hsA⟩ hP hD hS hl.1 rfl rfl (Nat.le_of_ble_eq_true rfl) dL_law_426 (fun H locs hP hD hS => ?_)
    have hP := la_PM hP
    have hD := la_DM hD
    have hP : va_P D vwCl (PWt ac am ao cI cZ cJ fo sd fn ft fm σ ta lp lr I A) H := hP
    have hD : va_D (la_A s) (PWt ac am ao cI cZ cJ fo sd fn ft fm σ ta lp lr I A) := hD
    refine lv_aload_n C.1 C.2.1 dL_law_429 rfl (lv_at hl 2 rfl) ?_
    refine lv_aload_n C.1 C.2.1 dL_law_430 rfl (lv_at hl 4 rfl) ?_
    refine lv_iload C.1 C.2.1 dL_law_431 (lv_at hl 0 rfl) ?_
    refine lv_iconst (v := nI 1) C.1 C.2.1 dL_law_433 (by decide +kernel) ?_
    refine lv_iadd C.1 C.2.1 dL_law_434 ?_
    rw [nI_add]
    refine va_sld C.1 C.2.1 hXs hbl hbA hS (nI_in (by omega) (by omega)) dL_law_435 ?_
    refine lv_aload_n C.1 C.2.1 dL_law_436 rfl (lv_at hl 4 rfl) ?_
    refine lv_iload C.1 C.2.1 dL_law_437 (lv_at hl 0 rfl) ?_
    refine lv_iconst (v := nI 2) C.1 C.2.1 dL_law_439 (by decide +kernel) ?_
    refine lv_iadd C.1 C.2.1 dL_law_440 ?_
    rw [nI_add]
    refine va_sld C.1 C.2.1 hXs hbl hbA hS (nI_in (by omega) (by omega)) dL_law_441 ?_
    refine lv_if_eq (tgt := 449) C.1 C.2.1 dL_law_442 (by decide) (fun _ => ?_) (fun h => absurd (h2) h)
    refine lv_iconst (v := nI 0) C.1 C.2.1 dL_law_449 (by decide +kernel) ?_
    refine cm_cV1 (q0 := 0) 2 C (k_X4_home1 l D cI cZ cJ am ((ao, .inl (cJ, 1, .inr (.inl fo))) :: cw ac cI [] sd fn ft fm σ ta lp lr) I A z y hz hy h5 h6 (xs (nI (4 * n + 1)).toNatClampNeg)) tw_676 tw_677 tw_678 tw_5 tw_679 rfl rfl (rfl) rfl (by decide +kernel) ⟨Nat.le_of_ble_eq_true rfl, Nat.le_of_ble_eq_true rfl⟩ ⟨hcA, hsA⟩ hP hD hS hl.1 rfl rfl (Nat.le_of_ble_eq_true rfl) dL_law_450 (fun H locs hP hD hS => ?_)
    have hP : va_P D vwCl (PWt ac am ao cI cZ cJ fo sd fn ft fm σ ta lp lr (va_up I 0 (nI 0)) A) H := hP
    have hD : va_D (la_A s) (PWt ac am ao cI cZ cJ fo sd fn ft fm σ ta lp lr (va_up I 0 (nI 0)) A) := hD
    have hP := la_PC hP
    have hD := la_DC hD
    refine lv_icmp_eq (tgt := 539) C.1 C.2.1 dL_law_453 (by decide) (fun _ => ?_) (fun h => absurd (by rw [hA4]) h)
    refine W.widen (k := 36 + (n + 1)) (n := 4318 + 6 * (n + 1)) (by omega) (by omega) ?_
    exact kk _ _ _ _ _ _ _ _ _ _ _ _ _ _ hl hP hD hS ((hI.at0 (nI 0)).up (by omega))
  · refine lv_aload_n C.1 C.2.1 dL_law_405 rfl (lv_at hl 3 rfl) ?_
    refine lv_aload_n C.1 C.2.1 dL_law_406 rfl (lv_at hl 4 rfl) ?_
    refine lv_iload C.1 C.2.1 dL_law_407 (lv_at hl 0 rfl) ?_
    refine lv_iconst (v := nI 1) C.1 C.2.1 dL_law_409 (by decide +kernel) ?_
    refine lv_iadd C.1 C.2.1 dL_law_410 ?_
    rw [nI_add]
    refine va_sld C.1 C.2.1 hXs hbl hbA hS (nI_in (by omega) (by omega)) dL_law_411 ?_
    refine lv_aload_n C.1 C.2.1 dL_law_412 rfl (lv_at hl 4 rfl) ?_
    refine lv_iload C.1 C.2.1 dL_law_413 (lv_at hl 0 rfl) ?_
    refine lv_iconst (v := nI 2) C.1 C.2.1 dL_law_415 (by decide +kernel) ?_
    refine lv_iadd C.1 C.2.1 dL_law_416 ?_
    rw [nI_add]
    refine va_sld C.1 C.2.1 hXs hbl hbA hS (nI_in (by omega) (by omega)) dL_law_417 ?_
    refine lv_if_eq (tgt := 425) C.1 C.2.1 dL_law_418 (by decide) (fun h => absurd h (h2)) (fun _ => ?_)
    refine lv_iconst (v := nI 1) C.1 C.2.1 dL_law_421 (by decide +kernel) ?_
    refine lv_goto (tgt := 426) C.1 C.2.1 dL_law_422 (by decide) ?_
    refine cm_cV1 (q0 := 0) 2 C (k_X3_home2 l D cI cZ cJ ac (mw am cI cZ [(ao, .inl (cJ, 1, .inr (.inl fo)))] I A) sd fn ft fm σ ta lp lr z y hz hy hz1 hy1 (xs (nI (4 * n + 1)).toNatClampNeg)) tw_303 tw_304 tw_305 tw_1 tw_306 rfl rfl (rfl) rfl (by decide +kernel) ⟨Nat.le_of_ble_eq_true rfl, Nat.le_of_ble_eq_true rfl⟩ ⟨hcA, hsA⟩ hP hD hS hl.1 rfl rfl (Nat.le_of_ble_eq_true rfl) dL_law_426 (fun H locs hP hD hS => ?_)
    have hP := la_PM hP
    have hD := la_DM hD
    have hP : va_P D vwCl (PWt ac am ao cI cZ cJ fo sd fn ft fm σ ta lp lr I A) H := hP
    have hD : va_D (la_A s) (PWt ac am ao cI cZ cJ fo sd fn ft fm σ ta lp lr I A) := hD
    refine lv_aload_n C.1 C.2.1 dL_law_429 rfl (lv_at hl 2 rfl) ?_
    refine lv_aload_n C.1 C.2.1 dL_law_430 rfl (lv_at hl 4 rfl) ?_
    refine lv_iload C.1 C.2.1 dL_law_431 (lv_at hl 0 rfl) ?_
    refine lv_iconst (v := nI 1) C.1 C.2.1 dL_law_433 (by decide +kernel) ?_
    refine lv_iadd C.1 C.2.1 dL_law_434 ?_
    rw [nI_add]
    refine va_sld C.1 C.2.1 hXs hbl hbA hS (nI_in (by omega) (by omega)) dL_law_435 ?_
    refine lv_aload_n C.1 C.2.1 dL_law_436 rfl (lv_at hl 4 rfl) ?_
    refine lv_iload C.1 C.2.1 dL_law_437 (lv_at hl 0 rfl) ?_
    refine lv_iconst (v := nI 2) C.1 C.2.1 dL_law_439 (by decide +kernel) ?_
    refine lv_iadd C.1 C.2.1 dL_law_440 ?_
    rw [nI_add]
    refine va_sld C.1 C.2.1 hXs hbl hbA hS (nI_in (by omega) (by omega)) dL_law_441 ?_
    refine lv_if_eq (tgt := 449) C.1 C.2.1 dL_law_442 (by decide) (fun h => absurd h (h2)) (fun _ => ?_)
    refine lv_iconst (v := nI 1) C.1 C.2.1 dL_law_445 (by decide +kernel) ?_
    refine lv_goto (tgt := 450) C.1 C.2.1 dL_law_446 (by decide) ?_
    refine cm_cV1 (q0 := 0) 2 C (k_X4_home2 l D cI cZ cJ am ((ao, .inl (cJ, 1, .inr (.inl fo))) :: cw ac cI [] sd fn ft fm σ ta lp lr) I A z y hz hy h5 h6 (xs (nI (4 * n + 1)).toNatClampNeg)) tw_676 tw_677 tw_678 tw_5 tw_679 rfl rfl (rfl) rfl (by decide +kernel) ⟨Nat.le_of_ble_eq_true rfl, Nat.le_of_ble_eq_true rfl⟩ ⟨hcA, hsA⟩ hP hD hS hl.1 rfl rfl (Nat.le_of_ble_eq_true rfl) dL_law_450 (fun H locs hP hD hS => ?_)
    have hP : va_P D vwCl (PWt ac am ao cI cZ cJ fo sd fn ft fm σ ta lp lr (va_up I 0 (nI 0)) A) H := hP
    have hD : va_D (la_A s) (PWt ac am ao cI cZ cJ fo sd fn ft fm σ ta lp lr (va_up I 0 (nI 0)) A) := hD
    have hP := la_PC hP
    have hD := la_DC hD
    refine lv_icmp_eq (tgt := 539) C.1 C.2.1 dL_law_453 (by decide) (fun _ => ?_) (fun h => absurd (by rw [hA4]) h)
    refine W.widen (k := 36 + (n + 1)) (n := 4318 + 6 * (n + 1)) (by omega) (by omega) ?_
    exact kk _ _ _ _ _ _ _ _ _ _ _ _ _ _ hl hP hD hS ((hI.at0 (nI 0)).up (by omega))
set_option maxHeartbeats 4000000 in
set_option maxRecDepth 100000 in
/-- the law: sync -/
theorem op_sync {p : Program} {l : Launch} {e : Env} {s : State} {m : MethodId} {below : List Frame} {meth : Method} {c : Code} {D : va_G} {cI cZ cJ : ClassId} {b L n ao : Nat} {xs : Nat → Int32} {ac am : Nat → Nat} {Q : State → Prop} (hls : l.stackTraces = false) (hL : L ≤ 2048) (hn : 4 * n + 4 ≤ L) (C : cm_C p s m #[Value.ref b] meth c code 7 ret RL D (cm_T cI cZ cJ)) (hXs : va_X b L xs s s.heap) (hbl : b < s.heap.size) (hVX : vt_X (la_A s) s s.heap) (kk : law_k p l e s m below meth c D cI cZ cJ b n ao ac am Q)
    {ls : Array Slot} {H : Heap} {locs : List Loc} {fo : Nat → Int64} {sd fn ft fm : Nat → Int32} {σ : WS} {ta lp lr : Int32} {I : Nat → Int32} {A : Nat → Nat → Int32} (hl : lv_has ls 7 [(4, .int (nI (4 * n))), (3, .ref ao), (2, .ref (am 0)), (1, .ref (ac 0)), (0, .ref b)]) (hP : va_P D vwCl (LWt ac am ao cI cZ cJ fo sd fn ft fm σ ta lp lr I A) H) (hD : va_D (la_A s) (LWt ac am ao cI cZ cJ fo sd fn ft fm σ ta lp lr I A)) (hS : va_S (la_A s) s.heap H locs) (hI : INV (10 * n) sd fn σ ta lp lr I A) : W p l e room_1 s m #[Value.ref b] below meth c H locs (36 + n) (4318 + 6 * n) Q (F0 m 256 ls []) := by
  have hbA : ¬ la_A s b := by show ¬ s.heap.size ≤ b; omega
  have hcA : 36 + n ≤ room_1.cells := by show 36 + n ≤ 1067; omega
  have hsA : 4318 + 6 * n ≤ room_1.slots := by show 4318 + 6 * n ≤ 12552; omega
  have hcB : 36 + n + 1 ≤ room_1.cells := by show 36 + n + 1 ≤ 1067; omega
  have hsB : 4318 + 6 * n + 6 ≤ room_1.slots := by show 4318 + 6 * n + 6 ≤ 12552; omega
  obtain ⟨z, y, hz, hy, hz1, hy1, hk⟩ := hI.2.1.gd.now hI.2.2.1
  have h5 : I 5 = nI z := hI.1.2.2.1.trans hz1
  have h6 : I 6 = nI y := hI.1.2.2.2.1.trans hy1
  have hte := hI.1.2.1.teq hz
  have hA4 : A 4 y = sd y := hI.1.1 y hy
  have hok : okW σ.2.2.2.1 (I, A) := hI.1.2.2.2.2.2.2.2.2.2.1
  have hσ : sOk σ := hI.1.2.2.2.2.2.2.2.2.1
  have hfe : findS (uM A z) (kM A z) (A 4 y) (xs (nI (4 * n + 1)).toNatClampNeg) = findS (uR fn z) (kR fn z) (sd y) (xs (nI (4 * n + 1)).toNatClampNeg) := by rw [hA4]; exact (findS_c hte _ _).symm
  refine lv_aload_n C.1 C.2.1 dL_law_256 rfl (lv_at hl 3 rfl) ?_
  refine cm_cV1 (q0 := 0) 0 C (k_X3_sync l D cI cZ cJ ac (mw am cI cZ [(ao, .inl (cJ, 1, .inr (.inl fo)))] I A) sd fn ft fm σ ta lp lr hσ) tw_299 tw_300 tw_301 tw_1 tw_302 rfl rfl (rfl) rfl (by decide +kernel) ⟨Nat.le_of_ble_eq_true rfl, Nat.le_of_ble_eq_true rfl⟩ ⟨hcA, hsA⟩ hP hD hS hl.1 rfl rfl (Nat.le_of_ble_eq_true rfl) dL_law_257 (fun H locs hP hD hS => ?_)
  have hP := la_PM hP
  have hD := la_DM hD
  have hP : va_P D vwCl (PWt ac am ao cI cZ cJ fo sd fn ft fm (doN σ.2.1 σ.2.2.1 0 σ.2.2.2.1 σ.1, σ.2.1, σ.2.2.1, 0, σ.2.2.2.2) ta lp lr I A) H := hP
  have hD : va_D (la_A s) (PWt ac am ao cI cZ cJ fo sd fn ft fm (doN σ.2.1 σ.2.2.1 0 σ.2.2.2.1 σ.1, σ.2.1, σ.2.2.1, 0, σ.2.2.2.2) ta lp lr I A) := hD
  refine lv_aload_n C.1 C.2.1 dL_law_260 rfl (lv_at hl 2 rfl) ?_
  refine cm_cV1 (q0 := 0) 0 C (k_X4_sync l D cI cZ cJ am ((ao, .inl (cJ, 1, .inr (.inl fo))) :: cw ac cI [] sd fn ft fm (doN σ.2.1 σ.2.2.1 0 σ.2.2.2.1 σ.1, σ.2.1, σ.2.2.1, 0, σ.2.2.2.2) ta lp lr) I A σ.2.2.2.1 hok) tw_664 tw_665 tw_666 tw_5 tw_667 rfl rfl (rfl) rfl (by decide +kernel) ⟨Nat.le_of_ble_eq_true rfl, Nat.le_of_ble_eq_true rfl⟩ ⟨hcA, hsA⟩ hP hD hS hl.1 rfl rfl (Nat.le_of_ble_eq_true rfl) dL_law_261 (fun H locs hP hD hS => ?_)
  have hP : va_P D vwCl (PWt ac am ao cI cZ cJ fo sd fn ft fm (doN σ.2.1 σ.2.2.1 0 σ.2.2.2.1 σ.1, σ.2.1, σ.2.2.1, 0, σ.2.2.2.2) ta lp lr (flsh ((va_up I 0 (nI 0)), A) σ.2.2.2.1).1 (flsh ((va_up I 0 (nI 0)), A) σ.2.2.2.1).2) H := hP
  have hD : va_D (la_A s) (PWt ac am ao cI cZ cJ fo sd fn ft fm (doN σ.2.1 σ.2.2.1 0 σ.2.2.2.1 σ.1, σ.2.1, σ.2.2.1, 0, σ.2.2.2.2) ta lp lr (flsh ((va_up I 0 (nI 0)), A) σ.2.2.2.1).1 (flsh ((va_up I 0 (nI 0)), A) σ.2.2.2.1).2) := hD
  have hP := la_PC hP
  have hD := la_DC hD
  refine lv_icmp_eq (tgt := 539) C.1 C.2.1 dL_law_264 (by decide) (fun _ => ?_) (fun h => absurd (rfl) h)
  refine W.widen (k := 36 + (n + 1)) (n := 4318 + 6 * (n + 1)) (by omega) (by omega) ?_
  exact kk _ _ _ _ _ _ _ _ _ _ _ _ _ _ hl hP hD hS ((hI.at0 (nI 0)).sync.up (by omega))
set_option maxHeartbeats 4000000 in
set_option maxRecDepth 100000 in
/-- the law: remove -/
theorem op_remove {p : Program} {l : Launch} {e : Env} {s : State} {m : MethodId} {below : List Frame} {meth : Method} {c : Code} {D : va_G} {cI cZ cJ : ClassId} {b L n ao : Nat} {xs : Nat → Int32} {ac am : Nat → Nat} {Q : State → Prop} (hls : l.stackTraces = false) (hL : L ≤ 2048) (hn : 4 * n + 4 ≤ L) (C : cm_C p s m #[Value.ref b] meth c code 7 ret RL D (cm_T cI cZ cJ)) (hXs : va_X b L xs s s.heap) (hbl : b < s.heap.size) (hVX : vt_X (la_A s) s s.heap) (kk : law_k p l e s m below meth c D cI cZ cJ b n ao ac am Q)
    {ls : Array Slot} {H : Heap} {locs : List Loc} {fo : Nat → Int64} {sd fn ft fm : Nat → Int32} {σ : WS} {ta lp lr : Int32} {I : Nat → Int32} {A : Nat → Nat → Int32} (hl : lv_has ls 7 [(4, .int (nI (4 * n))), (3, .ref ao), (2, .ref (am 0)), (1, .ref (ac 0)), (0, .ref b)]) (hP : va_P D vwCl (LWt ac am ao cI cZ cJ fo sd fn ft fm σ ta lp lr I A) H) (hD : va_D (la_A s) (LWt ac am ao cI cZ cJ fo sd fn ft fm σ ta lp lr I A)) (hS : va_S (la_A s) s.heap H locs) (hI : INV (10 * n) sd fn σ ta lp lr I A) : W p l e room_1 s m #[Value.ref b] below meth c H locs (36 + n) (4318 + 6 * n) Q (F0 m 231 ls []) := by
  have hbA : ¬ la_A s b := by show ¬ s.heap.size ≤ b; omega
  have hcA : 36 + n ≤ room_1.cells := by show 36 + n ≤ 1067; omega
  have hsA : 4318 + 6 * n ≤ room_1.slots := by show 4318 + 6 * n ≤ 12552; omega
  have hcB : 36 + n + 1 ≤ room_1.cells := by show 36 + n + 1 ≤ 1067; omega
  have hsB : 4318 + 6 * n + 6 ≤ room_1.slots := by show 4318 + 6 * n + 6 ≤ 12552; omega
  obtain ⟨z, y, hz, hy, hz1, hy1, hk⟩ := hI.2.1.gd.now hI.2.2.1
  have h5 : I 5 = nI z := hI.1.2.2.1.trans hz1
  have h6 : I 6 = nI y := hI.1.2.2.2.1.trans hy1
  have hte := hI.1.2.1.teq hz
  have hA4 : A 4 y = sd y := hI.1.1 y hy
  have hok : okW σ.2.2.2.1 (I, A) := hI.1.2.2.2.2.2.2.2.2.2.1
  have hσ : sOk σ := hI.1.2.2.2.2.2.2.2.2.1
  have hfe : findS (uM A z) (kM A z) (A 4 y) (xs (nI (4 * n + 1)).toNatClampNeg) = findS (uR fn z) (kR fn z) (sd y) (xs (nI (4 * n + 1)).toNatClampNeg) := by rw [hA4]; exact (findS_c hte _ _).symm
  cases hf : findS (uR fn z) (kR fn z) (sd y) (xs (nI (4 * n + 1)).toNatClampNeg) with
  | none =>
    refine lv_aload_n C.1 C.2.1 dL_law_231 rfl (lv_at hl 3 rfl) ?_
    refine lv_aload_n C.1 C.2.1 dL_law_232 rfl (lv_at hl 4 rfl) ?_
    refine lv_iload C.1 C.2.1 dL_law_233 (lv_at hl 0 rfl) ?_
    refine lv_iconst (v := nI 1) C.1 C.2.1 dL_law_235 (by decide +kernel) ?_
    refine lv_iadd C.1 C.2.1 dL_law_236 ?_
    rw [nI_add]
    refine va_sld C.1 C.2.1 hXs hbl hbA hS (nI_in (by omega) (by omega)) dL_law_237 ?_
    refine cm_cV1 (q0 := 0) 1 C (k_X3_remove l D cI cZ cJ ac (mw am cI cZ [(ao, .inl (cJ, 1, .inr (.inl fo)))] I A) sd fn ft fm σ ta lp lr z y hz hy hz1 hy1 hσ (xs (nI (4 * n + 1)).toNatClampNeg)) tw_291 tw_292 tw_293 tw_1 tw_294 rfl rfl (rfl) rfl (by decide +kernel) ⟨Nat.le_of_ble_eq_true rfl, Nat.le_of_ble_eq_true rfl⟩ ⟨hcA, hsA⟩ hP hD hS hl.1 rfl rfl (Nat.le_of_ble_eq_true rfl) dL_law_238 (fun H locs hP hD hS => ?_)
    rw [hf] at hP hD ⊢
    have hP := la_PM hP
    have hD := la_DM hD
    have hP : va_P D vwCl (PWt ac am ao cI cZ cJ fo sd fn ft fm σ ta lp lr I A) H := hP
    have hD : va_D (la_A s) (PWt ac am ao cI cZ cJ fo sd fn ft fm σ ta lp lr I A) := hD
    refine lv_aload_n C.1 C.2.1 dL_law_241 rfl (lv_at hl 2 rfl) ?_
    refine lv_aload_n C.1 C.2.1 dL_law_242 rfl (lv_at hl 4 rfl) ?_
    refine lv_iload C.1 C.2.1 dL_law_243 (lv_at hl 0 rfl) ?_
    refine lv_iconst (v := nI 1) C.1 C.2.1 dL_law_245 (by decide +kernel) ?_
    refine lv_iadd C.1 C.2.1 dL_law_246 ?_
    rw [nI_add]
    refine va_sld C.1 C.2.1 hXs hbl hbA hS (nI_in (by omega) (by omega)) dL_law_247 ?_
    refine cm_cV1 (q0 := 0) 1 C (k_X4_remove l D cI cZ cJ am ((ao, .inl (cJ, 1, .inr (.inl fo))) :: cw ac cI [] sd fn ft fm σ ta lp lr) I A z y hz hy h5 h6 σ.2.2.2.1 hok (xs (nI (4 * n + 1)).toNatClampNeg)) tw_652 tw_653 tw_654 tw_5 tw_655 rfl rfl (rfl) rfl (by decide +kernel) ⟨Nat.le_of_ble_eq_true rfl, Nat.le_of_ble_eq_true rfl⟩ ⟨hcA, hsA⟩ hP hD hS hl.1 rfl rfl (Nat.le_of_ble_eq_true rfl) dL_law_248 (fun H locs hP hD hS => ?_)
    rw [hfe, hf] at hP hD ⊢
    have hP : va_P D vwCl (PWt ac am ao cI cZ cJ fo sd fn ft fm σ ta lp lr (va_up I 0 (nI 0)) A) H := hP
    have hD : va_D (la_A s) (PWt ac am ao cI cZ cJ fo sd fn ft fm σ ta lp lr (va_up I 0 (nI 0)) A) := hD
    have hP := la_PC hP
    have hD := la_DC hD
    refine lv_icmp_eq (tgt := 539) C.1 C.2.1 dL_law_251 (by decide) (fun _ => ?_) (fun h => absurd (rfl) h)
    refine W.widen (k := 36 + (n + 1)) (n := 4318 + 6 * (n + 1)) (by omega) (by omega) ?_
    exact kk _ _ _ _ _ _ _ _ _ _ _ _ _ _ hl hP hD hS ((hI.at0 (nI 0)).up (by omega))
  | some i9 =>
    have hi36 := (findS_lt hf).1
    refine lv_aload_n C.1 C.2.1 dL_law_231 rfl (lv_at hl 3 rfl) ?_
    refine lv_aload_n C.1 C.2.1 dL_law_232 rfl (lv_at hl 4 rfl) ?_
    refine lv_iload C.1 C.2.1 dL_law_233 (lv_at hl 0 rfl) ?_
    refine lv_iconst (v := nI 1) C.1 C.2.1 dL_law_235 (by decide +kernel) ?_
    refine lv_iadd C.1 C.2.1 dL_law_236 ?_
    rw [nI_add]
    refine va_sld C.1 C.2.1 hXs hbl hbA hS (nI_in (by omega) (by omega)) dL_law_237 ?_
    refine cm_cV1 (q0 := 0) 1 C (k_X3_remove l D cI cZ cJ ac (mw am cI cZ [(ao, .inl (cJ, 1, .inr (.inl fo)))] I A) sd fn ft fm σ ta lp lr z y hz hy hz1 hy1 hσ (xs (nI (4 * n + 1)).toNatClampNeg)) tw_291 tw_292 tw_293 tw_1 tw_294 rfl rfl (rfl) rfl (by decide +kernel) ⟨Nat.le_of_ble_eq_true rfl, Nat.le_of_ble_eq_true rfl⟩ ⟨hcA, hsA⟩ hP hD hS hl.1 rfl rfl (Nat.le_of_ble_eq_true rfl) dL_law_238 (fun H locs hP hD hS => ?_)
    rw [hf] at hP hD ⊢
    have hP := la_PM hP
    have hD := la_DM hD
    have hP : va_P D vwCl (PWt ac am ao cI cZ cJ fo sd (emptyC fn (36 * z + i9)) ft fm (wr (emptyC fn (36 * z + i9)) (9 * z + i9 / 4) σ) ta lp lr I A) H := hP
    have hD : va_D (la_A s) (PWt ac am ao cI cZ cJ fo sd (emptyC fn (36 * z + i9)) ft fm (wr (emptyC fn (36 * z + i9)) (9 * z + i9 / 4) σ) ta lp lr I A) := hD
    refine lv_aload_n C.1 C.2.1 dL_law_241 rfl (lv_at hl 2 rfl) ?_
    refine lv_aload_n C.1 C.2.1 dL_law_242 rfl (lv_at hl 4 rfl) ?_
    refine lv_iload C.1 C.2.1 dL_law_243 (lv_at hl 0 rfl) ?_
    refine lv_iconst (v := nI 1) C.1 C.2.1 dL_law_245 (by decide +kernel) ?_
    refine lv_iadd C.1 C.2.1 dL_law_246 ?_
    rw [nI_add]
    refine va_sld C.1 C.2.1 hXs hbl hbA hS (nI_in (by omega) (by omega)) dL_law_247 ?_
    refine cm_cV1 (q0 := 0) 1 C (k_X4_remove l D cI cZ cJ am ((ao, .inl (cJ, 1, .inr (.inl fo))) :: cw ac cI [] sd (emptyC fn (36 * z + i9)) ft fm (wr (emptyC fn (36 * z + i9)) (9 * z + i9 / 4) σ) ta lp lr) I A z y hz hy h5 h6 σ.2.2.2.1 hok (xs (nI (4 * n + 1)).toNatClampNeg)) tw_652 tw_653 tw_654 tw_5 tw_655 rfl rfl (rfl) rfl (by decide +kernel) ⟨Nat.le_of_ble_eq_true rfl, Nat.le_of_ble_eq_true rfl⟩ ⟨hcA, hsA⟩ hP hD hS hl.1 rfl rfl (Nat.le_of_ble_eq_true rfl) dL_law_248 (fun H locs hP hD hS => ?_)
    rw [hfe, hf] at hP hD ⊢
    have hP : va_P D vwCl (PWt ac am ao cI cZ cJ fo sd (emptyC fn (36 * z + i9)) ft fm (wr (emptyC fn (36 * z + i9)) (9 * z + i9 / 4) σ) ta lp lr (wPg (9 * z + i9 / 4) σ.2.2.2.1 ((va_up I 0 (nI 0)), (va_up A 1 (upd (A 1) (36 * z + i9) (nI 0))))).1 (wPg (9 * z + i9 / 4) σ.2.2.2.1 ((va_up I 0 (nI 0)), (va_up A 1 (upd (A 1) (36 * z + i9) (nI 0))))).2) H := hP
    have hD : va_D (la_A s) (PWt ac am ao cI cZ cJ fo sd (emptyC fn (36 * z + i9)) ft fm (wr (emptyC fn (36 * z + i9)) (9 * z + i9 / 4) σ) ta lp lr (wPg (9 * z + i9 / 4) σ.2.2.2.1 ((va_up I 0 (nI 0)), (va_up A 1 (upd (A 1) (36 * z + i9) (nI 0))))).1 (wPg (9 * z + i9 / 4) σ.2.2.2.1 ((va_up I 0 (nI 0)), (va_up A 1 (upd (A 1) (36 * z + i9) (nI 0))))).2) := hD
    have hP := la_PC hP
    have hD := la_DC hD
    refine lv_icmp_eq (tgt := 539) C.1 C.2.1 dL_law_251 (by decide) (fun _ => ?_) (fun h => absurd (rfl) h)
    have hfin := (hI.at0 (nI 0)).empty (p := 36 * z + i9) (by omega)
    rw [show (36 * z + i9) / 4 = 9 * z + i9 / 4 by omega] at hfin
    refine W.widen (k := 36 + (n + 1)) (n := 4318 + 6 * (n + 1)) (by omega) (by omega) ?_
    exact kk _ _ _ _ _ _ _ _ _ _ _ _ _ _ hl hP hD hS (hfin.up (by omega))
