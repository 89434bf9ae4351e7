/-! ===== the law's loop ===== -/
theorem and15 (x : Int32) : ∃ j, j < 16 ∧ x &&& nI 15 = nI j := ⟨_, Nat.mod_lt _ (by decide), pk_and x 4 (by decide +kernel)⟩
theorem sub4_lt {L n : Nat} (hL : L ≤ 2048) (h1 : 4 * n ≤ L) (h2 : L < 4 * n + 4) : nI L - nI 4 < nI (4 * n) := by
  by_cases h : 4 ≤ L
  · rw [nI_sub h]
    exact nI_lt (by omega) (by omega)
  · have hn : n = 0 := by omega
    subst hn
    rcases (show L = 0 ∨ L = 1 ∨ L = 2 ∨ L = 3 by omega) with rfl | rfl | rfl | rfl <;> decide +kernel
set_option maxHeartbeats 4000000 in
set_option maxRecDepth 100000 in
/-- the loop -/
theorem law_loop {p : Program} {l : Launch} {e : Env} {s : State} {m : MethodId} {below : List Frame} {meth : Method} {c : Code} {D : va_G} {cI cZ cJ : ClassId} {b L ao : Nat} {xs : Nat → Int32} {ac am : Nat → Nat} {Q : State → Prop} (hls : l.stackTraces = false) (hL : L ≤ 2048) (C : cm_C p s m #[Value.ref b] meth c code 7 ret RL D (cm_T cI cZ cJ)) (hXs : va_X b L xs s s.heap) (hbl : b < s.heap.size) (hVX : vt_X (la_A s) s s.heap)  (hend : ∀ (ls : Array Slot) (H : Heap) (locs : List Loc), va_S (la_A s) s.heap H locs → W p l e room_1 s m #[Value.ref b] below meth c H locs 1067 12552 Q (F0 m 545 ls [])) : ∀ (k n : Nat), 4 * n + 4 * k ≤ L → L < 4 * n + 4 * k + 4 → ∀ (ls : Array Slot) (H : Heap) (locs : List Loc) (fo : Nat → Int64) (sd fn ft fm : Nat → Int32) (σ : WS) (ta lp lr : Int32) (I : Nat → Int32) (A : Nat → Nat → Int32), lv_has ls 7 [(4, .int (nI (4 * n))), (3, .ref ao), (2, .ref (am 0)), (1, .ref (ac 0)), (0, .ref b)] → va_P D vwCl (LWt ac am ao cI cZ cJ fo sd fn ft fm σ ta lp lr I A) H → va_D (la_A s) (LWt ac am ao cI cZ cJ fo sd fn ft fm σ ta lp lr I A) → va_S (la_A s) s.heap H locs → INV (10 * n) sd fn σ ta lp lr I A → W p l e room_1 s m #[Value.ref b] below meth c H locs (36 + n) (4318 + 6 * n) Q (F0 m 23 ls []) := by
  have hbA : ¬ la_A s b := by show ¬ s.heap.size ≤ b; omega
  intro k
  induction k with
  | zero =>
    intro n h1 h2 ls H locs fo sd fn ft fm σ ta lp lr I A hl hP hD hS hI
    refine lv_iload C.1 C.2.1 dL_law_23 (lv_at hl 0 rfl) ?_
    refine lv_aload_n C.1 C.2.1 dL_law_25 rfl (lv_at hl 4 rfl) ?_
    refine va_slen C.1 C.2.1 hXs hbl hbA hS dL_law_26 ?_
    rw [nI_lit]
    refine lv_iconst (v := nI 4) C.1 C.2.1 dL_law_27 (by decide +kernel) ?_
    refine lv_isub C.1 C.2.1 dL_law_28 ?_
    refine lv_icmp_gt (tgt := 545) C.1 C.2.1 dL_law_29 (by decide) (fun _ => ?_) (fun h => absurd (sub4_lt hL (by omega) (by omega)) h)
    refine W.widen (k := 1067) (n := 12552) (by omega) (by omega) ?_
    exact hend _ _ _ hS
  | succ k ih =>
    intro n h1 h2 ls H locs fo sd fn ft fm σ ta lp lr I A hl hP hD hS hI
    have kk : law_k p l e s m below meth c D cI cZ cJ b n ao ac am Q := by
      intro ls H locs fo sd fn ft fm σ ta lp lr I A hl hP hD hS hI
      refine lv_iinc (v := nI (4 * (n + 1))) (lv' := [(4, _), (3, _), (2, _), (1, _), (0, _)]) C.1 C.2.1 dL_law_539 hl (k := 0) rfl (by show nI (4 * n) + nI 4 = _; rw [nI_add]; rfl) (by decide) rfl (fun ls hl => ?_)
      refine lv_goto (tgt := 23) C.1 C.2.1 dL_law_542 (by decide) ?_
      exact ih (n + 1) (by omega) (by omega) _ _ _ _ _ _ _ _ _ _ _ _ _ _ hl hP hD hS hI
    refine lv_iload C.1 C.2.1 dL_law_23 (lv_at hl 0 rfl) ?_
    refine lv_aload_n C.1 C.2.1 dL_law_25 rfl (lv_at hl 4 rfl) ?_
    refine va_slen C.1 C.2.1 hXs hbl hbA hS dL_law_26 ?_
    rw [nI_lit]
    refine lv_iconst (v := nI 4) C.1 C.2.1 dL_law_27 (by decide +kernel) ?_
    refine lv_isub C.1 C.2.1 dL_law_28 ?_
    refine lv_icmp_gt (tgt := 545) C.1 C.2.1 dL_law_29 (by decide) (fun h => absurd h (by rw [nI_sub (by omega)]; exact nI_nlt (by omega) (by omega))) (fun _ => ?_)
    refine lv_aload_n C.1 C.2.1 dL_law_32 rfl (lv_at hl 4 rfl) ?_
    refine lv_iload C.1 C.2.1 dL_law_33 (lv_at hl 0 rfl) ?_
    refine va_sld C.1 C.2.1 hXs hbl hbA hS (nI_in (by omega) (by omega)) dL_law_35 ?_
    refine lv_bipush (v := nI 15) C.1 C.2.1 dL_law_36 (by decide +kernel) ?_
    refine lv_iand C.1 C.2.1 dL_law_38 ?_
    obtain ⟨j, hj, ej⟩ := and15 (xs (nI (4 * n)).toNatClampNeg)
    rw [ej]
    match j, hj with
    | 0, _ =>
      refine lv_tableIn (off := 57) (tgt := 96) C.1 C.2.1 dL_law_39 (by decide) (by decide) (by decide +kernel) (by decide) ?_
      exact op_seed hls hL (by omega) C hXs hbl hVX kk hl hP hD hS hI
    | 1, _ =>
      refine lv_tableIn (off := 105) (tgt := 144) C.1 C.2.1 dL_law_39 (by decide) (by decide) (by decide +kernel) (by decide) ?_
      exact op_put hls hL (by omega) C hXs hbl hVX kk hl hP hD hS hI
    | 2, _ =>
      refine lv_tableIn (off := 142) (tgt := 181) C.1 C.2.1 dL_law_39 (by decide) (by decide) (by decide +kernel) (by decide) ?_
      exact op_has hls hL (by omega) C hXs hbl hVX kk hl hP hD hS hI
    | 3, _ =>
      refine lv_tableIn (off := 167) (tgt := 206) C.1 C.2.1 dL_law_39 (by decide) (by decide) (by decide +kernel) (by decide) ?_
      exact op_get hls hL (by omega) C hXs hbl hVX kk hl hP hD hS hI
    | 4, _ =>
      refine lv_tableIn (off := 192) (tgt := 231) C.1 C.2.1 dL_law_39 (by decide) (by decide) (by decide +kernel) (by decide) ?_
      exact op_remove hls hL (by omega) C hXs hbl hVX kk hl hP hD hS hI
    | 5, _ =>
      refine lv_tableIn (off := 217) (tgt := 256) C.1 C.2.1 dL_law_39 (by decide) (by decide) (by decide +kernel) (by decide) ?_
      exact op_sync hls hL (by omega) C hXs hbl hVX kk hl hP hD hS hI
    | 6, _ =>
      refine lv_tableIn (off := 230) (tgt := 269) C.1 C.2.1 dL_law_39 (by decide) (by decide) (by decide +kernel) (by decide) ?_
      exact op_crash hls hL (by omega) C hXs hbl hVX kk hl hP hD hS hI
    | 7, _ =>
      refine lv_tableIn (off := 286) (tgt := 325) C.1 C.2.1 dL_law_39 (by decide) (by decide) (by decide +kernel) (by decide) ?_
      exact op_slot hls hL (by omega) C hXs hbl hVX kk hl hP hD hS hI
    | 8, _ =>
      refine lv_tableIn (off := 366) (tgt := 405) C.1 C.2.1 dL_law_39 (by decide) (by decide) (by decide +kernel) (by decide) ?_
      exact op_home hls hL (by omega) C hXs hbl hVX kk hl hP hD hS hI
    | 9, _ =>
      refine lv_tableIn (off := 419) (tgt := 458) C.1 C.2.1 dL_law_39 (by decide) (by decide) (by decide +kernel) (by decide) ?_
      exact op_reads hls hL (by omega) C hXs hbl hVX kk hl hP hD hS hI
    | 10, _ =>
      refine lv_tableIn (off := 444) (tgt := 483) C.1 C.2.1 dL_law_39 (by decide) (by decide) (by decide +kernel) (by decide) ?_
      exact op_count hls hL (by omega) C hXs hbl hVX kk hl hP hD hS hI
    | 11, _ =>
      refine lv_tableOut (tgt := 539) C.1 C.2.1 dL_law_39 (by decide) (by decide) ?_
      refine W.widen (k := 36 + (n + 1)) (n := 4318 + 6 * (n + 1)) (by omega) (by omega) ?_
      exact kk _ _ _ _ _ _ _ _ _ _ _ _ _ _ hl hP hD hS (hI.up (by omega))
    | 12, _ =>
      refine lv_tableOut (tgt := 539) C.1 C.2.1 dL_law_39 (by decide) (by decide) ?_
      refine W.widen (k := 36 + (n + 1)) (n := 4318 + 6 * (n + 1)) (by omega) (by omega) ?_
      exact kk _ _ _ _ _ _ _ _ _ _ _ _ _ _ hl hP hD hS (hI.up (by omega))
    | 13, _ =>
      refine lv_tableOut (tgt := 539) C.1 C.2.1 dL_law_39 (by decide) (by decide) ?_
      refine W.widen (k := 36 + (n + 1)) (n := 4318 + 6 * (n + 1)) (by omega) (by omega) ?_
      exact kk _ _ _ _ _ _ _ _ _ _ _ _ _ _ hl hP hD hS (hI.up (by omega))
    | 14, _ =>
      refine lv_tableOut (tgt := 539) C.1 C.2.1 dL_law_39 (by decide) (by decide) ?_
      refine W.widen (k := 36 + (n + 1)) (n := 4318 + 6 * (n + 1)) (by omega) (by omega) ?_
      exact kk _ _ _ _ _ _ _ _ _ _ _ _ _ _ hl hP hD hS (hI.up (by omega))
    | 15, _ =>
      refine lv_tableOut (tgt := 539) C.1 C.2.1 dL_law_39 (by decide) (by decide) ?_
      refine W.widen (k := 36 + (n + 1)) (n := 4318 + 6 * (n + 1)) (by omega) (by omega) ?_
      exact kk _ _ _ _ _ _ _ _ _ _ _ _ _ _ hl hP hD hS (hI.up (by omega))
    | j + 16, h => exact absurd h (by omega)
