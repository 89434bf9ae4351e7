/-! ===== what is asked: has, get, home, reads, allKeys; remove, sync ===== -/
def rdS (u : Nat → Bool) (k : Nat → Int32) (s key : Int32) : Int32 := match findS u k s key with
  | none => nI 3
  | some i => if i / 4 = 8 then nI 3 else if i / 4 = hm1 s key then nI 1 else nI 2
def allN (f : Nat → Int32) (z : Nat) : Nat → Nat → Nat
  | _, 0 => 0
  | j, k + 1 => cnt (fun i => !emP f (z * 9 + j) i) 0 4 + allN f z (j + 1) k
set_option maxHeartbeats 4000000 in
set_option maxRecDepth 100000 in
/-- has -/
theorem k_X3_has (l : Launch) (D : va_G) (cI cZ cJ : ClassId) (ad : Nat → Nat) (X : va_W) (sd fn ft fm : Nat → Int32) (σ : WS) (ta lp lr : Int32) (z y9 : Nat) (hz0 : z < 2) (hy0 : y9 < 4) (hz : fn 396 = nI z) (hy : fn 397 = nI y9)  (key : Int32) : CM l D (cm_T cI cZ cJ) yX3_has cX3_has 2 (some .boolean) (cm_rm 4 87) [.ref (ad 0), .int key] (cw ad cI X sd fn ft fm σ ta lp lr) (some (.int (bI (findS (uR fn z) (kR fn z) (sd y9) key).isSome))) (cw ad cI X sd fn ft fm σ ta lp lr) := by
  refine CM.of (by decide) (Nat.le_of_ble_eq_true rfl) ?_
  intro p e s m below meth c ls H locs C hl hP hD hS
  cases ef : findS (uR fn z) (kR fn z) (sd y9) key with
  | none =>
    refine lv_aload_n C.1 C.2.1 dX3_has_0 rfl (lv_at hl 0 rfl) ?_
    refine va_get (ci := 3) (C := RX3) (T := TX3) (N := 10) C.1 C.2.1 C.2.2.2.2.2.1 ui_X3 C.2.2.2.2.1 C.2.2.2.2.2.2.2.1 hP 0 (rfl) rfl 1 (by decide) (C.2.2.2.2.2.1 _ tw_62) (fun _ h9 => h9) rfl dX3_has_1 ?_
    refine lv_aload_n C.1 C.2.1 dX3_has_4 rfl (lv_at hl 0 rfl) ?_
    refine lv_aload_n C.1 C.2.1 dX3_has_5 rfl (lv_at hl 0 rfl) ?_
    refine va_get (ci := 3) (C := RX3) (T := TX3) (N := 10) C.1 C.2.1 C.2.2.2.2.2.1 ui_X3 C.2.2.2.2.1 C.2.2.2.2.2.2.2.1 hP 0 (rfl) rfl 1 (by decide) (C.2.2.2.2.2.1 _ tw_62) (fun _ h9 => h9) rfl dX3_has_6 ?_
    refine cm_cV1 (q0 := 0) 1 C (k_X3_seedInUse l D cI cZ cJ (cw ad cI X sd fn ft fm σ ta lp lr) (qO := 0) rfl (qS := 1) rfl (qI := 2) (qA := 3) rfl rfl y9 hy0 hy) tw_96 tw_98 ts_0 tw_1 tw_99 rfl rfl (rfl) rfl (by decide +kernel) ⟨Nat.le_of_ble_eq_true rfl, Nat.le_of_ble_eq_true rfl⟩ ⟨Nat.zero_le _, Nat.zero_le _⟩ hP hD hS hl.1 rfl rfl (Nat.le_of_ble_eq_true rfl) dX3_has_9 (fun H locs hP hD hS => ?_)
    refine lv_iload_n C.1 C.2.1 dX3_has_12 rfl (lv_at hl 1 rfl) ?_
    refine cm_cS1 3 C (k_X3_find l D cI cZ cJ (cw ad cI X sd fn ft fm σ ta lp lr) (qI := 2) (qA := 3) rfl rfl z hz0 hz (sd y9) key) tw_111 tw_112 tw_1 tw_113 rfl rfl (by decide +kernel) ⟨Nat.le_of_ble_eq_true rfl, Nat.le_of_ble_eq_true rfl⟩ ⟨Nat.zero_le _, Nat.zero_le _⟩ hP hD hS hl.1 rfl rfl (Nat.le_of_ble_eq_true rfl) dX3_has_13 (fun H locs hP hD hS => ?_)
    rw [ef, optA_none]
    refine lv_iconst (v := (-1)) C.1 C.2.1 dX3_has_16 (by decide +kernel) ?_
    refine lv_icmp_eq (tgt := 24) C.1 C.2.1 dX3_has_17 (by decide) (fun _ => ?_) (fun h => absurd (rfl) h)
    refine lv_iconst (v := nI 0) C.1 C.2.1 dX3_has_24 (by decide +kernel) ?_
    exact cm_zret C hP hD hS dX3_has_25 (by decide +kernel) (rfl) (rfl)
  | some i9 =>
    have q3 := (findS_lt ef).1
    refine lv_aload_n C.1 C.2.1 dX3_has_0 rfl (lv_at hl 0 rfl) ?_
    refine va_get (ci := 3) (C := RX3) (T := TX3) (N := 10) C.1 C.2.1 C.2.2.2.2.2.1 ui_X3 C.2.2.2.2.1 C.2.2.2.2.2.2.2.1 hP 0 (rfl) rfl 1 (by decide) (C.2.2.2.2.2.1 _ tw_62) (fun _ h9 => h9) rfl dX3_has_1 ?_
    refine lv_aload_n C.1 C.2.1 dX3_has_4 rfl (lv_at hl 0 rfl) ?_
    refine lv_aload_n C.1 C.2.1 dX3_has_5 rfl (lv_at hl 0 rfl) ?_
    refine va_get (ci := 3) (C := RX3) (T := TX3) (N := 10) C.1 C.2.1 C.2.2.2.2.2.1 ui_X3 C.2.2.2.2.1 C.2.2.2.2.2.2.2.1 hP 0 (rfl) rfl 1 (by decide) (C.2.2.2.2.2.1 _ tw_62) (fun _ h9 => h9) rfl dX3_has_6 ?_
    refine cm_cV1 (q0 := 0) 1 C (k_X3_seedInUse l D cI cZ cJ (cw ad cI X sd fn ft fm σ ta lp lr) (qO := 0) rfl (qS := 1) rfl (qI := 2) (qA := 3) rfl rfl y9 hy0 hy) tw_96 tw_98 ts_0 tw_1 tw_99 rfl rfl (rfl) rfl (by decide +kernel) ⟨Nat.le_of_ble_eq_true rfl, Nat.le_of_ble_eq_true rfl⟩ ⟨Nat.zero_le _, Nat.zero_le _⟩ hP hD hS hl.1 rfl rfl (Nat.le_of_ble_eq_true rfl) dX3_has_9 (fun H locs hP hD hS => ?_)
    refine lv_iload_n C.1 C.2.1 dX3_has_12 rfl (lv_at hl 1 rfl) ?_
    refine cm_cS1 3 C (k_X3_find l D cI cZ cJ (cw ad cI X sd fn ft fm σ ta lp lr) (qI := 2) (qA := 3) rfl rfl z hz0 hz (sd y9) key) tw_111 tw_112 tw_1 tw_113 rfl rfl (by decide +kernel) ⟨Nat.le_of_ble_eq_true rfl, Nat.le_of_ble_eq_true rfl⟩ ⟨Nat.zero_le _, Nat.zero_le _⟩ hP hD hS hl.1 rfl rfl (Nat.le_of_ble_eq_true rfl) dX3_has_13 (fun H locs hP hD hS => ?_)
    rw [ef, optA_some]
    refine lv_iconst (v := (-1)) C.1 C.2.1 dX3_has_16 (by decide +kernel) ?_
    refine lv_icmp_eq (tgt := 24) C.1 C.2.1 dX3_has_17 (by decide) (fun h => absurd h (nI_m1 (by omega))) (fun _ => ?_)
    refine lv_iconst (v := nI 1) C.1 C.2.1 dX3_has_20 (by decide +kernel) ?_
    refine lv_goto (tgt := 25) C.1 C.2.1 dX3_has_21 (by decide) ?_
    exact cm_zret C hP hD hS dX3_has_25 (by decide +kernel) (rfl) (rfl)
set_option maxHeartbeats 4000000 in
set_option maxRecDepth 100000 in
/-- get -/
theorem k_X3_get (l : Launch) (D : va_G) (cI cZ cJ : ClassId) (ad : Nat → Nat) (X : va_W) (sd fn ft fm : Nat → Int32) (σ : WS) (ta lp lr : Int32) (z y9 : Nat) (hz0 : z < 2) (hy0 : y9 < 4) (hz : fn 396 = nI z) (hy : fn 397 = nI y9)  (key : Int32) : CM l D (cm_T cI cZ cJ) yX3_get cX3_get 3 (some .int) (cm_rm 4 87) [.ref (ad 0), .int key] (cw ad cI X sd fn ft fm σ ta lp lr) (some (.int (match findS (uR fn z) (kR fn z) (sd y9) key with | none => nI 0 | some i => vR fn z i))) (cw ad cI X sd fn ft fm σ ta lp lr) := by
  refine CM.of (by decide) (Nat.le_of_ble_eq_true rfl) ?_
  intro p e s m below meth c ls H locs C hl hP hD hS
  cases ef : findS (uR fn z) (kR fn z) (sd y9) key with
  | none =>
    refine lv_aload_n C.1 C.2.1 dX3_get_0 rfl (lv_at hl 0 rfl) ?_
    refine va_get (ci := 3) (C := RX3) (T := TX3) (N := 10) C.1 C.2.1 C.2.2.2.2.2.1 ui_X3 C.2.2.2.2.1 C.2.2.2.2.2.2.2.1 hP 0 (rfl) rfl 1 (by decide) (C.2.2.2.2.2.1 _ tw_62) (fun _ h9 => h9) rfl dX3_get_1 ?_
    refine lv_aload_n C.1 C.2.1 dX3_get_4 rfl (lv_at hl 0 rfl) ?_
    refine lv_aload_n C.1 C.2.1 dX3_get_5 rfl (lv_at hl 0 rfl) ?_
    refine va_get (ci := 3) (C := RX3) (T := TX3) (N := 10) C.1 C.2.1 C.2.2.2.2.2.1 ui_X3 C.2.2.2.2.1 C.2.2.2.2.2.2.2.1 hP 0 (rfl) rfl 1 (by decide) (C.2.2.2.2.2.1 _ tw_62) (fun _ h9 => h9) rfl dX3_get_6 ?_
    refine cm_cV1 (q0 := 0) 1 C (k_X3_seedInUse l D cI cZ cJ (cw ad cI X sd fn ft fm σ ta lp lr) (qO := 0) rfl (qS := 1) rfl (qI := 2) (qA := 3) rfl rfl y9 hy0 hy) tw_96 tw_98 ts_0 tw_1 tw_99 rfl rfl (rfl) rfl (by decide +kernel) ⟨Nat.le_of_ble_eq_true rfl, Nat.le_of_ble_eq_true rfl⟩ ⟨Nat.zero_le _, Nat.zero_le _⟩ hP hD hS hl.1 rfl rfl (Nat.le_of_ble_eq_true rfl) dX3_get_9 (fun H locs hP hD hS => ?_)
    refine lv_iload_n C.1 C.2.1 dX3_get_12 rfl (lv_at hl 1 rfl) ?_
    refine cm_cS1 3 C (k_X3_find l D cI cZ cJ (cw ad cI X sd fn ft fm σ ta lp lr) (qI := 2) (qA := 3) rfl rfl z hz0 hz (sd y9) key) tw_111 tw_112 tw_1 tw_113 rfl rfl (by decide +kernel) ⟨Nat.le_of_ble_eq_true rfl, Nat.le_of_ble_eq_true rfl⟩ ⟨Nat.zero_le _, Nat.zero_le _⟩ hP hD hS hl.1 rfl rfl (Nat.le_of_ble_eq_true rfl) dX3_get_13 (fun H locs hP hD hS => ?_)
    rw [ef, optA_none]
    refine lv_istore_n (lv' := [(2, _), (0, _), (1, _)]) C.1 C.2.1 dX3_get_16 rfl hl (by decide) rfl (fun ls hl => ?_)
    refine lv_iload_n C.1 C.2.1 dX3_get_17 rfl (lv_at hl 0 rfl) ?_
    refine lv_iconst (v := (-1)) C.1 C.2.1 dX3_get_18 (by decide +kernel) ?_
    refine lv_icmp_ne (tgt := 26) C.1 C.2.1 dX3_get_19 (by decide) (fun h => absurd (rfl) h) (fun _ => ?_)
    refine lv_iconst (v := nI 0) C.1 C.2.1 dX3_get_22 (by decide +kernel) ?_
    refine lv_goto (tgt := 34) C.1 C.2.1 dX3_get_23 (by decide) ?_
    exact cm_iret C hP hD hS dX3_get_34 (rfl) (rfl)
  | some i9 =>
    have q3 := (findS_lt ef).1
    refine lv_aload_n C.1 C.2.1 dX3_get_0 rfl (lv_at hl 0 rfl) ?_
    refine va_get (ci := 3) (C := RX3) (T := TX3) (N := 10) C.1 C.2.1 C.2.2.2.2.2.1 ui_X3 C.2.2.2.2.1 C.2.2.2.2.2.2.2.1 hP 0 (rfl) rfl 1 (by decide) (C.2.2.2.2.2.1 _ tw_62) (fun _ h9 => h9) rfl dX3_get_1 ?_
    refine lv_aload_n C.1 C.2.1 dX3_get_4 rfl (lv_at hl 0 rfl) ?_
    refine lv_aload_n C.1 C.2.1 dX3_get_5 rfl (lv_at hl 0 rfl) ?_
    refine va_get (ci := 3) (C := RX3) (T := TX3) (N := 10) C.1 C.2.1 C.2.2.2.2.2.1 ui_X3 C.2.2.2.2.1 C.2.2.2.2.2.2.2.1 hP 0 (rfl) rfl 1 (by decide) (C.2.2.2.2.2.1 _ tw_62) (fun _ h9 => h9) rfl dX3_get_6 ?_
    refine cm_cV1 (q0 := 0) 1 C (k_X3_seedInUse l D cI cZ cJ (cw ad cI X sd fn ft fm σ ta lp lr) (qO := 0) rfl (qS := 1) rfl (qI := 2) (qA := 3) rfl rfl y9 hy0 hy) tw_96 tw_98 ts_0 tw_1 tw_99 rfl rfl (rfl) rfl (by decide +kernel) ⟨Nat.le_of_ble_eq_true rfl, Nat.le_of_ble_eq_true rfl⟩ ⟨Nat.zero_le _, Nat.zero_le _⟩ hP hD hS hl.1 rfl rfl (Nat.le_of_ble_eq_true rfl) dX3_get_9 (fun H locs hP hD hS => ?_)
    refine lv_iload_n C.1 C.2.1 dX3_get_12 rfl (lv_at hl 1 rfl) ?_
    refine cm_cS1 3 C (k_X3_find l D cI cZ cJ (cw ad cI X sd fn ft fm σ ta lp lr) (qI := 2) (qA := 3) rfl rfl z hz0 hz (sd y9) key) tw_111 tw_112 tw_1 tw_113 rfl rfl (by decide +kernel) ⟨Nat.le_of_ble_eq_true rfl, Nat.le_of_ble_eq_true rfl⟩ ⟨Nat.zero_le _, Nat.zero_le _⟩ hP hD hS hl.1 rfl rfl (Nat.le_of_ble_eq_true rfl) dX3_get_13 (fun H locs hP hD hS => ?_)
    rw [ef, optA_some]
    refine lv_istore_n (lv' := [(2, _), (0, _), (1, _)]) C.1 C.2.1 dX3_get_16 rfl hl (by decide) rfl (fun ls hl => ?_)
    refine lv_iload_n C.1 C.2.1 dX3_get_17 rfl (lv_at hl 0 rfl) ?_
    refine lv_iconst (v := (-1)) C.1 C.2.1 dX3_get_18 (by decide +kernel) ?_
    refine lv_icmp_ne (tgt := 26) C.1 C.2.1 dX3_get_19 (by decide) (fun _ => ?_) (fun h => absurd h (nI_m1 (by omega)))
    refine lv_aload_n C.1 C.2.1 dX3_get_26 rfl (lv_at hl 1 rfl) ?_
    refine va_get (ci := 3) (C := RX3) (T := TX3) (N := 10) C.1 C.2.1 C.2.2.2.2.2.1 ui_X3 C.2.2.2.2.1 C.2.2.2.2.2.2.2.1 hP 0 (rfl) rfl 1 (by decide) (C.2.2.2.2.2.1 _ tw_62) (fun _ h9 => h9) rfl dX3_get_27 ?_
    refine lv_iload_n C.1 C.2.1 dX3_get_30 rfl (lv_at hl 0 rfl) ?_
    refine cm_cV1 (q0 := 2) 1 C (k_X0_valueAt l D cI cZ cJ (cw ad cI X sd fn ft fm σ ta lp lr) (qI := 2) (qA := 3) rfl rfl (36 * z + i9) (by omega)) tw_184 tw_185 tw_186 tw_2 tw_187 rfl rfl (rfl) rfl (by decide +kernel) ⟨Nat.le_of_ble_eq_true rfl, Nat.le_of_ble_eq_true rfl⟩ ⟨Nat.zero_le _, Nat.zero_le _⟩ hP hD hS hl.1 rfl rfl (Nat.le_of_ble_eq_true rfl) dX3_get_31 (fun H locs hP hD hS => ?_)
    exact cm_iret C hP hD hS dX3_get_34 (rfl) (rfl)
set_option maxHeartbeats 4000000 in
set_option maxRecDepth 100000 in
/-- remove -/
theorem k_X3_remove (l : Launch) (D : va_G) (cI cZ cJ : ClassId) (ad : Nat → Nat) (X : va_W) (sd fn ft fm : Nat → Int32) (σ : WS) (ta lp lr : Int32) (z y9 : Nat) (hz0 : z < 2) (hy0 : y9 < 4) (hz : fn 396 = nI z) (hy : fn 397 = nI y9) (hσ : sOk σ) (key : Int32) : CM l D (cm_T cI cZ cJ) yX3_remove cX3_remove 3 (some .boolean) (cm_rm 4 109) [.ref (ad 0), .int key] (cw ad cI X sd fn ft fm σ ta lp lr) (some (.int (bI (findS (uR fn z) (kR fn z) (sd y9) key).isSome))) (match findS (uR fn z) (kR fn z) (sd y9) key with | none => cw ad cI X sd fn ft fm σ ta lp lr | some i9 => cw ad cI X sd (emptyC fn (36 * z + i9)) ft fm (wr (emptyC fn (36 * z + i9)) (9 * z + i9 / 4) σ) ta lp lr) := by
  refine CM.of (by decide) (Nat.le_of_ble_eq_true rfl) ?_
  intro p e s m below meth c ls H locs C hl hP hD hS
  cases ef : findS (uR fn z) (kR fn z) (sd y9) key with
  | none =>
    refine lv_aload_n C.1 C.2.1 dX3_remove_0 rfl (lv_at hl 0 rfl) ?_
    refine va_get (ci := 3) (C := RX3) (T := TX3) (N := 10) C.1 C.2.1 C.2.2.2.2.2.1 ui_X3 C.2.2.2.2.1 C.2.2.2.2.2.2.2.1 hP 0 (rfl) rfl 1 (by decide) (C.2.2.2.2.2.1 _ tw_62) (fun _ h9 => h9) rfl dX3_remove_1 ?_
    refine lv_aload_n C.1 C.2.1 dX3_remove_4 rfl (lv_at hl 0 rfl) ?_
    refine lv_aload_n C.1 C.2.1 dX3_remove_5 rfl (lv_at hl 0 rfl) ?_
    refine va_get (ci := 3) (C := RX3) (T := TX3) (N := 10) C.1 C.2.1 C.2.2.2.2.2.1 ui_X3 C.2.2.2.2.1 C.2.2.2.2.2.2.2.1 hP 0 (rfl) rfl 1 (by decide) (C.2.2.2.2.2.1 _ tw_62) (fun _ h9 => h9) rfl dX3_remove_6 ?_
    refine cm_cV1 (q0 := 0) 1 C (k_X3_seedInUse l D cI cZ cJ (cw ad cI X sd fn ft fm σ ta lp lr) (qO := 0) rfl (qS := 1) rfl (qI := 2) (qA := 3) rfl rfl y9 hy0 hy) tw_96 tw_98 ts_0 tw_1 tw_99 rfl rfl (rfl) rfl (by decide +kernel) ⟨Nat.le_of_ble_eq_true rfl, Nat.le_of_ble_eq_true rfl⟩ ⟨Nat.zero_le _, Nat.zero_le _⟩ hP hD hS hl.1 rfl rfl (Nat.le_of_ble_eq_true rfl) dX3_remove_9 (fun H locs hP hD hS => ?_)
    refine lv_iload_n C.1 C.2.1 dX3_remove_12 rfl (lv_at hl 1 rfl) ?_
    refine cm_cS1 3 C (k_X3_find l D cI cZ cJ (cw ad cI X sd fn ft fm σ ta lp lr) (qI := 2) (qA := 3) rfl rfl z hz0 hz (sd y9) key) tw_111 tw_112 tw_1 tw_113 rfl rfl (by decide +kernel) ⟨Nat.le_of_ble_eq_true rfl, Nat.le_of_ble_eq_true rfl⟩ ⟨Nat.zero_le _, Nat.zero_le _⟩ hP hD hS hl.1 rfl rfl (Nat.le_of_ble_eq_true rfl) dX3_remove_13 (fun H locs hP hD hS => ?_)
    rw [ef, optA_none]
    refine lv_istore_n (lv' := [(2, _), (0, _), (1, _)]) C.1 C.2.1 dX3_remove_16 rfl hl (by decide) rfl (fun ls hl => ?_)
    refine lv_iload_n C.1 C.2.1 dX3_remove_17 rfl (lv_at hl 0 rfl) ?_
    refine lv_iconst (v := (-1)) C.1 C.2.1 dX3_remove_18 (by decide +kernel) ?_
    refine lv_icmp_ne (tgt := 24) C.1 C.2.1 dX3_remove_19 (by decide) (fun h => absurd (rfl) h) (fun _ => ?_)
    refine lv_iconst (v := nI 0) C.1 C.2.1 dX3_remove_22 (by decide +kernel) ?_
    exact cm_zret C hP hD hS dX3_remove_23 (by decide +kernel) (rfl) (rfl)
  | some i9 =>
    have q3 := (findS_lt ef).1
    refine lv_aload_n C.1 C.2.1 dX3_remove_0 rfl (lv_at hl 0 rfl) ?_
    refine va_get (ci := 3) (C := RX3) (T := TX3) (N := 10) C.1 C.2.1 C.2.2.2.2.2.1 ui_X3 C.2.2.2.2.1 C.2.2.2.2.2.2.2.1 hP 0 (rfl) rfl 1 (by decide) (C.2.2.2.2.2.1 _ tw_62) (fun _ h9 => h9) rfl dX3_remove_1 ?_
    refine lv_aload_n C.1 C.2.1 dX3_remove_4 rfl (lv_at hl 0 rfl) ?_
    refine lv_aload_n C.1 C.2.1 dX3_remove_5 rfl (lv_at hl 0 rfl) ?_
    refine va_get (ci := 3) (C := RX3) (T := TX3) (N := 10) C.1 C.2.1 C.2.2.2.2.2.1 ui_X3 C.2.2.2.2.1 C.2.2.2.2.2.2.2.1 hP 0 (rfl) rfl 1 (by decide) (C.2.2.2.2.2.1 _ tw_62) (fun _ h9 => h9) rfl dX3_remove_6 ?_
    refine cm_cV1 (q0 := 0) 1 C (k_X3_seedInUse l D cI cZ cJ (cw ad cI X sd fn ft fm σ ta lp lr) (qO := 0) rfl (qS := 1) rfl (qI := 2) (qA := 3) rfl rfl y9 hy0 hy) tw_96 tw_98 ts_0 tw_1 tw_99 rfl rfl (rfl) rfl (by decide +kernel) ⟨Nat.le_of_ble_eq_true rfl, Nat.le_of_ble_eq_true rfl⟩ ⟨Nat.zero_le _, Nat.zero_le _⟩ hP hD hS hl.1 rfl rfl (Nat.le_of_ble_eq_true rfl) dX3_remove_9 (fun H locs hP hD hS => ?_)
    refine lv_iload_n C.1 C.2.1 dX3_remove_12 rfl (lv_at hl 1 rfl) ?_
    refine cm_cS1 3 C (k_X3_find l D cI cZ cJ (cw ad cI X sd fn ft fm σ ta lp lr) (qI := 2) (qA := 3) rfl rfl z hz0 hz (sd y9) key) tw_111 tw_112 tw_1 tw_113 rfl rfl (by decide +kernel) ⟨Nat.le_of_ble_eq_true rfl, Nat.le_of_ble_eq_true rfl⟩ ⟨Nat.zero_le _, Nat.zero_le _⟩ hP hD hS hl.1 rfl rfl (Nat.le_of_ble_eq_true rfl) dX3_remove_13 (fun H locs hP hD hS => ?_)
    rw [ef, optA_some]
    refine lv_istore_n (lv' := [(2, _), (0, _), (1, _)]) C.1 C.2.1 dX3_remove_16 rfl hl (by decide) rfl (fun ls hl => ?_)
    refine lv_iload_n C.1 C.2.1 dX3_remove_17 rfl (lv_at hl 0 rfl) ?_
    refine lv_iconst (v := (-1)) C.1 C.2.1 dX3_remove_18 (by decide +kernel) ?_
    refine lv_icmp_ne (tgt := 24) C.1 C.2.1 dX3_remove_19 (by decide) (fun _ => ?_) (fun h => absurd h (nI_m1 (by omega)))
    refine lv_aload_n C.1 C.2.1 dX3_remove_24 rfl (lv_at hl 1 rfl) ?_
    refine va_get (ci := 3) (C := RX3) (T := TX3) (N := 10) C.1 C.2.1 C.2.2.2.2.2.1 ui_X3 C.2.2.2.2.1 C.2.2.2.2.2.2.2.1 hP 0 (rfl) rfl 1 (by decide) (C.2.2.2.2.2.1 _ tw_62) (fun _ h9 => h9) rfl dX3_remove_25 ?_
    refine lv_iload_n C.1 C.2.1 dX3_remove_28 rfl (lv_at hl 0 rfl) ?_
    refine cm_cV0 (q0 := 2) 1 C (k_X0_empty l D cI cZ cJ (cw ad cI X sd fn ft fm σ ta lp lr) (qI := 2) (qA := 3) rfl rfl (36 * z + i9) (by omega)) tw_295 tw_296 tw_297 tw_2 tw_298 rfl rfl (rfl) rfl (by decide +kernel) ⟨Nat.le_of_ble_eq_true rfl, Nat.le_of_ble_eq_true rfl⟩ ⟨Nat.zero_le _, Nat.zero_le _⟩ hP hD hS hl.1 rfl rfl (Nat.le_of_ble_eq_true rfl) dX3_remove_29 (fun H locs hP hD hS => ?_)
    have hP : va_P D vwCl (cw ad cI X sd (emptyC fn (36 * z + i9)) ft fm σ ta lp lr) H := hP
    have hD : va_D (cm_A (cw ad cI X sd fn ft fm σ ta lp lr)) (cw ad cI X sd (emptyC fn (36 * z + i9)) ft fm σ ta lp lr) := hD
    refine lv_aload_n C.1 C.2.1 dX3_remove_32 rfl (lv_at hl 1 rfl) ?_
    refine lv_iload_n C.1 C.2.1 dX3_remove_33 rfl (lv_at hl 0 rfl) ?_
    refine cm_cS1 1 C (c_rowOf l D cI cZ cJ (cw ad cI X sd (emptyC fn (36 * z + i9)) ft fm σ ta lp lr) (36 * z + i9) (by omega)) tw_278 tw_179 tw_1 tw_180 rfl rfl (by decide +kernel) ⟨Nat.le_of_ble_eq_true rfl, Nat.le_of_ble_eq_true rfl⟩ ⟨Nat.zero_le _, Nat.zero_le _⟩ hP hD hS hl.1 rfl rfl (Nat.le_of_ble_eq_true rfl) dX3_remove_34 (fun H locs hP hD hS => ?_)
    rw [show (36 * z + i9) / 4 = 9 * z + i9 / 4 by omega]
    refine cm_cV0 (q0 := 0) 1 C (k_X3_write l D cI cZ cJ ad X sd (emptyC fn (36 * z + i9)) ft fm σ ta lp lr (hσ) (9 * z + i9 / 4) (by omega)) tw_244 tw_246 ts_6 tw_1 tw_247 rfl rfl (rfl) rfl (by decide +kernel) ⟨Nat.le_of_ble_eq_true rfl, Nat.le_of_ble_eq_true rfl⟩ ⟨Nat.zero_le _, Nat.zero_le _⟩ hP hD hS hl.1 rfl rfl (Nat.le_of_ble_eq_true rfl) dX3_remove_37 (fun H locs hP hD hS => ?_)
    refine lv_iconst (v := nI 1) C.1 C.2.1 dX3_remove_40 (by decide +kernel) ?_
    exact cm_zret C hP hD hS dX3_remove_41 (by decide +kernel) (rfl) (rfl)
set_option maxHeartbeats 4000000 in
set_option maxRecDepth 100000 in
/-- home -/
theorem k_X3_home1 (l : Launch) (D : va_G) (cI cZ cJ : ClassId) (ad : Nat → Nat) (X : va_W) (sd fn ft fm : Nat → Int32) (σ : WS) (ta lp lr : Int32) (z y9 : Nat) (hz0 : z < 2) (hy0 : y9 < 4) (hz : fn 396 = nI z) (hy : fn 397 = nI y9) (key : Int32) : CM l D (cm_T cI cZ cJ) yX3_home cX3_home 3 (some .int) (cm_rm 3 65) [.ref (ad 0), .int key, .int (nI 0)] (cw ad cI X sd fn ft fm σ ta lp lr) (some (.int (nI (hm1 (sd y9) key)))) (cw ad cI X sd fn ft fm σ ta lp lr) := by
  refine CM.of (by decide) (Nat.le_of_ble_eq_true rfl) ?_
  intro p e s m below meth c ls H locs C hl hP hD hS
  refine lv_aload_n C.1 C.2.1 dX3_home_0 rfl (lv_at hl 0 rfl) ?_
  refine lv_aload_n C.1 C.2.1 dX3_home_1 rfl (lv_at hl 0 rfl) ?_
  refine va_get (ci := 3) (C := RX3) (T := TX3) (N := 10) C.1 C.2.1 C.2.2.2.2.2.1 ui_X3 C.2.2.2.2.1 C.2.2.2.2.2.2.2.1 hP 0 (rfl) rfl 1 (by decide) (C.2.2.2.2.2.1 _ tw_62) (fun _ h9 => h9) rfl dX3_home_2 ?_
  refine cm_cV1 (q0 := 0) 1 C (k_X3_seedInUse l D cI cZ cJ (cw ad cI X sd fn ft fm σ ta lp lr) (qO := 0) rfl (qS := 1) rfl (qI := 2) (qA := 3) rfl rfl y9 hy0 hy) tw_96 tw_98 ts_0 tw_1 tw_99 rfl rfl (rfl) rfl (by decide +kernel) ⟨Nat.le_of_ble_eq_true rfl, Nat.le_of_ble_eq_true rfl⟩ ⟨Nat.zero_le _, Nat.zero_le _⟩ hP hD hS hl.1 rfl rfl (Nat.le_of_ble_eq_true rfl) dX3_home_5 (fun H locs hP hD hS => ?_)
  refine lv_iload_n C.1 C.2.1 dX3_home_8 rfl (lv_at hl 1 rfl) ?_
  refine lv_iload_n C.1 C.2.1 dX3_home_9 rfl (lv_at hl 2 rfl) ?_
  refine cm_cS1 3 C (c_homeBy1 l D cI cZ cJ (cw ad cI X sd fn ft fm σ ta lp lr) (sd y9) key) tw_114 tw_115 tw_1 tw_116 rfl rfl (by decide +kernel) ⟨Nat.le_of_ble_eq_true rfl, Nat.le_of_ble_eq_true rfl⟩ ⟨Nat.zero_le _, Nat.zero_le _⟩ hP hD hS hl.1 rfl rfl (Nat.le_of_ble_eq_true rfl) dX3_home_10 (fun H locs hP hD hS => ?_)
  exact cm_iret C hP hD hS dX3_home_13 rfl rfl
set_option maxHeartbeats 4000000 in
set_option maxRecDepth 100000 in
/-- home -/
theorem k_X3_home2 (l : Launch) (D : va_G) (cI cZ cJ : ClassId) (ad : Nat → Nat) (X : va_W) (sd fn ft fm : Nat → Int32) (σ : WS) (ta lp lr : Int32) (z y9 : Nat) (hz0 : z < 2) (hy0 : y9 < 4) (hz : fn 396 = nI z) (hy : fn 397 = nI y9) (key : Int32) : CM l D (cm_T cI cZ cJ) yX3_home cX3_home 3 (some .int) (cm_rm 3 65) [.ref (ad 0), .int key, .int (nI 1)] (cw ad cI X sd fn ft fm σ ta lp lr) (some (.int (nI (hm2 (sd y9) key)))) (cw ad cI X sd fn ft fm σ ta lp lr) := by
  refine CM.of (by decide) (Nat.le_of_ble_eq_true rfl) ?_
  intro p e s m below meth c ls H locs C hl hP hD hS
  refine lv_aload_n C.1 C.2.1 dX3_home_0 rfl (lv_at hl 0 rfl) ?_
  refine lv_aload_n C.1 C.2.1 dX3_home_1 rfl (lv_at hl 0 rfl) ?_
  refine va_get (ci := 3) (C := RX3) (T := TX3) (N := 10) C.1 C.2.1 C.2.2.2.2.2.1 ui_X3 C.2.2.2.2.1 C.2.2.2.2.2.2.2.1 hP 0 (rfl) rfl 1 (by decide) (C.2.2.2.2.2.1 _ tw_62) (fun _ h9 => h9) rfl dX3_home_2 ?_
  refine cm_cV1 (q0 := 0) 1 C (k_X3_seedInUse l D cI cZ cJ (cw ad cI X sd fn ft fm σ ta lp lr) (qO := 0) rfl (qS := 1) rfl (qI := 2) (qA := 3) rfl rfl y9 hy0 hy) tw_96 tw_98 ts_0 tw_1 tw_99 rfl rfl (rfl) rfl (by decide +kernel) ⟨Nat.le_of_ble_eq_true rfl, Nat.le_of_ble_eq_true rfl⟩ ⟨Nat.zero_le _, Nat.zero_le _⟩ hP hD hS hl.1 rfl rfl (Nat.le_of_ble_eq_true rfl) dX3_home_5 (fun H locs hP hD hS => ?_)
  refine lv_iload_n C.1 C.2.1 dX3_home_8 rfl (lv_at hl 1 rfl) ?_
  refine lv_iload_n C.1 C.2.1 dX3_home_9 rfl (lv_at hl 2 rfl) ?_
  refine cm_cS1 3 C (c_homeBy2 l D cI cZ cJ (cw ad cI X sd fn ft fm σ ta lp lr) (sd y9) key) tw_114 tw_115 tw_1 tw_116 rfl rfl (by decide +kernel) ⟨Nat.le_of_ble_eq_true rfl, Nat.le_of_ble_eq_true rfl⟩ ⟨Nat.zero_le _, Nat.zero_le _⟩ hP hD hS hl.1 rfl rfl (Nat.le_of_ble_eq_true rfl) dX3_home_10 (fun H locs hP hD hS => ?_)
  exact cm_iret C hP hD hS dX3_home_13 rfl rfl
set_option maxHeartbeats 4000000 in
set_option maxRecDepth 100000 in
/-- reads -/
theorem k_X3_reads (l : Launch) (D : va_G) (cI cZ cJ : ClassId) (ad : Nat → Nat) (X : va_W) (sd fn ft fm : Nat → Int32) (σ : WS) (ta lp lr : Int32) (z y9 : Nat) (hz0 : z < 2) (hy0 : y9 < 4) (hz : fn 396 = nI z) (hy : fn 397 = nI y9) (key : Int32) : CM l D (cm_T cI cZ cJ) yX3_reads cX3_reads 3 (some .int) (cm_rm 4 87) [.ref (ad 0), .int key] (cw ad cI X sd fn ft fm σ ta lp lr) (some (.int (rdS (uR fn z) (kR fn z) (sd y9) key))) (cw ad cI X sd fn ft fm σ ta lp lr) := by
  refine CM.of (by decide) (Nat.le_of_ble_eq_true rfl) ?_
  intro p e s m below meth c ls H locs C hl hP hD hS
  have q1 := hm1_lt (sd y9) key
  cases ef : findS (uR fn z) (kR fn z) (sd y9) key with
  | none =>
    refine lv_aload_n C.1 C.2.1 dX3_reads_0 rfl (lv_at hl 0 rfl) ?_
    refine va_get (ci := 3) (C := RX3) (T := TX3) (N := 10) C.1 C.2.1 C.2.2.2.2.2.1 ui_X3 C.2.2.2.2.1 C.2.2.2.2.2.2.2.1 hP 0 (rfl) rfl 1 (by decide) (C.2.2.2.2.2.1 _ tw_62) (fun _ h9 => h9) rfl dX3_reads_1 ?_
    refine lv_aload_n C.1 C.2.1 dX3_reads_4 rfl (lv_at hl 0 rfl) ?_
    refine lv_aload_n C.1 C.2.1 dX3_reads_5 rfl (lv_at hl 0 rfl) ?_
    refine va_get (ci := 3) (C := RX3) (T := TX3) (N := 10) C.1 C.2.1 C.2.2.2.2.2.1 ui_X3 C.2.2.2.2.1 C.2.2.2.2.2.2.2.1 hP 0 (rfl) rfl 1 (by decide) (C.2.2.2.2.2.1 _ tw_62) (fun _ h9 => h9) rfl dX3_reads_6 ?_
    refine cm_cV1 (q0 := 0) 1 C (k_X3_seedInUse l D cI cZ cJ (cw ad cI X sd fn ft fm σ ta lp lr) (qO := 0) rfl (qS := 1) rfl (qI := 2) (qA := 3) rfl rfl y9 hy0 hy) tw_96 tw_98 ts_0 tw_1 tw_99 rfl rfl (rfl) rfl (by decide +kernel) ⟨Nat.le_of_ble_eq_true rfl, Nat.le_of_ble_eq_true rfl⟩ ⟨Nat.zero_le _, Nat.zero_le _⟩ hP hD hS hl.1 rfl rfl (Nat.le_of_ble_eq_true rfl) dX3_reads_9 (fun H locs hP hD hS => ?_)
    refine lv_iload_n C.1 C.2.1 dX3_reads_12 rfl (lv_at hl 1 rfl) ?_
    refine cm_cS1 3 C (k_X3_find l D cI cZ cJ (cw ad cI X sd fn ft fm σ ta lp lr) (qI := 2) (qA := 3) rfl rfl z hz0 hz (sd y9) key) tw_111 tw_112 tw_1 tw_113 rfl rfl (by decide +kernel) ⟨Nat.le_of_ble_eq_true rfl, Nat.le_of_ble_eq_true rfl⟩ ⟨Nat.zero_le _, Nat.zero_le _⟩ hP hD hS hl.1 rfl rfl (Nat.le_of_ble_eq_true rfl) dX3_reads_13 (fun H locs hP hD hS => ?_)
    rw [ef, optA_none]
    refine lv_istore_n (lv' := [(2, _), (0, _), (1, _)]) C.1 C.2.1 dX3_reads_16 rfl hl (by decide) rfl (fun ls hl => ?_)
    refine lv_iload_n C.1 C.2.1 dX3_reads_17 rfl (lv_at hl 0 rfl) ?_
    refine lv_iconst (v := (-1)) C.1 C.2.1 dX3_reads_18 (by decide +kernel) ?_
    refine lv_icmp_eq (tgt := 38) C.1 C.2.1 dX3_reads_19 (by decide) (fun _ => ?_) (fun h => absurd (rfl) h)
    refine lv_iconst (v := nI 3) C.1 C.2.1 dX3_reads_38 (by decide +kernel) ?_
    exact cm_iret C hP hD hS dX3_reads_39 (by unfold rdS; rw [ef]) rfl
  | some i9 =>
    have q3 := (findS_lt ef).1
    by_cases h8 : i9 / 4 = 8
    · refine lv_aload_n C.1 C.2.1 dX3_reads_0 rfl (lv_at hl 0 rfl) ?_
      refine va_get (ci := 3) (C := RX3) (T := TX3) (N := 10) C.1 C.2.1 C.2.2.2.2.2.1 ui_X3 C.2.2.2.2.1 C.2.2.2.2.2.2.2.1 hP 0 (rfl) rfl 1 (by decide) (C.2.2.2.2.2.1 _ tw_62) (fun _ h9 => h9) rfl dX3_reads_1 ?_
      refine lv_aload_n C.1 C.2.1 dX3_reads_4 rfl (lv_at hl 0 rfl) ?_
      refine lv_aload_n C.1 C.2.1 dX3_reads_5 rfl (lv_at hl 0 rfl) ?_
      refine va_get (ci := 3) (C := RX3) (T := TX3) (N := 10) C.1 C.2.1 C.2.2.2.2.2.1 ui_X3 C.2.2.2.2.1 C.2.2.2.2.2.2.2.1 hP 0 (rfl) rfl 1 (by decide) (C.2.2.2.2.2.1 _ tw_62) (fun _ h9 => h9) rfl dX3_reads_6 ?_
      refine cm_cV1 (q0 := 0) 1 C (k_X3_seedInUse l D cI cZ cJ (cw ad cI X sd fn ft fm σ ta lp lr) (qO := 0) rfl (qS := 1) rfl (qI := 2) (qA := 3) rfl rfl y9 hy0 hy) tw_96 tw_98 ts_0 tw_1 tw_99 rfl rfl (rfl) rfl (by decide +kernel) ⟨Nat.le_of_ble_eq_true rfl, Nat.le_of_ble_eq_true rfl⟩ ⟨Nat.zero_le _, Nat.zero_le _⟩ hP hD hS hl.1 rfl rfl (Nat.le_of_ble_eq_true rfl) dX3_reads_9 (fun H locs hP hD hS => ?_)
      refine lv_iload_n C.1 C.2.1 dX3_reads_12 rfl (lv_at hl 1 rfl) ?_
      refine cm_cS1 3 C (k_X3_find l D cI cZ cJ (cw ad cI X sd fn ft fm σ ta lp lr) (qI := 2) (qA := 3) rfl rfl z hz0 hz (sd y9) key) tw_111 tw_112 tw_1 tw_113 rfl rfl (by decide +kernel) ⟨Nat.le_of_ble_eq_true rfl, Nat.le_of_ble_eq_true rfl⟩ ⟨Nat.zero_le _, Nat.zero_le _⟩ hP hD hS hl.1 rfl rfl (Nat.le_of_ble_eq_true rfl) dX3_reads_13 (fun H locs hP hD hS => ?_)
      rw [ef, optA_some]
      refine lv_istore_n (lv' := [(2, _), (0, _), (1, _)]) C.1 C.2.1 dX3_reads_16 rfl hl (by decide) rfl (fun ls hl => ?_)
      refine lv_iload_n C.1 C.2.1 dX3_reads_17 rfl (lv_at hl 0 rfl) ?_
      refine lv_iconst (v := (-1)) C.1 C.2.1 dX3_reads_18 (by decide +kernel) ?_
      refine lv_icmp_eq (tgt := 38) C.1 C.2.1 dX3_reads_19 (by decide) (fun h => absurd h (nI_m1 (by omega))) (fun _ => ?_)
      refine lv_iload_n C.1 C.2.1 dX3_reads_22 rfl (lv_at hl 0 rfl) ?_
      refine cm_cS1 1 C (c_rowOf l D cI cZ cJ (cw ad cI X sd fn ft fm σ ta lp lr) (36 * z + i9) (by omega)) tw_278 tw_179 tw_1 tw_180 rfl rfl (by decide +kernel) ⟨Nat.le_of_ble_eq_true rfl, Nat.le_of_ble_eq_true rfl⟩ ⟨Nat.zero_le _, Nat.zero_le _⟩ hP hD hS hl.1 rfl rfl (Nat.le_of_ble_eq_true rfl) dX3_reads_23 (fun H locs hP hD hS => ?_)
      refine lv_aload_n C.1 C.2.1 dX3_reads_26 rfl (lv_at hl 1 rfl) ?_
      refine va_get (ci := 3) (C := RX3) (T := TX3) (N := 10) C.1 C.2.1 C.2.2.2.2.2.1 ui_X3 C.2.2.2.2.1 C.2.2.2.2.2.2.2.1 hP 0 (rfl) rfl 1 (by decide) (C.2.2.2.2.2.1 _ tw_62) (fun _ h9 => h9) rfl dX3_reads_27 ?_
      refine lv_bipush (v := nI 8) C.1 C.2.1 dX3_reads_30 (by decide +kernel) ?_
      refine cm_cV1 (q0 := 2) 1 C (k_X0_rowInUse l D cI cZ cJ (cw ad cI X sd fn ft fm σ ta lp lr) (qI := 2) (qA := 3) rfl rfl z (8) hz) tw_120 tw_121 tw_122 tw_2 tw_123 rfl rfl (rfl) rfl (by decide +kernel) ⟨Nat.le_of_ble_eq_true rfl, Nat.le_of_ble_eq_true rfl⟩ ⟨Nat.zero_le _, Nat.zero_le _⟩ hP hD hS hl.1 rfl rfl (Nat.le_of_ble_eq_true rfl) dX3_reads_32 (fun H locs hP hD hS => ?_)
      refine lv_icmp_ne (tgt := 40) C.1 C.2.1 dX3_reads_35 (by decide) (fun h => absurd (by rw [show (36 * z + i9) / 4 = z * 9 + 8 by omega]) h) (fun _ => ?_)
      refine lv_iconst (v := nI 3) C.1 C.2.1 dX3_reads_38 (by decide +kernel) ?_
      exact cm_iret C hP hD hS dX3_reads_39 (by unfold rdS; rw [ef]; exact (if_pos h8).symm) rfl
    · by_cases h1 : i9 / 4 = hm1 (sd y9) key
      · refine lv_aload_n C.1 C.2.1 dX3_reads_0 rfl (lv_at hl 0 rfl) ?_
        refine va_get (ci := 3) (C := RX3) (T := TX3) (N := 10) C.1 C.2.1 C.2.2.2.2.2.1 ui_X3 C.2.2.2.2.1 C.2.2.2.2.2.2.2.1 hP 0 (rfl) rfl 1 (by decide) (C.2.2.2.2.2.1 _ tw_62) (fun _ h9 => h9) rfl dX3_reads_1 ?_
        refine lv_aload_n C.1 C.2.1 dX3_reads_4 rfl (lv_at hl 0 rfl) ?_
        refine lv_aload_n C.1 C.2.1 dX3_reads_5 rfl (lv_at hl 0 rfl) ?_
        refine va_get (ci := 3) (C := RX3) (T := TX3) (N := 10) C.1 C.2.1 C.2.2.2.2.2.1 ui_X3 C.2.2.2.2.1 C.2.2.2.2.2.2.2.1 hP 0 (rfl) rfl 1 (by decide) (C.2.2.2.2.2.1 _ tw_62) (fun _ h9 => h9) rfl dX3_reads_6 ?_
        refine cm_cV1 (q0 := 0) 1 C (k_X3_seedInUse l D cI cZ cJ (cw ad cI X sd fn ft fm σ ta lp lr) (qO := 0) rfl (qS := 1) rfl (qI := 2) (qA := 3) rfl rfl y9 hy0 hy) tw_96 tw_98 ts_0 tw_1 tw_99 rfl rfl (rfl) rfl (by decide +kernel) ⟨Nat.le_of_ble_eq_true rfl, Nat.le_of_ble_eq_true rfl⟩ ⟨Nat.zero_le _, Nat.zero_le _⟩ hP hD hS hl.1 rfl rfl (Nat.le_of_ble_eq_true rfl) dX3_reads_9 (fun H locs hP hD hS => ?_)
        refine lv_iload_n C.1 C.2.1 dX3_reads_12 rfl (lv_at hl 1 rfl) ?_
        refine cm_cS1 3 C (k_X3_find l D cI cZ cJ (cw ad cI X sd fn ft fm σ ta lp lr) (qI := 2) (qA := 3) rfl rfl z hz0 hz (sd y9) key) tw_111 tw_112 tw_1 tw_113 rfl rfl (by decide +kernel) ⟨Nat.le_of_ble_eq_true rfl, Nat.le_of_ble_eq_true rfl⟩ ⟨Nat.zero_le _, Nat.zero_le _⟩ hP hD hS hl.1 rfl rfl (Nat.le_of_ble_eq_true rfl) dX3_reads_13 (fun H locs hP hD hS => ?_)
        rw [ef, optA_some]
        refine lv_istore_n (lv' := [(2, _), (0, _), (1, _)]) C.1 C.2.1 dX3_reads_16 rfl hl (by decide) rfl (fun ls hl => ?_)
        refine lv_iload_n C.1 C.2.1 dX3_reads_17 rfl (lv_at hl 0 rfl) ?_
        refine lv_iconst (v := (-1)) C.1 C.2.1 dX3_reads_18 (by decide +kernel) ?_
        refine lv_icmp_eq (tgt := 38) C.1 C.2.1 dX3_reads_19 (by decide) (fun h => absurd h (nI_m1 (by omega))) (fun _ => ?_)
        refine lv_iload_n C.1 C.2.1 dX3_reads_22 rfl (lv_at hl 0 rfl) ?_
        refine cm_cS1 1 C (c_rowOf l D cI cZ cJ (cw ad cI X sd fn ft fm σ ta lp lr) (36 * z + i9) (by omega)) tw_278 tw_179 tw_1 tw_180 rfl rfl (by decide +kernel) ⟨Nat.le_of_ble_eq_true rfl, Nat.le_of_ble_eq_true rfl⟩ ⟨Nat.zero_le _, Nat.zero_le _⟩ hP hD hS hl.1 rfl rfl (Nat.le_of_ble_eq_true rfl) dX3_reads_23 (fun H locs hP hD hS => ?_)
        refine lv_aload_n C.1 C.2.1 dX3_reads_26 rfl (lv_at hl 1 rfl) ?_
        refine va_get (ci := 3) (C := RX3) (T := TX3) (N := 10) C.1 C.2.1 C.2.2.2.2.2.1 ui_X3 C.2.2.2.2.1 C.2.2.2.2.2.2.2.1 hP 0 (rfl) rfl 1 (by decide) (C.2.2.2.2.2.1 _ tw_62) (fun _ h9 => h9) rfl dX3_reads_27 ?_
        refine lv_bipush (v := nI 8) C.1 C.2.1 dX3_reads_30 (by decide +kernel) ?_
        refine cm_cV1 (q0 := 2) 1 C (k_X0_rowInUse l D cI cZ cJ (cw ad cI X sd fn ft fm σ ta lp lr) (qI := 2) (qA := 3) rfl rfl z (8) hz) tw_120 tw_121 tw_122 tw_2 tw_123 rfl rfl (rfl) rfl (by decide +kernel) ⟨Nat.le_of_ble_eq_true rfl, Nat.le_of_ble_eq_true rfl⟩ ⟨Nat.zero_le _, Nat.zero_le _⟩ hP hD hS hl.1 rfl rfl (Nat.le_of_ble_eq_true rfl) dX3_reads_32 (fun H locs hP hD hS => ?_)
        refine lv_icmp_ne (tgt := 40) C.1 C.2.1 dX3_reads_35 (by decide) (fun _ => ?_) (fun h => absurd h (fun q => by have := (nI_eq (by omega) (by omega)).mp q; omega))
        refine lv_iload_n C.1 C.2.1 dX3_reads_40 rfl (lv_at hl 0 rfl) ?_
        refine cm_cS1 1 C (c_rowOf l D cI cZ cJ (cw ad cI X sd fn ft fm σ ta lp lr) (36 * z + i9) (by omega)) tw_278 tw_179 tw_1 tw_180 rfl rfl (by decide +kernel) ⟨Nat.le_of_ble_eq_true rfl, Nat.le_of_ble_eq_true rfl⟩ ⟨Nat.zero_le _, Nat.zero_le _⟩ hP hD hS hl.1 rfl rfl (Nat.le_of_ble_eq_true rfl) dX3_reads_41 (fun H locs hP hD hS => ?_)
        refine lv_aload_n C.1 C.2.1 dX3_reads_44 rfl (lv_at hl 1 rfl) ?_
        refine va_get (ci := 3) (C := RX3) (T := TX3) (N := 10) C.1 C.2.1 C.2.2.2.2.2.1 ui_X3 C.2.2.2.2.1 C.2.2.2.2.2.2.2.1 hP 0 (rfl) rfl 1 (by decide) (C.2.2.2.2.2.1 _ tw_62) (fun _ h9 => h9) rfl dX3_reads_45 ?_
        refine lv_aload_n C.1 C.2.1 dX3_reads_48 rfl (lv_at hl 1 rfl) ?_
        refine lv_iload_n C.1 C.2.1 dX3_reads_49 rfl (lv_at hl 2 rfl) ?_
        refine lv_iconst (v := nI 0) C.1 C.2.1 dX3_reads_50 (by decide +kernel) ?_
        refine cm_cV1 (q0 := 0) 2 C (k_X3_home1 l D cI cZ cJ ad X sd fn ft fm σ ta lp lr z y9 hz0 hy0 hz hy key) tw_311 tw_304 tw_305 tw_1 tw_306 rfl rfl (rfl) rfl (by decide +kernel) ⟨Nat.le_of_ble_eq_true rfl, Nat.le_of_ble_eq_true rfl⟩ ⟨Nat.zero_le _, Nat.zero_le _⟩ hP hD hS hl.1 rfl rfl (Nat.le_of_ble_eq_true rfl) dX3_reads_51 (fun H locs hP hD hS => ?_)
        refine cm_cV1 (q0 := 2) 1 C (k_X0_rowInUse l D cI cZ cJ (cw ad cI X sd fn ft fm σ ta lp lr) (qI := 2) (qA := 3) rfl rfl z (hm1 (sd y9) key) hz) tw_120 tw_121 tw_122 tw_2 tw_123 rfl rfl (rfl) rfl (by decide +kernel) ⟨Nat.le_of_ble_eq_true rfl, Nat.le_of_ble_eq_true rfl⟩ ⟨Nat.zero_le _, Nat.zero_le _⟩ hP hD hS hl.1 rfl rfl (Nat.le_of_ble_eq_true rfl) dX3_reads_54 (fun H locs hP hD hS => ?_)
        refine lv_icmp_ne (tgt := 64) C.1 C.2.1 dX3_reads_57 (by decide) (fun h => absurd (by rw [show (36 * z + i9) / 4 = z * 9 + hm1 (sd y9) key by omega]) h) (fun _ => ?_)
        refine lv_iconst (v := nI 1) C.1 C.2.1 dX3_reads_60 (by decide +kernel) ?_
        refine lv_goto (tgt := 65) C.1 C.2.1 dX3_reads_61 (by decide) ?_
        exact cm_iret C hP hD hS dX3_reads_65 (by unfold rdS; rw [ef]; simp only [if_neg h8, if_pos h1]) rfl
      · refine lv_aload_n C.1 C.2.1 dX3_reads_0 rfl (lv_at hl 0 rfl) ?_
        refine va_get (ci := 3) (C := RX3) (T := TX3) (N := 10) C.1 C.2.1 C.2.2.2.2.2.1 ui_X3 C.2.2.2.2.1 C.2.2.2.2.2.2.2.1 hP 0 (rfl) rfl 1 (by decide) (C.2.2.2.2.2.1 _ tw_62) (fun _ h9 => h9) rfl dX3_reads_1 ?_
        refine lv_aload_n C.1 C.2.1 dX3_reads_4 rfl (lv_at hl 0 rfl) ?_
        refine lv_aload_n C.1 C.2.1 dX3_reads_5 rfl (lv_at hl 0 rfl) ?_
        refine va_get (ci := 3) (C := RX3) (T := TX3) (N := 10) C.1 C.2.1 C.2.2.2.2.2.1 ui_X3 C.2.2.2.2.1 C.2.2.2.2.2.2.2.1 hP 0 (rfl) rfl 1 (by decide) (C.2.2.2.2.2.1 _ tw_62) (fun _ h9 => h9) rfl dX3_reads_6 ?_
        refine cm_cV1 (q0 := 0) 1 C (k_X3_seedInUse l D cI cZ cJ (cw ad cI X sd fn ft fm σ ta lp lr) (qO := 0) rfl (qS := 1) rfl (qI := 2) (qA := 3) rfl rfl y9 hy0 hy) tw_96 tw_98 ts_0 tw_1 tw_99 rfl rfl (rfl) rfl (by decide +kernel) ⟨Nat.le_of_ble_eq_true rfl, Nat.le_of_ble_eq_true rfl⟩ ⟨Nat.zero_le _, Nat.zero_le _⟩ hP hD hS hl.1 rfl rfl (Nat.le_of_ble_eq_true rfl) dX3_reads_9 (fun H locs hP hD hS => ?_)
        refine lv_iload_n C.1 C.2.1 dX3_reads_12 rfl (lv_at hl 1 rfl) ?_
        refine cm_cS1 3 C (k_X3_find l D cI cZ cJ (cw ad cI X sd fn ft fm σ ta lp lr) (qI := 2) (qA := 3) rfl rfl z hz0 hz (sd y9) key) tw_111 tw_112 tw_1 tw_113 rfl rfl (by decide +kernel) ⟨Nat.le_of_ble_eq_true rfl, Nat.le_of_ble_eq_true rfl⟩ ⟨Nat.zero_le _, Nat.zero_le _⟩ hP hD hS hl.1 rfl rfl (Nat.le_of_ble_eq_true rfl) dX3_reads_13 (fun H locs hP hD hS => ?_)
        rw [ef, optA_some]
        refine lv_istore_n (lv' := [(2, _), (0, _), (1, _)]) C.1 C.2.1 dX3_reads_16 rfl hl (by decide) rfl (fun ls hl => ?_)
        refine lv_iload_n C.1 C.2.1 dX3_reads_17 rfl (lv_at hl 0 rfl) ?_
        refine lv_iconst (v := (-1)) C.1 C.2.1 dX3_reads_18 (by decide +kernel) ?_
        refine lv_icmp_eq (tgt := 38) C.1 C.2.1 dX3_reads_19 (by decide) (fun h => absurd h (nI_m1 (by omega))) (fun _ => ?_)
        refine lv_iload_n C.1 C.2.1 dX3_reads_22 rfl (lv_at hl 0 rfl) ?_
        refine cm_cS1 1 C (c_rowOf l D cI cZ cJ (cw ad cI X sd fn ft fm σ ta lp lr) (36 * z + i9) (by omega)) tw_278 tw_179 tw_1 tw_180 rfl rfl (by decide +kernel) ⟨Nat.le_of_ble_eq_true rfl, Nat.le_of_ble_eq_true rfl⟩ ⟨Nat.zero_le _, Nat.zero_le _⟩ hP hD hS hl.1 rfl rfl (Nat.le_of_ble_eq_true rfl) dX3_reads_23 (fun H locs hP hD hS => ?_)
        refine lv_aload_n C.1 C.2.1 dX3_reads_26 rfl (lv_at hl 1 rfl) ?_
        refine va_get (ci := 3) (C := RX3) (T := TX3) (N := 10) C.1 C.2.1 C.2.2.2.2.2.1 ui_X3 C.2.2.2.2.1 C.2.2.2.2.2.2.2.1 hP 0 (rfl) rfl 1 (by decide) (C.2.2.2.2.2.1 _ tw_62) (fun _ h9 => h9) rfl dX3_reads_27 ?_
        refine lv_bipush (v := nI 8) C.1 C.2.1 dX3_reads_30 (by decide +kernel) ?_
        refine cm_cV1 (q0 := 2) 1 C (k_X0_rowInUse l D cI cZ cJ (cw ad cI X sd fn ft fm σ ta lp lr) (qI := 2) (qA := 3) rfl rfl z (8) hz) tw_120 tw_121 tw_122 tw_2 tw_123 rfl rfl (rfl) rfl (by decide +kernel) ⟨Nat.le_of_ble_eq_true rfl, Nat.le_of_ble_eq_true rfl⟩ ⟨Nat.zero_le _, Nat.zero_le _⟩ hP hD hS hl.1 rfl rfl (Nat.le_of_ble_eq_true rfl) dX3_reads_32 (fun H locs hP hD hS => ?_)
        refine lv_icmp_ne (tgt := 40) C.1 C.2.1 dX3_reads_35 (by decide) (fun _ => ?_) (fun h => absurd h (fun q => by have := (nI_eq (by omega) (by omega)).mp q; omega))
        refine lv_iload_n C.1 C.2.1 dX3_reads_40 rfl (lv_at hl 0 rfl) ?_
        refine cm_cS1 1 C (c_rowOf l D cI cZ cJ (cw ad cI X sd fn ft fm σ ta lp lr) (36 * z + i9) (by omega)) tw_278 tw_179 tw_1 tw_180 rfl rfl (by decide +kernel) ⟨Nat.le_of_ble_eq_true rfl, Nat.le_of_ble_eq_true rfl⟩ ⟨Nat.zero_le _, Nat.zero_le _⟩ hP hD hS hl.1 rfl rfl (Nat.le_of_ble_eq_true rfl) dX3_reads_41 (fun H locs hP hD hS => ?_)
        refine lv_aload_n C.1 C.2.1 dX3_reads_44 rfl (lv_at hl 1 rfl) ?_
        refine va_get (ci := 3) (C := RX3) (T := TX3) (N := 10) C.1 C.2.1 C.2.2.2.2.2.1 ui_X3 C.2.2.2.2.1 C.2.2.2.2.2.2.2.1 hP 0 (rfl) rfl 1 (by decide) (C.2.2.2.2.2.1 _ tw_62) (fun _ h9 => h9) rfl dX3_reads_45 ?_
        refine lv_aload_n C.1 C.2.1 dX3_reads_48 rfl (lv_at hl 1 rfl) ?_
        refine lv_iload_n C.1 C.2.1 dX3_reads_49 rfl (lv_at hl 2 rfl) ?_
        refine lv_iconst (v := nI 0) C.1 C.2.1 dX3_reads_50 (by decide +kernel) ?_
        refine cm_cV1 (q0 := 0) 2 C (k_X3_home1 l D cI cZ cJ ad X sd fn ft fm σ ta lp lr z y9 hz0 hy0 hz hy key) tw_311 tw_304 tw_305 tw_1 tw_306 rfl rfl (rfl) rfl (by decide +kernel) ⟨Nat.le_of_ble_eq_true rfl, Nat.le_of_ble_eq_true rfl⟩ ⟨Nat.zero_le _, Nat.zero_le _⟩ hP hD hS hl.1 rfl rfl (Nat.le_of_ble_eq_true rfl) dX3_reads_51 (fun H locs hP hD hS => ?_)
        refine cm_cV1 (q0 := 2) 1 C (k_X0_rowInUse l D cI cZ cJ (cw ad cI X sd fn ft fm σ ta lp lr) (qI := 2) (qA := 3) rfl rfl z (hm1 (sd y9) key) hz) tw_120 tw_121 tw_122 tw_2 tw_123 rfl rfl (rfl) rfl (by decide +kernel) ⟨Nat.le_of_ble_eq_true rfl, Nat.le_of_ble_eq_true rfl⟩ ⟨Nat.zero_le _, Nat.zero_le _⟩ hP hD hS hl.1 rfl rfl (Nat.le_of_ble_eq_true rfl) dX3_reads_54 (fun H locs hP hD hS => ?_)
        refine lv_icmp_ne (tgt := 64) C.1 C.2.1 dX3_reads_57 (by decide) (fun _ => ?_) (fun h => absurd h (fun q => by have := (nI_eq (by omega) (by omega)).mp q; omega))
        refine lv_iconst (v := nI 2) C.1 C.2.1 dX3_reads_64 (by decide +kernel) ?_
        exact cm_iret C hP hD hS dX3_reads_65 (by unfold rdS; rw [ef]; simp only [if_neg h8, if_neg h1]) rfl
set_option maxHeartbeats 4000000 in
set_option maxRecDepth 100000 in
/-- allKeys -/
theorem k_X3_allKeys (l : Launch) (D : va_G) (cI cZ cJ : ClassId) (ad : Nat → Nat) (X : va_W) (sd fn ft fm : Nat → Int32) (σ : WS) (ta lp lr : Int32) (z y9 : Nat) (hz0 : z < 2) (hy0 : y9 < 4) (hz : fn 396 = nI z) (hy : fn 397 = nI y9) : CM l D (cm_T cI cZ cJ) yX3_allKeys cX3_allKeys 3 (some .int) (cm_rm 3 64) [.ref (ad 0)] (cw ad cI X sd fn ft fm σ ta lp lr) (some (.int (nI (allN fn z 0 9)))) (cw ad cI X sd fn ft fm σ ta lp lr) := by
  refine CM.of (by decide) (Nat.le_of_ble_eq_true rfl) ?_
  intro p e s m below meth c ls H locs C hl hP hD hS
  refine lv_iconst (v := nI 0) C.1 C.2.1 dX3_allKeys_0 (by decide +kernel) ?_
  refine lv_istore_n (lv' := [(1, _), (0, _)]) C.1 C.2.1 dX3_allKeys_1 rfl hl (by decide) rfl (fun ls hl => ?_)
  refine lv_iconst (v := nI 0) C.1 C.2.1 dX3_allKeys_2 (by decide +kernel) ?_
  refine lv_istore_n (lv' := [(2, _), (1, _), (0, _)]) C.1 C.2.1 dX3_allKeys_3 rfl hl (by decide) rfl (fun ls hl => ?_)
  have loop : ∀ (k j n : Nat), j + k = 9 → ∀ (ls : Array Slot) (H : Heap) (locs : List Loc), lv_has ls 3 [(2, .int (nI j)), (1, .int (nI n)), (0, .ref (ad 0))] → va_P D vwCl (cw ad cI X sd fn ft fm σ ta lp lr) H → va_D (cm_A (cw ad cI X sd fn ft fm σ ta lp lr)) (cw ad cI X sd fn ft fm σ ta lp lr) → va_S (cm_A (cw ad cI X sd fn ft fm σ ta lp lr)) s.heap H locs → W p l e (cm_rm 3 64) s m ([.ref (ad 0)] : List Value).toArray below meth c H locs 0 0 (cm_Q below D [.ref (ad 0)] s (cw ad cI X sd fn ft fm σ ta lp lr) (some (.int (nI (n + allN fn z j k)))) (cw ad cI X sd fn ft fm σ ta lp lr)) (F0 m 4 ls []) := by
    intro k
    induction k with
    | zero =>
      intro j n hj ls H locs hl hP hD hS
      refine lv_iload_n C.1 C.2.1 dX3_allKeys_4 rfl (lv_at hl 0 rfl) ?_
      refine lv_bipush (v := nI 9) C.1 C.2.1 dX3_allKeys_5 (by decide +kernel) ?_
      refine lv_icmp_ge (tgt := 34) C.1 C.2.1 dX3_allKeys_7 (by decide) (fun _ => ?_) (fun h => absurd (nI_le (by omega) (by omega)) h)
      refine lv_iload_n C.1 C.2.1 dX3_allKeys_34 rfl (lv_at hl 1 rfl) ?_
      exact cm_iret C hP hD hS dX3_allKeys_35 rfl rfl
    | succ k ih =>
      intro j n hj ls H locs hl hP hD hS
      refine lv_iload_n C.1 C.2.1 dX3_allKeys_4 rfl (lv_at hl 0 rfl) ?_
      refine lv_bipush (v := nI 9) C.1 C.2.1 dX3_allKeys_5 (by decide +kernel) ?_
      refine lv_icmp_ge (tgt := 34) C.1 C.2.1 dX3_allKeys_7 (by decide) (fun h => absurd h (nI_ge (by omega) (by decide))) (fun _ => ?_)
      refine lv_iload_n C.1 C.2.1 dX3_allKeys_10 rfl (lv_at hl 1 rfl) ?_
      refine lv_aload_n C.1 C.2.1 dX3_allKeys_11 rfl (lv_at hl 2 rfl) ?_
      refine va_get (ci := 3) (C := RX3) (T := TX3) (N := 10) C.1 C.2.1 C.2.2.2.2.2.1 ui_X3 C.2.2.2.2.1 C.2.2.2.2.2.2.2.1 hP 0 (rfl) rfl 1 (by decide) (C.2.2.2.2.2.1 _ tw_62) (fun _ h9 => h9) rfl dX3_allKeys_12 ?_
      refine lv_aload_n C.1 C.2.1 dX3_allKeys_15 rfl (lv_at hl 2 rfl) ?_
      refine va_get (ci := 3) (C := RX3) (T := TX3) (N := 10) C.1 C.2.1 C.2.2.2.2.2.1 ui_X3 C.2.2.2.2.1 C.2.2.2.2.2.2.2.1 hP 0 (rfl) rfl 1 (by decide) (C.2.2.2.2.2.1 _ tw_62) (fun _ h9 => h9) rfl dX3_allKeys_16 ?_
      refine lv_iload_n C.1 C.2.1 dX3_allKeys_19 rfl (lv_at hl 0 rfl) ?_
      refine cm_cV1 (q0 := 2) 1 C (k_X0_rowInUse l D cI cZ cJ (cw ad cI X sd fn ft fm σ ta lp lr) (qI := 2) (qA := 3) rfl rfl z (j) hz) tw_120 tw_121 tw_122 tw_2 tw_123 rfl rfl (rfl) rfl (by decide +kernel) ⟨Nat.le_of_ble_eq_true rfl, Nat.le_of_ble_eq_true rfl⟩ ⟨Nat.zero_le _, Nat.zero_le _⟩ hP hD hS hl.1 rfl rfl (Nat.le_of_ble_eq_true rfl) dX3_allKeys_20 (fun H locs hP hD hS => ?_)
      refine cm_cV1 (q0 := 2) 1 C (k_X0_keysIn l D cI cZ cJ (cw ad cI X sd fn ft fm σ ta lp lr) (qI := 2) (qA := 3) rfl rfl (z * 9 + j) (by omega)) tw_445 tw_446 tw_447 tw_2 tw_448 rfl rfl (rfl) rfl (by decide +kernel) ⟨Nat.le_of_ble_eq_true rfl, Nat.le_of_ble_eq_true rfl⟩ ⟨Nat.zero_le _, Nat.zero_le _⟩ hP hD hS hl.1 rfl rfl (Nat.le_of_ble_eq_true rfl) dX3_allKeys_23 (fun H locs hP hD hS => ?_)
      refine lv_iadd C.1 C.2.1 dX3_allKeys_26 ?_
      rw [nI_add]
      refine lv_istore_n (lv' := [(1, _), (2, _), (0, _)]) C.1 C.2.1 dX3_allKeys_27 rfl hl (by decide) rfl (fun ls hl => ?_)
      refine lv_iinc (v := nI (j + 1)) (lv' := [(2, _), (1, _), (0, _)]) C.1 C.2.1 dX3_allKeys_28 hl (k := 1) rfl (nI_1 j) (by decide) rfl (fun ls hl => ?_)
      refine lv_goto (tgt := 4) C.1 C.2.1 dX3_allKeys_31 (by decide) ?_
      rw [show n + allN fn z j (k + 1) = (n + cnt (fun i => !emP fn (z * 9 + j) i) 0 4) + allN fn z (j + 1) k by simp only [allN]; omega]
      exact ih (j + 1) _ (by omega) ls H locs hl hP hD hS
  have hfin := loop 9 0 0 rfl ls H locs hl hP hD hS
  rw [Nat.zero_add] at hfin
  exact hfin
set_option maxHeartbeats 4000000 in
set_option maxRecDepth 100000 in
/-- sync -/
theorem k_X3_sync (l : Launch) (D : va_G) (cI cZ cJ : ClassId) (ad : Nat → Nat) (X : va_W) (sd fn ft fm : Nat → Int32) (σ : WS) (ta lp lr : Int32) (hσ : sOk σ) : CM l D (cm_T cI cZ cJ) yX3_sync cX3_sync 2 (some .int) (cm_rm 3 88) [.ref (ad 0)] (cw ad cI X sd fn ft fm σ ta lp lr) (some (.int (nI σ.2.2.2.1))) (cw ad cI X sd fn ft fm (doN σ.2.1 σ.2.2.1 0 σ.2.2.2.1 σ.1, σ.2.1, σ.2.2.1, 0, σ.2.2.2.2) ta lp lr) := by
  refine CM.of (by decide) (Nat.le_of_ble_eq_true rfl) ?_
  intro p e s m below meth c ls H locs C hl hP hD hS
  refine lv_aload_n C.1 C.2.1 dX3_sync_0 rfl (lv_at hl 0 rfl) ?_
  refine va_get (ci := 3) (C := RX3) (T := TX3) (N := 10) C.1 C.2.1 C.2.2.2.2.2.1 ui_X3 C.2.2.2.2.1 C.2.2.2.2.2.2.2.1 hP 0 (rfl) rfl 4 (by decide) (C.2.2.2.2.2.1 _ tw_65) (fun _ h9 => h9) rfl dX3_sync_1 ?_
  refine cm_cV1 (q0 := 8) 0 C (k_X2_size l D cI cZ cJ (cw ad cI X sd fn ft fm σ ta lp lr) σ.2.2.2.1 (qW := 8) (qR := 9) (qC := 10) rfl rfl rfl) tw_248 tw_249 tw_250 tw_3 tw_251 rfl rfl (rfl) rfl (by decide +kernel) ⟨Nat.le_of_ble_eq_true rfl, Nat.le_of_ble_eq_true rfl⟩ ⟨Nat.zero_le _, Nat.zero_le _⟩ hP hD hS hl.1 rfl rfl (Nat.le_of_ble_eq_true rfl) dX3_sync_4 (fun H locs hP hD hS => ?_)
  refine lv_istore_n (lv' := [(1, _), (0, _)]) C.1 C.2.1 dX3_sync_7 rfl hl (by decide) rfl (fun ls hl => ?_)
  refine lv_aload_n C.1 C.2.1 dX3_sync_8 rfl (lv_at hl 1 rfl) ?_
  refine va_get (ci := 3) (C := RX3) (T := TX3) (N := 10) C.1 C.2.1 C.2.2.2.2.2.1 ui_X3 C.2.2.2.2.1 C.2.2.2.2.2.2.2.1 hP 0 (rfl) rfl 4 (by decide) (C.2.2.2.2.2.1 _ tw_65) (fun _ h9 => h9) rfl dX3_sync_9 ?_
  refine lv_iload_n C.1 C.2.1 dX3_sync_12 rfl (lv_at hl 0 rfl) ?_
  refine lv_aload_n C.1 C.2.1 dX3_sync_13 rfl (lv_at hl 1 rfl) ?_
  refine va_get (ci := 3) (C := RX3) (T := TX3) (N := 10) C.1 C.2.1 C.2.2.2.2.2.1 ui_X3 C.2.2.2.2.1 C.2.2.2.2.2.2.2.1 hP 0 (rfl) rfl 2 (by decide) (C.2.2.2.2.2.1 _ tw_63) (fun _ h9 => h9) rfl dX3_sync_14 ?_
  refine cm_cV0 (q0 := 8) 2 C (k_X2_doFirst l D cI cZ cJ (cw ad cI X sd fn ft fm σ ta lp lr) σ.2.2.2.1 (qW := 8) (qR := 9) (qC := 10) rfl rfl rfl (qI := 4) (qA := 5) rfl rfl (by decide) (by decide) (by decide) (by decide) σ.2.2.2.1 hσ.1 hσ.2) tw_252 tw_253 tw_254 tw_3 tw_255 rfl rfl (rfl) rfl (by decide +kernel) ⟨Nat.le_of_ble_eq_true rfl, Nat.le_of_ble_eq_true rfl⟩ ⟨Nat.zero_le _, Nat.zero_le _⟩ hP hD hS hl.1 rfl rfl (Nat.le_of_ble_eq_true rfl) dX3_sync_17 (fun H locs hP hD hS => ?_)
  have hP : va_P D vwCl (cw ad cI X sd fn ft fm (doN σ.2.1 σ.2.2.1 0 σ.2.2.2.1 σ.1, σ.2.1, σ.2.2.1, 0, σ.2.2.2.2) ta lp lr) H := hP
  have hD : va_D (cm_A (cw ad cI X sd fn ft fm σ ta lp lr)) (cw ad cI X sd fn ft fm (doN σ.2.1 σ.2.2.1 0 σ.2.2.2.1 σ.1, σ.2.1, σ.2.2.1, 0, σ.2.2.2.2) ta lp lr) := hD
  refine lv_iload_n C.1 C.2.1 dX3_sync_20 rfl (lv_at hl 0 rfl) ?_
  exact cm_iret C hP hD hS dX3_sync_21 rfl rfl
