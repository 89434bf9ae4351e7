/-! ===== the reference's face ===== -/
set_option maxHeartbeats 4000000 in
set_option maxRecDepth 100000 in
/-- has -/
theorem k_X4_has (l : Launch) (D : va_G) (cI cZ cJ : ClassId) (ad : Nat → Nat) (X : va_W) (I : Nat → Int32) (A : Nat → Nat → Int32) (z y9 : Nat) (hz0 : z < 2) (hy0 : y9 < 4) (hz : I 5 = nI z) (hy : I 6 = nI y9)  (key : Int32) : CM l D (cm_T cI cZ cJ) yX4_has cX4_has 2 (some .boolean) (cm_rm 3 71) [.ref (ad 0), .int key] (mw ad cI cZ X I A) (some (.int (bI (findS (uM A z) (kM A z) (A 4 y9) key).isSome))) (mw ad cI cZ X (va_up I 0 (nI 0)) A) := by
  refine CM.of (by decide) (Nat.le_of_ble_eq_true rfl) ?_
  intro p e s m below meth c ls H locs C hl hP hD hS
  cases ef : findS (uM A z) (kM A z) (A 4 y9) key with
  | none =>
    refine lv_aload_n C.1 C.2.1 dX4_has_0 rfl (lv_at hl 0 rfl) ?_
    refine lv_iconst (v := nI 0) C.1 C.2.1 dX4_has_1 (by decide +kernel) ?_
    refine va_put (ci := 4) (C := RX4) (T := TX4) (N := 34) (ty := .int) C.1 C.2.1 C.2.2.2.2.2.1 ui_X4 tyX4 tyX4_ok nmX4 C.2.2.2.2.1 C.2.2.2.2.2.2.2.1 hP hD hS 0 (rfl) rfl 0 (by decide) (C.2.2.2.2.2.1 _ tw_456) (fun _ h9 => h9) rfl (by decide +kernel) rfl rfl (Nat.le_of_ble_eq_true rfl) dX4_has_2 (fun H locs hP hD hS => ?_)
    have hP : va_P D vwCl (mw ad cI cZ X (va_up I 0 (nI 0)) A) H := hP
    have hD : va_D (cm_A (mw ad cI cZ X I A)) (mw ad cI cZ X (va_up I 0 (nI 0)) A) := hD
    refine lv_aload_n C.1 C.2.1 dX4_has_5 rfl (lv_at hl 0 rfl) ?_
    refine lv_aload_n C.1 C.2.1 dX4_has_6 rfl (lv_at hl 0 rfl) ?_
    refine va_get (v := .int (I 5)) (ci := 4) (C := RX4) (T := TX4) (N := 34) C.1 C.2.1 C.2.2.2.2.2.1 ui_X4 C.2.2.2.2.1 C.2.2.2.2.2.2.2.1 hP 0 (rfl) rfl 5 (by decide) (C.2.2.2.2.2.1 _ tw_461) (fun _ h9 => h9) rfl dX4_has_7 ?_
    rw [hz]
    refine lv_aload_n C.1 C.2.1 dX4_has_10 rfl (lv_at hl 0 rfl) ?_
    refine va_get (ci := 4) (C := RX4) (T := TX4) (N := 34) C.1 C.2.1 C.2.2.2.2.2.1 ui_X4 C.2.2.2.2.1 C.2.2.2.2.2.2.2.1 hP 0 (rfl) rfl 4 (by decide) (C.2.2.2.2.2.1 _ tw_460) (fun _ h9 => h9) rfl dX4_has_11 ?_
    refine lv_aload_n C.1 C.2.1 dX4_has_14 rfl (lv_at hl 0 rfl) ?_
    refine va_get (v := .int (I 6)) (ci := 4) (C := RX4) (T := TX4) (N := 34) C.1 C.2.1 C.2.2.2.2.2.1 ui_X4 C.2.2.2.2.1 C.2.2.2.2.2.2.2.1 hP 0 (rfl) rfl 6 (by decide) (C.2.2.2.2.2.1 _ tw_462) (fun _ h9 => h9) rfl dX4_has_15 ?_
    rw [hy]
    refine va_iald (f := A 4) C.1 C.2.1 C.2.2.2.2.2.2.2.1 hP 4 0 (rfl) rfl (vp_in_nI (by omega) (by decide)) dX4_has_18 ?_
    rw [nI_clamp (by omega)]
    refine lv_iload_n C.1 C.2.1 dX4_has_19 rfl (lv_at hl 1 rfl) ?_
    refine cm_cV1 (q0 := 0) 3 C (k_X4_place l D cI cZ cJ ad X (va_up I 0 (nI 0)) A z (by omega) (A 4 y9) key) tw_568 tw_570 ts_12 tw_5 tw_571 rfl rfl (rfl) rfl (by decide +kernel) ⟨Nat.le_of_ble_eq_true rfl, Nat.le_of_ble_eq_true rfl⟩ ⟨Nat.zero_le _, Nat.zero_le _⟩ hP hD hS hl.1 rfl rfl (Nat.le_of_ble_eq_true rfl) dX4_has_20 (fun H locs hP hD hS => ?_)
    rw [ef, optA_none]
    refine lv_if_lt (tgt := 30) C.1 C.2.1 dX4_has_23 (by decide) (fun _ => ?_) (fun h => absurd (by decide) h)
    refine lv_iconst (v := nI 0) C.1 C.2.1 dX4_has_30 (by decide +kernel) ?_
    exact cm_zret C hP hD hS dX4_has_31 (by decide +kernel) rfl rfl
  | some i9 =>
    have q3 := (findS_lt ef).1
    refine lv_aload_n C.1 C.2.1 dX4_has_0 rfl (lv_at hl 0 rfl) ?_
    refine lv_iconst (v := nI 0) C.1 C.2.1 dX4_has_1 (by decide +kernel) ?_
    refine va_put (ci := 4) (C := RX4) (T := TX4) (N := 34) (ty := .int) C.1 C.2.1 C.2.2.2.2.2.1 ui_X4 tyX4 tyX4_ok nmX4 C.2.2.2.2.1 C.2.2.2.2.2.2.2.1 hP hD hS 0 (rfl) rfl 0 (by decide) (C.2.2.2.2.2.1 _ tw_456) (fun _ h9 => h9) rfl (by decide +kernel) rfl rfl (Nat.le_of_ble_eq_true rfl) dX4_has_2 (fun H locs hP hD hS => ?_)
    have hP : va_P D vwCl (mw ad cI cZ X (va_up I 0 (nI 0)) A) H := hP
    have hD : va_D (cm_A (mw ad cI cZ X I A)) (mw ad cI cZ X (va_up I 0 (nI 0)) A) := hD
    refine lv_aload_n C.1 C.2.1 dX4_has_5 rfl (lv_at hl 0 rfl) ?_
    refine lv_aload_n C.1 C.2.1 dX4_has_6 rfl (lv_at hl 0 rfl) ?_
    refine va_get (v := .int (I 5)) (ci := 4) (C := RX4) (T := TX4) (N := 34) C.1 C.2.1 C.2.2.2.2.2.1 ui_X4 C.2.2.2.2.1 C.2.2.2.2.2.2.2.1 hP 0 (rfl) rfl 5 (by decide) (C.2.2.2.2.2.1 _ tw_461) (fun _ h9 => h9) rfl dX4_has_7 ?_
    rw [hz]
    refine lv_aload_n C.1 C.2.1 dX4_has_10 rfl (lv_at hl 0 rfl) ?_
    refine va_get (ci := 4) (C := RX4) (T := TX4) (N := 34) C.1 C.2.1 C.2.2.2.2.2.1 ui_X4 C.2.2.2.2.1 C.2.2.2.2.2.2.2.1 hP 0 (rfl) rfl 4 (by decide) (C.2.2.2.2.2.1 _ tw_460) (fun _ h9 => h9) rfl dX4_has_11 ?_
    refine lv_aload_n C.1 C.2.1 dX4_has_14 rfl (lv_at hl 0 rfl) ?_
    refine va_get (v := .int (I 6)) (ci := 4) (C := RX4) (T := TX4) (N := 34) C.1 C.2.1 C.2.2.2.2.2.1 ui_X4 C.2.2.2.2.1 C.2.2.2.2.2.2.2.1 hP 0 (rfl) rfl 6 (by decide) (C.2.2.2.2.2.1 _ tw_462) (fun _ h9 => h9) rfl dX4_has_15 ?_
    rw [hy]
    refine va_iald (f := A 4) C.1 C.2.1 C.2.2.2.2.2.2.2.1 hP 4 0 (rfl) rfl (vp_in_nI (by omega) (by decide)) dX4_has_18 ?_
    rw [nI_clamp (by omega)]
    refine lv_iload_n C.1 C.2.1 dX4_has_19 rfl (lv_at hl 1 rfl) ?_
    refine cm_cV1 (q0 := 0) 3 C (k_X4_place l D cI cZ cJ ad X (va_up I 0 (nI 0)) A z (by omega) (A 4 y9) key) tw_568 tw_570 ts_12 tw_5 tw_571 rfl rfl (rfl) rfl (by decide +kernel) ⟨Nat.le_of_ble_eq_true rfl, Nat.le_of_ble_eq_true rfl⟩ ⟨Nat.zero_le _, Nat.zero_le _⟩ hP hD hS hl.1 rfl rfl (Nat.le_of_ble_eq_true rfl) dX4_has_20 (fun H locs hP hD hS => ?_)
    rw [ef, optA_some]
    refine lv_if_lt (tgt := 30) C.1 C.2.1 dX4_has_23 (by decide) (fun h => absurd h (nI_pos (by omega))) (fun _ => ?_)
    refine lv_iconst (v := nI 1) C.1 C.2.1 dX4_has_26 (by decide +kernel) ?_
    refine lv_goto (tgt := 31) C.1 C.2.1 dX4_has_27 (by decide) ?_
    exact cm_zret C hP hD hS dX4_has_31 (by decide +kernel) rfl rfl
set_option maxHeartbeats 4000000 in
set_option maxRecDepth 100000 in
/-- get -/
theorem k_X4_get (l : Launch) (D : va_G) (cI cZ cJ : ClassId) (ad : Nat → Nat) (X : va_W) (I : Nat → Int32) (A : Nat → Nat → Int32) (z y9 : Nat) (hz0 : z < 2) (hy0 : y9 < 4) (hz : I 5 = nI z) (hy : I 6 = nI y9)  (key : Int32) : CM l D (cm_T cI cZ cJ) yX4_get cX4_get 3 (some .int) (cm_rm 3 71) [.ref (ad 0), .int key] (mw ad cI cZ X I A) (some (.int (match findS (uM A z) (kM A z) (A 4 y9) key with | none => nI 0 | some i => vM A z i))) (mw ad cI cZ X (va_up I 0 (nI 0)) A) := by
  refine CM.of (by decide) (Nat.le_of_ble_eq_true rfl) ?_
  intro p e s m below meth c ls H locs C hl hP hD hS
  cases ef : findS (uM A z) (kM A z) (A 4 y9) key with
  | none =>
    refine lv_aload_n C.1 C.2.1 dX4_get_0 rfl (lv_at hl 0 rfl) ?_
    refine lv_iconst (v := nI 0) C.1 C.2.1 dX4_get_1 (by decide +kernel) ?_
    refine va_put (ci := 4) (C := RX4) (T := TX4) (N := 34) (ty := .int) C.1 C.2.1 C.2.2.2.2.2.1 ui_X4 tyX4 tyX4_ok nmX4 C.2.2.2.2.1 C.2.2.2.2.2.2.2.1 hP hD hS 0 (rfl) rfl 0 (by decide) (C.2.2.2.2.2.1 _ tw_456) (fun _ h9 => h9) rfl (by decide +kernel) rfl rfl (Nat.le_of_ble_eq_true rfl) dX4_get_2 (fun H locs hP hD hS => ?_)
    have hP : va_P D vwCl (mw ad cI cZ X (va_up I 0 (nI 0)) A) H := hP
    have hD : va_D (cm_A (mw ad cI cZ X I A)) (mw ad cI cZ X (va_up I 0 (nI 0)) A) := hD
    refine lv_aload_n C.1 C.2.1 dX4_get_5 rfl (lv_at hl 0 rfl) ?_
    refine lv_aload_n C.1 C.2.1 dX4_get_6 rfl (lv_at hl 0 rfl) ?_
    refine va_get (v := .int (I 5)) (ci := 4) (C := RX4) (T := TX4) (N := 34) C.1 C.2.1 C.2.2.2.2.2.1 ui_X4 C.2.2.2.2.1 C.2.2.2.2.2.2.2.1 hP 0 (rfl) rfl 5 (by decide) (C.2.2.2.2.2.1 _ tw_461) (fun _ h9 => h9) rfl dX4_get_7 ?_
    rw [hz]
    refine lv_aload_n C.1 C.2.1 dX4_get_10 rfl (lv_at hl 0 rfl) ?_
    refine va_get (ci := 4) (C := RX4) (T := TX4) (N := 34) C.1 C.2.1 C.2.2.2.2.2.1 ui_X4 C.2.2.2.2.1 C.2.2.2.2.2.2.2.1 hP 0 (rfl) rfl 4 (by decide) (C.2.2.2.2.2.1 _ tw_460) (fun _ h9 => h9) rfl dX4_get_11 ?_
    refine lv_aload_n C.1 C.2.1 dX4_get_14 rfl (lv_at hl 0 rfl) ?_
    refine va_get (v := .int (I 6)) (ci := 4) (C := RX4) (T := TX4) (N := 34) C.1 C.2.1 C.2.2.2.2.2.1 ui_X4 C.2.2.2.2.1 C.2.2.2.2.2.2.2.1 hP 0 (rfl) rfl 6 (by decide) (C.2.2.2.2.2.1 _ tw_462) (fun _ h9 => h9) rfl dX4_get_15 ?_
    rw [hy]
    refine va_iald (f := A 4) C.1 C.2.1 C.2.2.2.2.2.2.2.1 hP 4 0 (rfl) rfl (vp_in_nI (by omega) (by decide)) dX4_get_18 ?_
    rw [nI_clamp (by omega)]
    refine lv_iload_n C.1 C.2.1 dX4_get_19 rfl (lv_at hl 1 rfl) ?_
    refine cm_cV1 (q0 := 0) 3 C (k_X4_place l D cI cZ cJ ad X (va_up I 0 (nI 0)) A z (by omega) (A 4 y9) key) tw_568 tw_570 ts_12 tw_5 tw_571 rfl rfl (rfl) rfl (by decide +kernel) ⟨Nat.le_of_ble_eq_true rfl, Nat.le_of_ble_eq_true rfl⟩ ⟨Nat.zero_le _, Nat.zero_le _⟩ hP hD hS hl.1 rfl rfl (Nat.le_of_ble_eq_true rfl) dX4_get_20 (fun H locs hP hD hS => ?_)
    rw [ef, optA_none]
    refine lv_istore_n (lv' := [(2, _), (0, _), (1, _)]) C.1 C.2.1 dX4_get_23 rfl hl (by decide) rfl (fun ls hl => ?_)
    refine lv_iload_n C.1 C.2.1 dX4_get_24 rfl (lv_at hl 0 rfl) ?_
    refine lv_if_ge (tgt := 32) C.1 C.2.1 dX4_get_25 (by decide) (fun h => absurd h (by decide)) (fun _ => ?_)
    refine lv_iconst (v := nI 0) C.1 C.2.1 dX4_get_28 (by decide +kernel) ?_
    refine lv_goto (tgt := 38) C.1 C.2.1 dX4_get_29 (by decide) ?_
    exact cm_iret C hP hD hS dX4_get_38 rfl rfl
  | some i9 =>
    have q3 := (findS_lt ef).1
    refine lv_aload_n C.1 C.2.1 dX4_get_0 rfl (lv_at hl 0 rfl) ?_
    refine lv_iconst (v := nI 0) C.1 C.2.1 dX4_get_1 (by decide +kernel) ?_
    refine va_put (ci := 4) (C := RX4) (T := TX4) (N := 34) (ty := .int) C.1 C.2.1 C.2.2.2.2.2.1 ui_X4 tyX4 tyX4_ok nmX4 C.2.2.2.2.1 C.2.2.2.2.2.2.2.1 hP hD hS 0 (rfl) rfl 0 (by decide) (C.2.2.2.2.2.1 _ tw_456) (fun _ h9 => h9) rfl (by decide +kernel) rfl rfl (Nat.le_of_ble_eq_true rfl) dX4_get_2 (fun H locs hP hD hS => ?_)
    have hP : va_P D vwCl (mw ad cI cZ X (va_up I 0 (nI 0)) A) H := hP
    have hD : va_D (cm_A (mw ad cI cZ X I A)) (mw ad cI cZ X (va_up I 0 (nI 0)) A) := hD
    refine lv_aload_n C.1 C.2.1 dX4_get_5 rfl (lv_at hl 0 rfl) ?_
    refine lv_aload_n C.1 C.2.1 dX4_get_6 rfl (lv_at hl 0 rfl) ?_
    refine va_get (v := .int (I 5)) (ci := 4) (C := RX4) (T := TX4) (N := 34) C.1 C.2.1 C.2.2.2.2.2.1 ui_X4 C.2.2.2.2.1 C.2.2.2.2.2.2.2.1 hP 0 (rfl) rfl 5 (by decide) (C.2.2.2.2.2.1 _ tw_461) (fun _ h9 => h9) rfl dX4_get_7 ?_
    rw [hz]
    refine lv_aload_n C.1 C.2.1 dX4_get_10 rfl (lv_at hl 0 rfl) ?_
    refine va_get (ci := 4) (C := RX4) (T := TX4) (N := 34) C.1 C.2.1 C.2.2.2.2.2.1 ui_X4 C.2.2.2.2.1 C.2.2.2.2.2.2.2.1 hP 0 (rfl) rfl 4 (by decide) (C.2.2.2.2.2.1 _ tw_460) (fun _ h9 => h9) rfl dX4_get_11 ?_
    refine lv_aload_n C.1 C.2.1 dX4_get_14 rfl (lv_at hl 0 rfl) ?_
    refine va_get (v := .int (I 6)) (ci := 4) (C := RX4) (T := TX4) (N := 34) C.1 C.2.1 C.2.2.2.2.2.1 ui_X4 C.2.2.2.2.1 C.2.2.2.2.2.2.2.1 hP 0 (rfl) rfl 6 (by decide) (C.2.2.2.2.2.1 _ tw_462) (fun _ h9 => h9) rfl dX4_get_15 ?_
    rw [hy]
    refine va_iald (f := A 4) C.1 C.2.1 C.2.2.2.2.2.2.2.1 hP 4 0 (rfl) rfl (vp_in_nI (by omega) (by decide)) dX4_get_18 ?_
    rw [nI_clamp (by omega)]
    refine lv_iload_n C.1 C.2.1 dX4_get_19 rfl (lv_at hl 1 rfl) ?_
    refine cm_cV1 (q0 := 0) 3 C (k_X4_place l D cI cZ cJ ad X (va_up I 0 (nI 0)) A z (by omega) (A 4 y9) key) tw_568 tw_570 ts_12 tw_5 tw_571 rfl rfl (rfl) rfl (by decide +kernel) ⟨Nat.le_of_ble_eq_true rfl, Nat.le_of_ble_eq_true rfl⟩ ⟨Nat.zero_le _, Nat.zero_le _⟩ hP hD hS hl.1 rfl rfl (Nat.le_of_ble_eq_true rfl) dX4_get_20 (fun H locs hP hD hS => ?_)
    rw [ef, optA_some]
    refine lv_istore_n (lv' := [(2, _), (0, _), (1, _)]) C.1 C.2.1 dX4_get_23 rfl hl (by decide) rfl (fun ls hl => ?_)
    refine lv_iload_n C.1 C.2.1 dX4_get_24 rfl (lv_at hl 0 rfl) ?_
    refine lv_if_ge (tgt := 32) C.1 C.2.1 dX4_get_25 (by decide) (fun _ => ?_) (fun h => absurd (nI_pos' (by omega)) h)
    refine lv_aload_n C.1 C.2.1 dX4_get_32 rfl (lv_at hl 1 rfl) ?_
    refine va_get (ci := 4) (C := RX4) (T := TX4) (N := 34) C.1 C.2.1 C.2.2.2.2.2.1 ui_X4 C.2.2.2.2.1 C.2.2.2.2.2.2.2.1 hP 0 (rfl) rfl 3 (by decide) (C.2.2.2.2.2.1 _ tw_459) (fun _ h9 => h9) rfl dX4_get_33 ?_
    refine lv_iload_n C.1 C.2.1 dX4_get_36 rfl (lv_at hl 0 rfl) ?_
    refine va_iald (f := A 3) C.1 C.2.1 C.2.2.2.2.2.2.2.1 hP 3 0 (rfl) rfl (vp_in_nI (by omega) (by decide)) dX4_get_37 ?_
    rw [nI_clamp (by omega)]
    exact cm_iret C hP hD hS dX4_get_38 rfl rfl
set_option maxHeartbeats 4000000 in
set_option maxRecDepth 100000 in
/-- remove -/
theorem k_X4_remove (l : Launch) (D : va_G) (cI cZ cJ : ClassId) (ad : Nat → Nat) (X : va_W) (I : Nat → Int32) (A : Nat → Nat → Int32) (z y9 : Nat) (hz0 : z < 2) (hy0 : y9 < 4) (hz : I 5 = nI z) (hy : I 6 = nI y9) (t : Nat) (hok : okW t (I, A)) (key : Int32) : CM l D (cm_T cI cZ cJ) yX4_remove cX4_remove 3 (some .boolean) (cm_rm 4 91) [.ref (ad 0), .int key] (mw ad cI cZ X I A) (some (.int (bI (findS (uM A z) (kM A z) (A 4 y9) key).isSome))) (match findS (uM A z) (kM A z) (A 4 y9) key with | none => mw ad cI cZ X (va_up I 0 (nI 0)) A | some i9 => mw ad cI cZ X (wPg (9 * z + i9 / 4) t ((va_up I 0 (nI 0)), (va_up A 1 (upd (A 1) (36 * z + i9) (nI 0))))).1 (wPg (9 * z + i9 / 4) t ((va_up I 0 (nI 0)), (va_up A 1 (upd (A 1) (36 * z + i9) (nI 0))))).2) := by
  refine CM.of (by decide) (Nat.le_of_ble_eq_true rfl) ?_
  intro p e s m below meth c ls H locs C hl hP hD hS
  cases ef : findS (uM A z) (kM A z) (A 4 y9) key with
  | none =>
    refine lv_aload_n C.1 C.2.1 dX4_remove_0 rfl (lv_at hl 0 rfl) ?_
    refine lv_iconst (v := nI 0) C.1 C.2.1 dX4_remove_1 (by decide +kernel) ?_
    refine va_put (ci := 4) (C := RX4) (T := TX4) (N := 34) (ty := .int) C.1 C.2.1 C.2.2.2.2.2.1 ui_X4 tyX4 tyX4_ok nmX4 C.2.2.2.2.1 C.2.2.2.2.2.2.2.1 hP hD hS 0 (rfl) rfl 0 (by decide) (C.2.2.2.2.2.1 _ tw_456) (fun _ h9 => h9) rfl (by decide +kernel) rfl rfl (Nat.le_of_ble_eq_true rfl) dX4_remove_2 (fun H locs hP hD hS => ?_)
    have hP : va_P D vwCl (mw ad cI cZ X (va_up I 0 (nI 0)) A) H := hP
    have hD : va_D (cm_A (mw ad cI cZ X I A)) (mw ad cI cZ X (va_up I 0 (nI 0)) A) := hD
    refine lv_aload_n C.1 C.2.1 dX4_remove_5 rfl (lv_at hl 0 rfl) ?_
    refine lv_aload_n C.1 C.2.1 dX4_remove_6 rfl (lv_at hl 0 rfl) ?_
    refine va_get (v := .int (I 5)) (ci := 4) (C := RX4) (T := TX4) (N := 34) C.1 C.2.1 C.2.2.2.2.2.1 ui_X4 C.2.2.2.2.1 C.2.2.2.2.2.2.2.1 hP 0 (rfl) rfl 5 (by decide) (C.2.2.2.2.2.1 _ tw_461) (fun _ h9 => h9) rfl dX4_remove_7 ?_
    rw [hz]
    refine lv_aload_n C.1 C.2.1 dX4_remove_10 rfl (lv_at hl 0 rfl) ?_
    refine va_get (ci := 4) (C := RX4) (T := TX4) (N := 34) C.1 C.2.1 C.2.2.2.2.2.1 ui_X4 C.2.2.2.2.1 C.2.2.2.2.2.2.2.1 hP 0 (rfl) rfl 4 (by decide) (C.2.2.2.2.2.1 _ tw_460) (fun _ h9 => h9) rfl dX4_remove_11 ?_
    refine lv_aload_n C.1 C.2.1 dX4_remove_14 rfl (lv_at hl 0 rfl) ?_
    refine va_get (v := .int (I 6)) (ci := 4) (C := RX4) (T := TX4) (N := 34) C.1 C.2.1 C.2.2.2.2.2.1 ui_X4 C.2.2.2.2.1 C.2.2.2.2.2.2.2.1 hP 0 (rfl) rfl 6 (by decide) (C.2.2.2.2.2.1 _ tw_462) (fun _ h9 => h9) rfl dX4_remove_15 ?_
    rw [hy]
    refine va_iald (f := A 4) C.1 C.2.1 C.2.2.2.2.2.2.2.1 hP 4 0 (rfl) rfl (vp_in_nI (by omega) (by decide)) dX4_remove_18 ?_
    rw [nI_clamp (by omega)]
    refine lv_iload_n C.1 C.2.1 dX4_remove_19 rfl (lv_at hl 1 rfl) ?_
    refine cm_cV1 (q0 := 0) 3 C (k_X4_place l D cI cZ cJ ad X (va_up I 0 (nI 0)) A z (by omega) (A 4 y9) key) tw_568 tw_570 ts_12 tw_5 tw_571 rfl rfl (rfl) rfl (by decide +kernel) ⟨Nat.le_of_ble_eq_true rfl, Nat.le_of_ble_eq_true rfl⟩ ⟨Nat.zero_le _, Nat.zero_le _⟩ hP hD hS hl.1 rfl rfl (Nat.le_of_ble_eq_true rfl) dX4_remove_20 (fun H locs hP hD hS => ?_)
    rw [ef, optA_none]
    refine lv_istore_n (lv' := [(2, _), (0, _), (1, _)]) C.1 C.2.1 dX4_remove_23 rfl hl (by decide) rfl (fun ls hl => ?_)
    refine lv_iload_n C.1 C.2.1 dX4_remove_24 rfl (lv_at hl 0 rfl) ?_
    refine lv_if_ge (tgt := 30) C.1 C.2.1 dX4_remove_25 (by decide) (fun h => absurd h (by decide)) (fun _ => ?_)
    refine lv_iconst (v := nI 0) C.1 C.2.1 dX4_remove_28 (by decide +kernel) ?_
    exact cm_zret C hP hD hS dX4_remove_29 (by decide +kernel) rfl rfl
  | some i9 =>
    have q3 := (findS_lt ef).1
    refine lv_aload_n C.1 C.2.1 dX4_remove_0 rfl (lv_at hl 0 rfl) ?_
    refine lv_iconst (v := nI 0) C.1 C.2.1 dX4_remove_1 (by decide +kernel) ?_
    refine va_put (ci := 4) (C := RX4) (T := TX4) (N := 34) (ty := .int) C.1 C.2.1 C.2.2.2.2.2.1 ui_X4 tyX4 tyX4_ok nmX4 C.2.2.2.2.1 C.2.2.2.2.2.2.2.1 hP hD hS 0 (rfl) rfl 0 (by decide) (C.2.2.2.2.2.1 _ tw_456) (fun _ h9 => h9) rfl (by decide +kernel) rfl rfl (Nat.le_of_ble_eq_true rfl) dX4_remove_2 (fun H locs hP hD hS => ?_)
    have hP : va_P D vwCl (mw ad cI cZ X (va_up I 0 (nI 0)) A) H := hP
    have hD : va_D (cm_A (mw ad cI cZ X I A)) (mw ad cI cZ X (va_up I 0 (nI 0)) A) := hD
    refine lv_aload_n C.1 C.2.1 dX4_remove_5 rfl (lv_at hl 0 rfl) ?_
    refine lv_aload_n C.1 C.2.1 dX4_remove_6 rfl (lv_at hl 0 rfl) ?_
    refine va_get (v := .int (I 5)) (ci := 4) (C := RX4) (T := TX4) (N := 34) C.1 C.2.1 C.2.2.2.2.2.1 ui_X4 C.2.2.2.2.1 C.2.2.2.2.2.2.2.1 hP 0 (rfl) rfl 5 (by decide) (C.2.2.2.2.2.1 _ tw_461) (fun _ h9 => h9) rfl dX4_remove_7 ?_
    rw [hz]
    refine lv_aload_n C.1 C.2.1 dX4_remove_10 rfl (lv_at hl 0 rfl) ?_
    refine va_get (ci := 4) (C := RX4) (T := TX4) (N := 34) C.1 C.2.1 C.2.2.2.2.2.1 ui_X4 C.2.2.2.2.1 C.2.2.2.2.2.2.2.1 hP 0 (rfl) rfl 4 (by decide) (C.2.2.2.2.2.1 _ tw_460) (fun _ h9 => h9) rfl dX4_remove_11 ?_
    refine lv_aload_n C.1 C.2.1 dX4_remove_14 rfl (lv_at hl 0 rfl) ?_
    refine va_get (v := .int (I 6)) (ci := 4) (C := RX4) (T := TX4) (N := 34) C.1 C.2.1 C.2.2.2.2.2.1 ui_X4 C.2.2.2.2.1 C.2.2.2.2.2.2.2.1 hP 0 (rfl) rfl 6 (by decide) (C.2.2.2.2.2.1 _ tw_462) (fun _ h9 => h9) rfl dX4_remove_15 ?_
    rw [hy]
    refine va_iald (f := A 4) C.1 C.2.1 C.2.2.2.2.2.2.2.1 hP 4 0 (rfl) rfl (vp_in_nI (by omega) (by decide)) dX4_remove_18 ?_
    rw [nI_clamp (by omega)]
    refine lv_iload_n C.1 C.2.1 dX4_remove_19 rfl (lv_at hl 1 rfl) ?_
    refine cm_cV1 (q0 := 0) 3 C (k_X4_place l D cI cZ cJ ad X (va_up I 0 (nI 0)) A z (by omega) (A 4 y9) key) tw_568 tw_570 ts_12 tw_5 tw_571 rfl rfl (rfl) rfl (by decide +kernel) ⟨Nat.le_of_ble_eq_true rfl, Nat.le_of_ble_eq_true rfl⟩ ⟨Nat.zero_le _, Nat.zero_le _⟩ hP hD hS hl.1 rfl rfl (Nat.le_of_ble_eq_true rfl) dX4_remove_20 (fun H locs hP hD hS => ?_)
    rw [ef, optA_some]
    refine lv_istore_n (lv' := [(2, _), (0, _), (1, _)]) C.1 C.2.1 dX4_remove_23 rfl hl (by decide) rfl (fun ls hl => ?_)
    refine lv_iload_n C.1 C.2.1 dX4_remove_24 rfl (lv_at hl 0 rfl) ?_
    refine lv_if_ge (tgt := 30) C.1 C.2.1 dX4_remove_25 (by decide) (fun _ => ?_) (fun h => absurd (nI_pos' (by omega)) h)
    refine lv_aload_n C.1 C.2.1 dX4_remove_30 rfl (lv_at hl 1 rfl) ?_
    refine va_get (ci := 4) (C := RX4) (T := TX4) (N := 34) C.1 C.2.1 C.2.2.2.2.2.1 ui_X4 C.2.2.2.2.1 C.2.2.2.2.2.2.2.1 hP 0 (rfl) rfl 1 (by decide) (C.2.2.2.2.2.1 _ tw_457) (fun _ h9 => h9) rfl dX4_remove_31 ?_
    refine lv_iload_n C.1 C.2.1 dX4_remove_34 rfl (lv_at hl 0 rfl) ?_
    refine lv_iconst (v := nI 0) C.1 C.2.1 dX4_remove_35 (by decide +kernel) ?_
    refine va_zast (f := A 1) C.1 C.2.1 C.2.2.2.2.2.2.2.1 hP hD hS 1 1 (rfl) rfl (vp_in_nI (by omega) (by decide)) dX4_remove_36 (fun H locs hP hD hS => ?_)
    rw [nI_clamp (by omega), show vp_nar .boolean (nI 0) = nI 0 by decide +kernel] at hP hD
    have hP : va_P D vwCl (mw ad cI cZ X (va_up I 0 (nI 0)) (va_up A 1 (upd (A 1) (36 * z + i9) (nI 0)))) H := hP
    have hD : va_D (cm_A (mw ad cI cZ X I A)) (mw ad cI cZ X (va_up I 0 (nI 0)) (va_up A 1 (upd (A 1) (36 * z + i9) (nI 0)))) := hD
    refine lv_aload_n C.1 C.2.1 dX4_remove_37 rfl (lv_at hl 1 rfl) ?_
    refine lv_iload_n C.1 C.2.1 dX4_remove_38 rfl (lv_at hl 0 rfl) ?_
    refine lv_iconst (v := nI 4) C.1 C.2.1 dX4_remove_39 (by decide +kernel) ?_
    refine lv_idiv C.1 C.2.1 dX4_remove_40 (by decide) ?_
    rw [pk_div (by omega) (by decide) (by decide), show (36 * z + i9) / 4 = 9 * z + i9 / 4 by omega]
    refine cm_cV0 (q0 := 0) 1 C (k_X4_writePage l D cI cZ cJ ad X (va_up I 0 (nI 0)) (va_up A 1 (upd (A 1) (36 * z + i9) (nI 0))) t hok.1 hok.2.1 hok.2.2 (9 * z + i9 / 4) (by omega)) tw_592 tw_594 ts_15 tw_5 tw_595 rfl rfl (rfl) rfl (by decide +kernel) ⟨Nat.le_of_ble_eq_true rfl, Nat.le_of_ble_eq_true rfl⟩ ⟨Nat.zero_le _, Nat.zero_le _⟩ hP hD hS hl.1 rfl rfl (Nat.le_of_ble_eq_true rfl) dX4_remove_41 (fun H locs hP hD hS => ?_)
    refine lv_iconst (v := nI 1) C.1 C.2.1 dX4_remove_44 (by decide +kernel) ?_
    exact cm_zret C hP hD hS dX4_remove_45 (by decide +kernel) rfl rfl
set_option maxHeartbeats 4000000 in
set_option maxRecDepth 100000 in
/-- home -/
theorem k_X4_home1 (l : Launch) (D : va_G) (cI cZ cJ : ClassId) (ad : Nat → Nat) (X : va_W) (I : Nat → Int32) (A : Nat → Nat → Int32) (z y9 : Nat) (hz0 : z < 2) (hy0 : y9 < 4) (hz : I 5 = nI z) (hy : I 6 = nI y9) (key : Int32) : CM l D (cm_T cI cZ cJ) yX4_home cX4_home 3 (some .int) (cm_rm 2 47) [.ref (ad 0), .int key, .int (nI 0)] (mw ad cI cZ X I A) (some (.int (nI (hm1 (A 4 y9) key)))) (mw ad cI cZ X (va_up I 0 (nI 0)) A) := by
  refine CM.of (by decide) (Nat.le_of_ble_eq_true rfl) ?_
  intro p e s m below meth c ls H locs C hl hP hD hS
  refine lv_aload_n C.1 C.2.1 dX4_home_0 rfl (lv_at hl 0 rfl) ?_
  refine lv_iconst (v := nI 0) C.1 C.2.1 dX4_home_1 (by decide +kernel) ?_
  refine va_put (ci := 4) (C := RX4) (T := TX4) (N := 34) (ty := .int) C.1 C.2.1 C.2.2.2.2.2.1 ui_X4 tyX4 tyX4_ok nmX4 C.2.2.2.2.1 C.2.2.2.2.2.2.2.1 hP hD hS 0 (rfl) rfl 0 (by decide) (C.2.2.2.2.2.1 _ tw_456) (fun _ h9 => h9) rfl (by decide +kernel) rfl rfl (Nat.le_of_ble_eq_true rfl) dX4_home_2 (fun H locs hP hD hS => ?_)
  have hP : va_P D vwCl (mw ad cI cZ X (va_up I 0 (nI 0)) A) H := hP
  have hD : va_D (cm_A (mw ad cI cZ X I A)) (mw ad cI cZ X (va_up I 0 (nI 0)) A) := hD
  refine lv_iload_n C.1 C.2.1 dX4_home_5 rfl (lv_at hl 1 rfl) ?_
  refine lv_aload_n C.1 C.2.1 dX4_home_6 rfl (lv_at hl 0 rfl) ?_
  refine va_get (ci := 4) (C := RX4) (T := TX4) (N := 34) C.1 C.2.1 C.2.2.2.2.2.1 ui_X4 C.2.2.2.2.1 C.2.2.2.2.2.2.2.1 hP 0 (rfl) rfl 4 (by decide) (C.2.2.2.2.2.1 _ tw_460) (fun _ h9 => h9) rfl dX4_home_7 ?_
  refine lv_aload_n C.1 C.2.1 dX4_home_10 rfl (lv_at hl 0 rfl) ?_
  refine va_get (v := .int (I 6)) (ci := 4) (C := RX4) (T := TX4) (N := 34) C.1 C.2.1 C.2.2.2.2.2.1 ui_X4 C.2.2.2.2.1 C.2.2.2.2.2.2.2.1 hP 0 (rfl) rfl 6 (by decide) (C.2.2.2.2.2.1 _ tw_462) (fun _ h9 => h9) rfl dX4_home_11 ?_
  rw [hy]
  refine va_iald (f := A 4) C.1 C.2.1 C.2.2.2.2.2.2.2.1 hP 4 0 (rfl) rfl (vp_in_nI (by omega) (by decide)) dX4_home_14 ?_
  rw [nI_clamp (by omega)]
  refine lv_iload_n C.1 C.2.1 dX4_home_15 rfl (lv_at hl 2 rfl) ?_
  refine cm_cS1 3 C (k_X4_homeBy1 l D cI cZ cJ (mw ad cI cZ X (va_up I 0 (nI 0)) A) key (A 4 y9)) tw_572 tw_573 tw_5 tw_574 rfl rfl (by decide +kernel) ⟨Nat.le_of_ble_eq_true rfl, Nat.le_of_ble_eq_true rfl⟩ ⟨Nat.zero_le _, Nat.zero_le _⟩ hP hD hS hl.1 rfl rfl (Nat.le_of_ble_eq_true rfl) dX4_home_16 (fun H locs hP hD hS => ?_)
  exact cm_iret C hP hD hS dX4_home_19 rfl rfl
set_option maxHeartbeats 4000000 in
set_option maxRecDepth 100000 in
/-- home -/
theorem k_X4_home2 (l : Launch) (D : va_G) (cI cZ cJ : ClassId) (ad : Nat → Nat) (X : va_W) (I : Nat → Int32) (A : Nat → Nat → Int32) (z y9 : Nat) (hz0 : z < 2) (hy0 : y9 < 4) (hz : I 5 = nI z) (hy : I 6 = nI y9) (key : Int32) : CM l D (cm_T cI cZ cJ) yX4_home cX4_home 3 (some .int) (cm_rm 2 47) [.ref (ad 0), .int key, .int (nI 1)] (mw ad cI cZ X I A) (some (.int (nI (hm2 (A 4 y9) key)))) (mw ad cI cZ X (va_up I 0 (nI 0)) A) := by
  refine CM.of (by decide) (Nat.le_of_ble_eq_true rfl) ?_
  intro p e s m below meth c ls H locs C hl hP hD hS
  refine lv_aload_n C.1 C.2.1 dX4_home_0 rfl (lv_at hl 0 rfl) ?_
  refine lv_iconst (v := nI 0) C.1 C.2.1 dX4_home_1 (by decide +kernel) ?_
  refine va_put (ci := 4) (C := RX4) (T := TX4) (N := 34) (ty := .int) C.1 C.2.1 C.2.2.2.2.2.1 ui_X4 tyX4 tyX4_ok nmX4 C.2.2.2.2.1 C.2.2.2.2.2.2.2.1 hP hD hS 0 (rfl) rfl 0 (by decide) (C.2.2.2.2.2.1 _ tw_456) (fun _ h9 => h9) rfl (by decide +kernel) rfl rfl (Nat.le_of_ble_eq_true rfl) dX4_home_2 (fun H locs hP hD hS => ?_)
  have hP : va_P D vwCl (mw ad cI cZ X (va_up I 0 (nI 0)) A) H := hP
  have hD : va_D (cm_A (mw ad cI cZ X I A)) (mw ad cI cZ X (va_up I 0 (nI 0)) A) := hD
  refine lv_iload_n C.1 C.2.1 dX4_home_5 rfl (lv_at hl 1 rfl) ?_
  refine lv_aload_n C.1 C.2.1 dX4_home_6 rfl (lv_at hl 0 rfl) ?_
  refine va_get (ci := 4) (C := RX4) (T := TX4) (N := 34) C.1 C.2.1 C.2.2.2.2.2.1 ui_X4 C.2.2.2.2.1 C.2.2.2.2.2.2.2.1 hP 0 (rfl) rfl 4 (by decide) (C.2.2.2.2.2.1 _ tw_460) (fun _ h9 => h9) rfl dX4_home_7 ?_
  refine lv_aload_n C.1 C.2.1 dX4_home_10 rfl (lv_at hl 0 rfl) ?_
  refine va_get (v := .int (I 6)) (ci := 4) (C := RX4) (T := TX4) (N := 34) C.1 C.2.1 C.2.2.2.2.2.1 ui_X4 C.2.2.2.2.1 C.2.2.2.2.2.2.2.1 hP 0 (rfl) rfl 6 (by decide) (C.2.2.2.2.2.1 _ tw_462) (fun _ h9 => h9) rfl dX4_home_11 ?_
  rw [hy]
  refine va_iald (f := A 4) C.1 C.2.1 C.2.2.2.2.2.2.2.1 hP 4 0 (rfl) rfl (vp_in_nI (by omega) (by decide)) dX4_home_14 ?_
  rw [nI_clamp (by omega)]
  refine lv_iload_n C.1 C.2.1 dX4_home_15 rfl (lv_at hl 2 rfl) ?_
  refine cm_cS1 3 C (k_X4_homeBy2 l D cI cZ cJ (mw ad cI cZ X (va_up I 0 (nI 0)) A) key (A 4 y9)) tw_572 tw_573 tw_5 tw_574 rfl rfl (by decide +kernel) ⟨Nat.le_of_ble_eq_true rfl, Nat.le_of_ble_eq_true rfl⟩ ⟨Nat.zero_le _, Nat.zero_le _⟩ hP hD hS hl.1 rfl rfl (Nat.le_of_ble_eq_true rfl) dX4_home_16 (fun H locs hP hD hS => ?_)
  exact cm_iret C hP hD hS dX4_home_19 rfl rfl
set_option maxHeartbeats 4000000 in
set_option maxRecDepth 100000 in
/-- sync -/
theorem k_X4_sync (l : Launch) (D : va_G) (cI cZ cJ : ClassId) (ad : Nat → Nat) (X : va_W) (I : Nat → Int32) (A : Nat → Nat → Int32) (t : Nat) (hok : okW t (I, A)) : CM l D (cm_T cI cZ cJ) yX4_sync cX4_sync 1 (some .int) (cm_rm 2 45) [.ref (ad 0)] (mw ad cI cZ X I A) (some (.int (nI t))) (mw ad cI cZ X (flsh ((va_up I 0 (nI 0)), A) t).1 (flsh ((va_up I 0 (nI 0)), A) t).2) := by
  refine CM.of (by decide) (Nat.le_of_ble_eq_true rfl) ?_
  intro p e s m below meth c ls H locs C hl hP hD hS
  refine lv_aload_n C.1 C.2.1 dX4_sync_0 rfl (lv_at hl 0 rfl) ?_
  refine lv_iconst (v := nI 0) C.1 C.2.1 dX4_sync_1 (by decide +kernel) ?_
  refine va_put (ci := 4) (C := RX4) (T := TX4) (N := 34) (ty := .int) C.1 C.2.1 C.2.2.2.2.2.1 ui_X4 tyX4 tyX4_ok nmX4 C.2.2.2.2.1 C.2.2.2.2.2.2.2.1 hP hD hS 0 (rfl) rfl 0 (by decide) (C.2.2.2.2.2.1 _ tw_456) (fun _ h9 => h9) rfl (by decide +kernel) rfl rfl (Nat.le_of_ble_eq_true rfl) dX4_sync_2 (fun H locs hP hD hS => ?_)
  have hP : va_P D vwCl (mw ad cI cZ X (va_up I 0 (nI 0)) A) H := hP
  have hD : va_D (cm_A (mw ad cI cZ X I A)) (mw ad cI cZ X (va_up I 0 (nI 0)) A) := hD
  refine lv_aload_n C.1 C.2.1 dX4_sync_5 rfl (lv_at hl 0 rfl) ?_
  refine cm_cV1 (q0 := 0) 0 C (k_X4_flush l D cI cZ cJ ad X (va_up I 0 (nI 0)) A t hok.1 hok.2.1 hok.2.2) tw_600 tw_602 ts_17 tw_5 tw_603 rfl rfl (rfl) rfl (by decide +kernel) ⟨Nat.le_of_ble_eq_true rfl, Nat.le_of_ble_eq_true rfl⟩ ⟨Nat.zero_le _, Nat.zero_le _⟩ hP hD hS hl.1 rfl rfl (Nat.le_of_ble_eq_true rfl) dX4_sync_6 (fun H locs hP hD hS => ?_)
  exact cm_iret C hP hD hS dX4_sync_9 rfl rfl
def rdM (u : Nat → Bool) (k : Nat → Int32) (s key : Int32) : Int32 := match atS u k key (hm1 s key) with
  | some _ => nI 1
  | none => match atS u k key (hm2 s key) with
    | some _ => nI 2
    | none => nI 3
set_option maxHeartbeats 4000000 in
set_option maxRecDepth 100000 in
/-- reads -/
theorem k_X4_reads (l : Launch) (D : va_G) (cI cZ cJ : ClassId) (ad : Nat → Nat) (X : va_W) (I : Nat → Int32) (A : Nat → Nat → Int32) (z y9 : Nat) (hz0 : z < 2) (hy0 : y9 < 4) (hz : I 5 = nI z) (hy : I 6 = nI y9) (key : Int32) : CM l D (cm_T cI cZ cJ) yX4_reads cX4_reads 2 (some .int) (cm_rm 2 47) [.ref (ad 0), .int key] (mw ad cI cZ X I A) (some (.int (rdM (uM A z) (kM A z) (A 4 y9) key))) (mw ad cI cZ X (va_up I 0 (nI 0)) A) := by
  refine CM.of (by decide) (Nat.le_of_ble_eq_true rfl) ?_
  intro p e s m below meth c ls H locs C hl hP hD hS
  have q1 := hm1_lt (A 4 y9) key
  have q2 := hm2_lt (A 4 y9) key
  cases e1 : atS (uM A z) (kM A z) key (hm1 (A 4 y9) key) with
  | some i9 =>
    have q3 := (atS_lt e1 (by omega)).1
    refine lv_aload_n C.1 C.2.1 dX4_reads_0 rfl (lv_at hl 0 rfl) ?_
    refine lv_iconst (v := nI 0) C.1 C.2.1 dX4_reads_1 (by decide +kernel) ?_
    refine va_put (ci := 4) (C := RX4) (T := TX4) (N := 34) (ty := .int) C.1 C.2.1 C.2.2.2.2.2.1 ui_X4 tyX4 tyX4_ok nmX4 C.2.2.2.2.1 C.2.2.2.2.2.2.2.1 hP hD hS 0 (rfl) rfl 0 (by decide) (C.2.2.2.2.2.1 _ tw_456) (fun _ h9 => h9) rfl (by decide +kernel) rfl rfl (Nat.le_of_ble_eq_true rfl) dX4_reads_2 (fun H locs hP hD hS => ?_)
    have hP : va_P D vwCl (mw ad cI cZ X (va_up I 0 (nI 0)) A) H := hP
    have hD : va_D (cm_A (mw ad cI cZ X I A)) (mw ad cI cZ X (va_up I 0 (nI 0)) A) := hD
    refine lv_aload_n C.1 C.2.1 dX4_reads_5 rfl (lv_at hl 0 rfl) ?_
    refine lv_aload_n C.1 C.2.1 dX4_reads_6 rfl (lv_at hl 0 rfl) ?_
    refine va_get (v := .int (I 5)) (ci := 4) (C := RX4) (T := TX4) (N := 34) C.1 C.2.1 C.2.2.2.2.2.1 ui_X4 C.2.2.2.2.1 C.2.2.2.2.2.2.2.1 hP 0 (rfl) rfl 5 (by decide) (C.2.2.2.2.2.1 _ tw_461) (fun _ h9 => h9) rfl dX4_reads_7 ?_
    rw [hz]
    refine lv_iload_n C.1 C.2.1 dX4_reads_10 rfl (lv_at hl 1 rfl) ?_
    refine lv_aload_n C.1 C.2.1 dX4_reads_11 rfl (lv_at hl 0 rfl) ?_
    refine va_get (ci := 4) (C := RX4) (T := TX4) (N := 34) C.1 C.2.1 C.2.2.2.2.2.1 ui_X4 C.2.2.2.2.1 C.2.2.2.2.2.2.2.1 hP 0 (rfl) rfl 4 (by decide) (C.2.2.2.2.2.1 _ tw_460) (fun _ h9 => h9) rfl dX4_reads_12 ?_
    refine lv_aload_n C.1 C.2.1 dX4_reads_15 rfl (lv_at hl 0 rfl) ?_
    refine va_get (v := .int (I 6)) (ci := 4) (C := RX4) (T := TX4) (N := 34) C.1 C.2.1 C.2.2.2.2.2.1 ui_X4 C.2.2.2.2.1 C.2.2.2.2.2.2.2.1 hP 0 (rfl) rfl 6 (by decide) (C.2.2.2.2.2.1 _ tw_462) (fun _ h9 => h9) rfl dX4_reads_16 ?_
    rw [hy]
    refine va_iald (f := A 4) C.1 C.2.1 C.2.2.2.2.2.2.2.1 hP 4 0 (rfl) rfl (vp_in_nI (by omega) (by decide)) dX4_reads_19 ?_
    rw [nI_clamp (by omega)]
    refine lv_iconst (v := nI 0) C.1 C.2.1 dX4_reads_20 (by decide +kernel) ?_
    refine cm_cS1 3 C (k_X4_homeBy1 l D cI cZ cJ (mw ad cI cZ X (va_up I 0 (nI 0)) A) key (A 4 y9)) tw_572 tw_573 tw_5 tw_574 rfl rfl (by decide +kernel) ⟨Nat.le_of_ble_eq_true rfl, Nat.le_of_ble_eq_true rfl⟩ ⟨Nat.zero_le _, Nat.zero_le _⟩ hP hD hS hl.1 rfl rfl (Nat.le_of_ble_eq_true rfl) dX4_reads_21 (fun H locs hP hD hS => ?_)
    refine lv_iload_n C.1 C.2.1 dX4_reads_24 rfl (lv_at hl 1 rfl) ?_
    refine cm_cV1 (q0 := 0) 3 C (k_X4_find l D cI cZ cJ ad X (va_up I 0 (nI 0)) A z (hm1 (A 4 y9) key) (by omega) (by omega) key) tw_581 tw_583 ts_13 tw_5 tw_584 rfl rfl (rfl) rfl (by decide +kernel) ⟨Nat.le_of_ble_eq_true rfl, Nat.le_of_ble_eq_true rfl⟩ ⟨Nat.zero_le _, Nat.zero_le _⟩ hP hD hS hl.1 rfl rfl (Nat.le_of_ble_eq_true rfl) dX4_reads_25 (fun H locs hP hD hS => ?_)
    rw [e1, optA_some]
    refine lv_if_lt (tgt := 35) C.1 C.2.1 dX4_reads_28 (by decide) (fun h => absurd h (nI_pos (by omega))) (fun _ => ?_)
    refine lv_iconst (v := nI 1) C.1 C.2.1 dX4_reads_31 (by decide +kernel) ?_
    refine lv_goto (tgt := 66) C.1 C.2.1 dX4_reads_32 (by decide) ?_
    exact cm_iret C hP hD hS dX4_reads_66 (by simp only [rdM, e1]) rfl
  | none =>
    cases e2 : atS (uM A z) (kM A z) key (hm2 (A 4 y9) key) with
    | some i9 =>
      have q3 := (atS_lt e2 (by omega)).1
      refine lv_aload_n C.1 C.2.1 dX4_reads_0 rfl (lv_at hl 0 rfl) ?_
      refine lv_iconst (v := nI 0) C.1 C.2.1 dX4_reads_1 (by decide +kernel) ?_
      refine va_put (ci := 4) (C := RX4) (T := TX4) (N := 34) (ty := .int) C.1 C.2.1 C.2.2.2.2.2.1 ui_X4 tyX4 tyX4_ok nmX4 C.2.2.2.2.1 C.2.2.2.2.2.2.2.1 hP hD hS 0 (rfl) rfl 0 (by decide) (C.2.2.2.2.2.1 _ tw_456) (fun _ h9 => h9) rfl (by decide +kernel) rfl rfl (Nat.le_of_ble_eq_true rfl) dX4_reads_2 (fun H locs hP hD hS => ?_)
      have hP : va_P D vwCl (mw ad cI cZ X (va_up I 0 (nI 0)) A) H := hP
      have hD : va_D (cm_A (mw ad cI cZ X I A)) (mw ad cI cZ X (va_up I 0 (nI 0)) A) := hD
      refine lv_aload_n C.1 C.2.1 dX4_reads_5 rfl (lv_at hl 0 rfl) ?_
      refine lv_aload_n C.1 C.2.1 dX4_reads_6 rfl (lv_at hl 0 rfl) ?_
      refine va_get (v := .int (I 5)) (ci := 4) (C := RX4) (T := TX4) (N := 34) C.1 C.2.1 C.2.2.2.2.2.1 ui_X4 C.2.2.2.2.1 C.2.2.2.2.2.2.2.1 hP 0 (rfl) rfl 5 (by decide) (C.2.2.2.2.2.1 _ tw_461) (fun _ h9 => h9) rfl dX4_reads_7 ?_
      rw [hz]
      refine lv_iload_n C.1 C.2.1 dX4_reads_10 rfl (lv_at hl 1 rfl) ?_
      refine lv_aload_n C.1 C.2.1 dX4_reads_11 rfl (lv_at hl 0 rfl) ?_
      refine va_get (ci := 4) (C := RX4) (T := TX4) (N := 34) C.1 C.2.1 C.2.2.2.2.2.1 ui_X4 C.2.2.2.2.1 C.2.2.2.2.2.2.2.1 hP 0 (rfl) rfl 4 (by decide) (C.2.2.2.2.2.1 _ tw_460) (fun _ h9 => h9) rfl dX4_reads_12 ?_
      refine lv_aload_n C.1 C.2.1 dX4_reads_15 rfl (lv_at hl 0 rfl) ?_
      refine va_get (v := .int (I 6)) (ci := 4) (C := RX4) (T := TX4) (N := 34) C.1 C.2.1 C.2.2.2.2.2.1 ui_X4 C.2.2.2.2.1 C.2.2.2.2.2.2.2.1 hP 0 (rfl) rfl 6 (by decide) (C.2.2.2.2.2.1 _ tw_462) (fun _ h9 => h9) rfl dX4_reads_16 ?_
      rw [hy]
      refine va_iald (f := A 4) C.1 C.2.1 C.2.2.2.2.2.2.2.1 hP 4 0 (rfl) rfl (vp_in_nI (by omega) (by decide)) dX4_reads_19 ?_
      rw [nI_clamp (by omega)]
      refine lv_iconst (v := nI 0) C.1 C.2.1 dX4_reads_20 (by decide +kernel) ?_
      refine cm_cS1 3 C (k_X4_homeBy1 l D cI cZ cJ (mw ad cI cZ X (va_up I 0 (nI 0)) A) key (A 4 y9)) tw_572 tw_573 tw_5 tw_574 rfl rfl (by decide +kernel) ⟨Nat.le_of_ble_eq_true rfl, Nat.le_of_ble_eq_true rfl⟩ ⟨Nat.zero_le _, Nat.zero_le _⟩ hP hD hS hl.1 rfl rfl (Nat.le_of_ble_eq_true rfl) dX4_reads_21 (fun H locs hP hD hS => ?_)
      refine lv_iload_n C.1 C.2.1 dX4_reads_24 rfl (lv_at hl 1 rfl) ?_
      refine cm_cV1 (q0 := 0) 3 C (k_X4_find l D cI cZ cJ ad X (va_up I 0 (nI 0)) A z (hm1 (A 4 y9) key) (by omega) (by omega) key) tw_581 tw_583 ts_13 tw_5 tw_584 rfl rfl (rfl) rfl (by decide +kernel) ⟨Nat.le_of_ble_eq_true rfl, Nat.le_of_ble_eq_true rfl⟩ ⟨Nat.zero_le _, Nat.zero_le _⟩ hP hD hS hl.1 rfl rfl (Nat.le_of_ble_eq_true rfl) dX4_reads_25 (fun H locs hP hD hS => ?_)
      rw [e1, optA_none]
      refine lv_if_lt (tgt := 35) C.1 C.2.1 dX4_reads_28 (by decide) (fun _ => ?_) (fun h => absurd (by decide) h)
      refine lv_aload_n C.1 C.2.1 dX4_reads_35 rfl (lv_at hl 0 rfl) ?_
      refine lv_aload_n C.1 C.2.1 dX4_reads_36 rfl (lv_at hl 0 rfl) ?_
      refine va_get (v := .int (I 5)) (ci := 4) (C := RX4) (T := TX4) (N := 34) C.1 C.2.1 C.2.2.2.2.2.1 ui_X4 C.2.2.2.2.1 C.2.2.2.2.2.2.2.1 hP 0 (rfl) rfl 5 (by decide) (C.2.2.2.2.2.1 _ tw_461) (fun _ h9 => h9) rfl dX4_reads_37 ?_
      rw [hz]
      refine lv_iload_n C.1 C.2.1 dX4_reads_40 rfl (lv_at hl 1 rfl) ?_
      refine lv_aload_n C.1 C.2.1 dX4_reads_41 rfl (lv_at hl 0 rfl) ?_
      refine va_get (ci := 4) (C := RX4) (T := TX4) (N := 34) C.1 C.2.1 C.2.2.2.2.2.1 ui_X4 C.2.2.2.2.1 C.2.2.2.2.2.2.2.1 hP 0 (rfl) rfl 4 (by decide) (C.2.2.2.2.2.1 _ tw_460) (fun _ h9 => h9) rfl dX4_reads_42 ?_
      refine lv_aload_n C.1 C.2.1 dX4_reads_45 rfl (lv_at hl 0 rfl) ?_
      refine va_get (v := .int (I 6)) (ci := 4) (C := RX4) (T := TX4) (N := 34) C.1 C.2.1 C.2.2.2.2.2.1 ui_X4 C.2.2.2.2.1 C.2.2.2.2.2.2.2.1 hP 0 (rfl) rfl 6 (by decide) (C.2.2.2.2.2.1 _ tw_462) (fun _ h9 => h9) rfl dX4_reads_46 ?_
      rw [hy]
      refine va_iald (f := A 4) C.1 C.2.1 C.2.2.2.2.2.2.2.1 hP 4 0 (rfl) rfl (vp_in_nI (by omega) (by decide)) dX4_reads_49 ?_
      rw [nI_clamp (by omega)]
      refine lv_iconst (v := nI 1) C.1 C.2.1 dX4_reads_50 (by decide +kernel) ?_
      refine cm_cS1 3 C (k_X4_homeBy2 l D cI cZ cJ (mw ad cI cZ X (va_up I 0 (nI 0)) A) key (A 4 y9)) tw_572 tw_573 tw_5 tw_574 rfl rfl (by decide +kernel) ⟨Nat.le_of_ble_eq_true rfl, Nat.le_of_ble_eq_true rfl⟩ ⟨Nat.zero_le _, Nat.zero_le _⟩ hP hD hS hl.1 rfl rfl (Nat.le_of_ble_eq_true rfl) dX4_reads_51 (fun H locs hP hD hS => ?_)
      refine lv_iload_n C.1 C.2.1 dX4_reads_54 rfl (lv_at hl 1 rfl) ?_
      refine cm_cV1 (q0 := 0) 3 C (k_X4_find l D cI cZ cJ ad X (va_up I 0 (nI 0)) A z (hm2 (A 4 y9) key) (by omega) (by omega) key) tw_581 tw_583 ts_13 tw_5 tw_584 rfl rfl (rfl) rfl (by decide +kernel) ⟨Nat.le_of_ble_eq_true rfl, Nat.le_of_ble_eq_true rfl⟩ ⟨Nat.zero_le _, Nat.zero_le _⟩ hP hD hS hl.1 rfl rfl (Nat.le_of_ble_eq_true rfl) dX4_reads_55 (fun H locs hP hD hS => ?_)
      rw [e2, optA_some]
      refine lv_if_lt (tgt := 65) C.1 C.2.1 dX4_reads_58 (by decide) (fun h => absurd h (nI_pos (by omega))) (fun _ => ?_)
      refine lv_iconst (v := nI 2) C.1 C.2.1 dX4_reads_61 (by decide +kernel) ?_
      refine lv_goto (tgt := 66) C.1 C.2.1 dX4_reads_62 (by decide) ?_
      exact cm_iret C hP hD hS dX4_reads_66 (by simp only [rdM, e1, e2]) rfl
    | none =>
      refine lv_aload_n C.1 C.2.1 dX4_reads_0 rfl (lv_at hl 0 rfl) ?_
      refine lv_iconst (v := nI 0) C.1 C.2.1 dX4_reads_1 (by decide +kernel) ?_
      refine va_put (ci := 4) (C := RX4) (T := TX4) (N := 34) (ty := .int) C.1 C.2.1 C.2.2.2.2.2.1 ui_X4 tyX4 tyX4_ok nmX4 C.2.2.2.2.1 C.2.2.2.2.2.2.2.1 hP hD hS 0 (rfl) rfl 0 (by decide) (C.2.2.2.2.2.1 _ tw_456) (fun _ h9 => h9) rfl (by decide +kernel) rfl rfl (Nat.le_of_ble_eq_true rfl) dX4_reads_2 (fun H locs hP hD hS => ?_)
      have hP : va_P D vwCl (mw ad cI cZ X (va_up I 0 (nI 0)) A) H := hP
      have hD : va_D (cm_A (mw ad cI cZ X I A)) (mw ad cI cZ X (va_up I 0 (nI 0)) A) := hD
      refine lv_aload_n C.1 C.2.1 dX4_reads_5 rfl (lv_at hl 0 rfl) ?_
      refine lv_aload_n C.1 C.2.1 dX4_reads_6 rfl (lv_at hl 0 rfl) ?_
      refine va_get (v := .int (I 5)) (ci := 4) (C := RX4) (T := TX4) (N := 34) C.1 C.2.1 C.2.2.2.2.2.1 ui_X4 C.2.2.2.2.1 C.2.2.2.2.2.2.2.1 hP 0 (rfl) rfl 5 (by decide) (C.2.2.2.2.2.1 _ tw_461) (fun _ h9 => h9) rfl dX4_reads_7 ?_
      rw [hz]
      refine lv_iload_n C.1 C.2.1 dX4_reads_10 rfl (lv_at hl 1 rfl) ?_
      refine lv_aload_n C.1 C.2.1 dX4_reads_11 rfl (lv_at hl 0 rfl) ?_
      refine va_get (ci := 4) (C := RX4) (T := TX4) (N := 34) C.1 C.2.1 C.2.2.2.2.2.1 ui_X4 C.2.2.2.2.1 C.2.2.2.2.2.2.2.1 hP 0 (rfl) rfl 4 (by decide) (C.2.2.2.2.2.1 _ tw_460) (fun _ h9 => h9) rfl dX4_reads_12 ?_
      refine lv_aload_n C.1 C.2.1 dX4_reads_15 rfl (lv_at hl 0 rfl) ?_
      refine va_get (v := .int (I 6)) (ci := 4) (C := RX4) (T := TX4) (N := 34) C.1 C.2.1 C.2.2.2.2.2.1 ui_X4 C.2.2.2.2.1 C.2.2.2.2.2.2.2.1 hP 0 (rfl) rfl 6 (by decide) (C.2.2.2.2.2.1 _ tw_462) (fun _ h9 => h9) rfl dX4_reads_16 ?_
      rw [hy]
      refine va_iald (f := A 4) C.1 C.2.1 C.2.2.2.2.2.2.2.1 hP 4 0 (rfl) rfl (vp_in_nI (by omega) (by decide)) dX4_reads_19 ?_
      rw [nI_clamp (by omega)]
      refine lv_iconst (v := nI 0) C.1 C.2.1 dX4_reads_20 (by decide +kernel) ?_
      refine cm_cS1 3 C (k_X4_homeBy1 l D cI cZ cJ (mw ad cI cZ X (va_up I 0 (nI 0)) A) key (A 4 y9)) tw_572 tw_573 tw_5 tw_574 rfl rfl (by decide +kernel) ⟨Nat.le_of_ble_eq_true rfl, Nat.le_of_ble_eq_true rfl⟩ ⟨Nat.zero_le _, Nat.zero_le _⟩ hP hD hS hl.1 rfl rfl (Nat.le_of_ble_eq_true rfl) dX4_reads_21 (fun H locs hP hD hS => ?_)
      refine lv_iload_n C.1 C.2.1 dX4_reads_24 rfl (lv_at hl 1 rfl) ?_
      refine cm_cV1 (q0 := 0) 3 C (k_X4_find l D cI cZ cJ ad X (va_up I 0 (nI 0)) A z (hm1 (A 4 y9) key) (by omega) (by omega) key) tw_581 tw_583 ts_13 tw_5 tw_584 rfl rfl (rfl) rfl (by decide +kernel) ⟨Nat.le_of_ble_eq_true rfl, Nat.le_of_ble_eq_true rfl⟩ ⟨Nat.zero_le _, Nat.zero_le _⟩ hP hD hS hl.1 rfl rfl (Nat.le_of_ble_eq_true rfl) dX4_reads_25 (fun H locs hP hD hS => ?_)
      rw [e1, optA_none]
      refine lv_if_lt (tgt := 35) C.1 C.2.1 dX4_reads_28 (by decide) (fun _ => ?_) (fun h => absurd (by decide) h)
      refine lv_aload_n C.1 C.2.1 dX4_reads_35 rfl (lv_at hl 0 rfl) ?_
      refine lv_aload_n C.1 C.2.1 dX4_reads_36 rfl (lv_at hl 0 rfl) ?_
      refine va_get (v := .int (I 5)) (ci := 4) (C := RX4) (T := TX4) (N := 34) C.1 C.2.1 C.2.2.2.2.2.1 ui_X4 C.2.2.2.2.1 C.2.2.2.2.2.2.2.1 hP 0 (rfl) rfl 5 (by decide) (C.2.2.2.2.2.1 _ tw_461) (fun _ h9 => h9) rfl dX4_reads_37 ?_
      rw [hz]
      refine lv_iload_n C.1 C.2.1 dX4_reads_40 rfl (lv_at hl 1 rfl) ?_
      refine lv_aload_n C.1 C.2.1 dX4_reads_41 rfl (lv_at hl 0 rfl) ?_
      refine va_get (ci := 4) (C := RX4) (T := TX4) (N := 34) C.1 C.2.1 C.2.2.2.2.2.1 ui_X4 C.2.2.2.2.1 C.2.2.2.2.2.2.2.1 hP 0 (rfl) rfl 4 (by decide) (C.2.2.2.2.2.1 _ tw_460) (fun _ h9 => h9) rfl dX4_reads_42 ?_
      refine lv_aload_n C.1 C.2.1 dX4_reads_45 rfl (lv_at hl 0 rfl) ?_
      refine va_get (v := .int (I 6)) (ci := 4) (C := RX4) (T := TX4) (N := 34) C.1 C.2.1 C.2.2.2.2.2.1 ui_X4 C.2.2.2.2.1 C.2.2.2.2.2.2.2.1 hP 0 (rfl) rfl 6 (by decide) (C.2.2.2.2.2.1 _ tw_462) (fun _ h9 => h9) rfl dX4_reads_46 ?_
      rw [hy]
      refine va_iald (f := A 4) C.1 C.2.1 C.2.2.2.2.2.2.2.1 hP 4 0 (rfl) rfl (vp_in_nI (by omega) (by decide)) dX4_reads_49 ?_
      rw [nI_clamp (by omega)]
      refine lv_iconst (v := nI 1) C.1 C.2.1 dX4_reads_50 (by decide +kernel) ?_
      refine cm_cS1 3 C (k_X4_homeBy2 l D cI cZ cJ (mw ad cI cZ X (va_up I 0 (nI 0)) A) key (A 4 y9)) tw_572 tw_573 tw_5 tw_574 rfl rfl (by decide +kernel) ⟨Nat.le_of_ble_eq_true rfl, Nat.le_of_ble_eq_true rfl⟩ ⟨Nat.zero_le _, Nat.zero_le _⟩ hP hD hS hl.1 rfl rfl (Nat.le_of_ble_eq_true rfl) dX4_reads_51 (fun H locs hP hD hS => ?_)
      refine lv_iload_n C.1 C.2.1 dX4_reads_54 rfl (lv_at hl 1 rfl) ?_
      refine cm_cV1 (q0 := 0) 3 C (k_X4_find l D cI cZ cJ ad X (va_up I 0 (nI 0)) A z (hm2 (A 4 y9) key) (by omega) (by omega) key) tw_581 tw_583 ts_13 tw_5 tw_584 rfl rfl (rfl) rfl (by decide +kernel) ⟨Nat.le_of_ble_eq_true rfl, Nat.le_of_ble_eq_true rfl⟩ ⟨Nat.zero_le _, Nat.zero_le _⟩ hP hD hS hl.1 rfl rfl (Nat.le_of_ble_eq_true rfl) dX4_reads_55 (fun H locs hP hD hS => ?_)
      rw [e2, optA_none]
      refine lv_if_lt (tgt := 65) C.1 C.2.1 dX4_reads_58 (by decide) (fun _ => ?_) (fun h => absurd (by decide) h)
      refine lv_iconst (v := nI 3) C.1 C.2.1 dX4_reads_65 (by decide +kernel) ?_
      exact cm_iret C hP hD hS dX4_reads_66 (by simp only [rdM, e1, e2]) rfl
def mpE (ad : Nat → Nat) (cI cZ : ClassId) (X : va_W) (I : Nat → Int32) (A : Nat → Nat → Int32) (z y9 t : Nat) (key val : Int32) (r : Int32) (w1 : va_W) : Prop :=
  (∃ i9, findS (uM A z) (kM A z) (A 4 y9) key = some i9 ∧ r = nI 0 ∧ w1 = mw ad cI cZ X (wPg ((36 * z + i9) / 4) t (va_up I 0 (nI 0), flA (36 * z + i9) key val A)).1 (wPg ((36 * z + i9) / 4) t (va_up I 0 (nI 0), flA (36 * z + i9) key val A)).2) ∨
  (findS (uM A z) (kM A z) (A 4 y9) key = none ∧ ¬ (ch0 (uM A z) (kM A z) (vM A z) (A 4 y9) key val).1 = -2 ∧ piE1 ad cI cZ X (va_up I 0 (nI 0)) A z t (A 4 y9) key val r w1) ∨
  (findS (uM A z) (kM A z) (A 4 y9) key = none ∧ (ch0 (uM A z) (kM A z) (vM A z) (A 4 y9) key val).1 = -2 ∧ ∃ (J : Nat → Int32) (B : Nat → Nat → Int32), (∀ i, i ≠ 29 → J i = va_up I 0 (nI 0) i) ∧ (∀ i, i ≠ 30 → B i = A i) ∧ maE ad cI cZ X J B z y9 t key val r w1)
set_option maxHeartbeats 4000000 in
set_option maxRecDepth 100000 in
/-- put -/
theorem k_X4_put (l : Launch) (D : va_G) (cI cZ cJ : ClassId) (ad : Nat → Nat) (X : va_W) (I : Nat → Int32) (A : Nat → Nat → Int32) (z y9 : Nat) (hz0 : z < 2) (hy0 : y9 < 4) (hz : I 5 = nI z) (hy : I 6 = nI y9) (t : Nat) (hok : okW t (I, A)) (key val : Int32) : CRi l D (cm_T cI cZ cJ) yX4_put cX4_put 5 (some .int) (cm_rm 9 217) [.ref (ad 0), .int key, .int val] (mw ad cI cZ X I A) (mpE ad cI cZ X I A z y9 t key val) := by
  refine CRi.of (by decide) (Nat.le_of_ble_eq_true rfl) ?_
  intro p e s m below meth c ls H locs C hl hP hD hS
  cases ef : findS (uM A z) (kM A z) (A 4 y9) key with
  | some i9 =>
    have q3 := (findS_lt ef).1
    refine lv_aload_n C.1 C.2.1 dX4_put_0 rfl (lv_at hl 0 rfl) ?_
    refine lv_iconst (v := nI 0) C.1 C.2.1 dX4_put_1 (by decide +kernel) ?_
    refine va_put (ci := 4) (C := RX4) (T := TX4) (N := 34) (ty := .int) C.1 C.2.1 C.2.2.2.2.2.1 ui_X4 tyX4 tyX4_ok nmX4 C.2.2.2.2.1 C.2.2.2.2.2.2.2.1 hP hD hS 0 (rfl) rfl 0 (by decide) (C.2.2.2.2.2.1 _ tw_456) (fun _ h9 => h9) rfl (by decide +kernel) rfl rfl (Nat.le_of_ble_eq_true rfl) dX4_put_2 (fun H locs hP hD hS => ?_)
    have hP : va_P D vwCl (mw ad cI cZ X (va_up I 0 (nI 0)) A) H := hP
    have hD : va_D (cm_A (mw ad cI cZ X I A)) (mw ad cI cZ X (va_up I 0 (nI 0)) A) := hD
    refine lv_aload_n C.1 C.2.1 dX4_put_5 rfl (lv_at hl 0 rfl) ?_
    refine lv_aload_n C.1 C.2.1 dX4_put_6 rfl (lv_at hl 0 rfl) ?_
    refine va_get (v := .int (I 5)) (ci := 4) (C := RX4) (T := TX4) (N := 34) C.1 C.2.1 C.2.2.2.2.2.1 ui_X4 C.2.2.2.2.1 C.2.2.2.2.2.2.2.1 hP 0 (rfl) rfl 5 (by decide) (C.2.2.2.2.2.1 _ tw_461) (fun _ h9 => h9) rfl dX4_put_7 ?_
    rw [hz]
    refine lv_aload_n C.1 C.2.1 dX4_put_10 rfl (lv_at hl 0 rfl) ?_
    refine va_get (ci := 4) (C := RX4) (T := TX4) (N := 34) C.1 C.2.1 C.2.2.2.2.2.1 ui_X4 C.2.2.2.2.1 C.2.2.2.2.2.2.2.1 hP 0 (rfl) rfl 4 (by decide) (C.2.2.2.2.2.1 _ tw_460) (fun _ h9 => h9) rfl dX4_put_11 ?_
    refine lv_aload_n C.1 C.2.1 dX4_put_14 rfl (lv_at hl 0 rfl) ?_
    refine va_get (v := .int (I 6)) (ci := 4) (C := RX4) (T := TX4) (N := 34) C.1 C.2.1 C.2.2.2.2.2.1 ui_X4 C.2.2.2.2.1 C.2.2.2.2.2.2.2.1 hP 0 (rfl) rfl 6 (by decide) (C.2.2.2.2.2.1 _ tw_462) (fun _ h9 => h9) rfl dX4_put_15 ?_
    rw [hy]
    refine va_iald (f := A 4) C.1 C.2.1 C.2.2.2.2.2.2.2.1 hP 4 0 (rfl) rfl (vp_in_nI (by omega) (by decide)) dX4_put_18 ?_
    rw [nI_clamp (by omega)]
    refine lv_iload_n C.1 C.2.1 dX4_put_19 rfl (lv_at hl 1 rfl) ?_
    refine cm_cV1 (q0 := 0) 3 C (k_X4_place l D cI cZ cJ ad X (va_up I 0 (nI 0)) A z (by omega) (A 4 y9) key) tw_568 tw_570 ts_12 tw_5 tw_571 rfl rfl (rfl) rfl (by decide +kernel) ⟨Nat.le_of_ble_eq_true rfl, Nat.le_of_ble_eq_true rfl⟩ ⟨Nat.zero_le _, Nat.zero_le _⟩ hP hD hS hl.1 rfl rfl (Nat.le_of_ble_eq_true rfl) dX4_put_20 (fun H locs hP hD hS => ?_)
    rw [ef, optA_some]
    refine lv_istore_n (lv' := [(3, _), (0, _), (1, _), (2, _)]) C.1 C.2.1 dX4_put_23 rfl hl (by decide) rfl (fun ls hl => ?_)
    refine lv_iload_n C.1 C.2.1 dX4_put_24 rfl (lv_at hl 0 rfl) ?_
    refine lv_if_lt (tgt := 38) C.1 C.2.1 dX4_put_25 (by decide) (fun h => absurd h (nI_pos (by omega))) (fun _ => ?_)
    refine lv_aload_n C.1 C.2.1 dX4_put_28 rfl (lv_at hl 1 rfl) ?_
    refine lv_iload_n C.1 C.2.1 dX4_put_29 rfl (lv_at hl 0 rfl) ?_
    refine lv_iload_n C.1 C.2.1 dX4_put_30 rfl (lv_at hl 2 rfl) ?_
    refine lv_iload_n C.1 C.2.1 dX4_put_31 rfl (lv_at hl 3 rfl) ?_
    refine lv_iconst (v := nI 1) C.1 C.2.1 dX4_put_32 (by decide +kernel) ?_
    refine cm_cV0 (q0 := 0) 4 C (k_X4_fill1 l D cI cZ cJ ad X (va_up I 0 (nI 0)) A t hok.1 hok.2.1 hok.2.2 (36 * z + i9) (by omega) key val) tw_588 tw_590 ts_14 tw_5 tw_591 rfl rfl (rfl) rfl (by decide +kernel) ⟨Nat.le_of_ble_eq_true rfl, Nat.le_of_ble_eq_true rfl⟩ ⟨Nat.zero_le _, Nat.zero_le _⟩ hP hD hS hl.1 rfl rfl (Nat.le_of_ble_eq_true rfl) dX4_put_33 (fun H locs hP hD hS => ?_)
    refine lv_iconst (v := nI 0) C.1 C.2.1 dX4_put_36 (by decide +kernel) ?_
    exact cr_iret C hP hD hS dX4_put_37 (Or.inl ⟨i9, ef, rfl, rfl⟩)
  | none =>
    refine lv_aload_n C.1 C.2.1 dX4_put_0 rfl (lv_at hl 0 rfl) ?_
    refine lv_iconst (v := nI 0) C.1 C.2.1 dX4_put_1 (by decide +kernel) ?_
    refine va_put (ci := 4) (C := RX4) (T := TX4) (N := 34) (ty := .int) C.1 C.2.1 C.2.2.2.2.2.1 ui_X4 tyX4 tyX4_ok nmX4 C.2.2.2.2.1 C.2.2.2.2.2.2.2.1 hP hD hS 0 (rfl) rfl 0 (by decide) (C.2.2.2.2.2.1 _ tw_456) (fun _ h9 => h9) rfl (by decide +kernel) rfl rfl (Nat.le_of_ble_eq_true rfl) dX4_put_2 (fun H locs hP hD hS => ?_)
    have hP : va_P D vwCl (mw ad cI cZ X (va_up I 0 (nI 0)) A) H := hP
    have hD : va_D (cm_A (mw ad cI cZ X I A)) (mw ad cI cZ X (va_up I 0 (nI 0)) A) := hD
    refine lv_aload_n C.1 C.2.1 dX4_put_5 rfl (lv_at hl 0 rfl) ?_
    refine lv_aload_n C.1 C.2.1 dX4_put_6 rfl (lv_at hl 0 rfl) ?_
    refine va_get (v := .int (I 5)) (ci := 4) (C := RX4) (T := TX4) (N := 34) C.1 C.2.1 C.2.2.2.2.2.1 ui_X4 C.2.2.2.2.1 C.2.2.2.2.2.2.2.1 hP 0 (rfl) rfl 5 (by decide) (C.2.2.2.2.2.1 _ tw_461) (fun _ h9 => h9) rfl dX4_put_7 ?_
    rw [hz]
    refine lv_aload_n C.1 C.2.1 dX4_put_10 rfl (lv_at hl 0 rfl) ?_
    refine va_get (ci := 4) (C := RX4) (T := TX4) (N := 34) C.1 C.2.1 C.2.2.2.2.2.1 ui_X4 C.2.2.2.2.1 C.2.2.2.2.2.2.2.1 hP 0 (rfl) rfl 4 (by decide) (C.2.2.2.2.2.1 _ tw_460) (fun _ h9 => h9) rfl dX4_put_11 ?_
    refine lv_aload_n C.1 C.2.1 dX4_put_14 rfl (lv_at hl 0 rfl) ?_
    refine va_get (v := .int (I 6)) (ci := 4) (C := RX4) (T := TX4) (N := 34) C.1 C.2.1 C.2.2.2.2.2.1 ui_X4 C.2.2.2.2.1 C.2.2.2.2.2.2.2.1 hP 0 (rfl) rfl 6 (by decide) (C.2.2.2.2.2.1 _ tw_462) (fun _ h9 => h9) rfl dX4_put_15 ?_
    rw [hy]
    refine va_iald (f := A 4) C.1 C.2.1 C.2.2.2.2.2.2.2.1 hP 4 0 (rfl) rfl (vp_in_nI (by omega) (by decide)) dX4_put_18 ?_
    rw [nI_clamp (by omega)]
    refine lv_iload_n C.1 C.2.1 dX4_put_19 rfl (lv_at hl 1 rfl) ?_
    refine cm_cV1 (q0 := 0) 3 C (k_X4_place l D cI cZ cJ ad X (va_up I 0 (nI 0)) A z (by omega) (A 4 y9) key) tw_568 tw_570 ts_12 tw_5 tw_571 rfl rfl (rfl) rfl (by decide +kernel) ⟨Nat.le_of_ble_eq_true rfl, Nat.le_of_ble_eq_true rfl⟩ ⟨Nat.zero_le _, Nat.zero_le _⟩ hP hD hS hl.1 rfl rfl (Nat.le_of_ble_eq_true rfl) dX4_put_20 (fun H locs hP hD hS => ?_)
    rw [ef, optA_none]
    refine lv_istore_n (lv' := [(3, _), (0, _), (1, _), (2, _)]) C.1 C.2.1 dX4_put_23 rfl hl (by decide) rfl (fun ls hl => ?_)
    refine lv_iload_n C.1 C.2.1 dX4_put_24 rfl (lv_at hl 0 rfl) ?_
    refine lv_if_lt (tgt := 38) C.1 C.2.1 dX4_put_25 (by decide) (fun _ => ?_) (fun h => absurd (by decide) h)
    refine lv_aload_n C.1 C.2.1 dX4_put_38 rfl (lv_at hl 1 rfl) ?_
    refine lv_aload_n C.1 C.2.1 dX4_put_39 rfl (lv_at hl 1 rfl) ?_
    refine va_get (v := .int (I 5)) (ci := 4) (C := RX4) (T := TX4) (N := 34) C.1 C.2.1 C.2.2.2.2.2.1 ui_X4 C.2.2.2.2.1 C.2.2.2.2.2.2.2.1 hP 0 (rfl) rfl 5 (by decide) (C.2.2.2.2.2.1 _ tw_461) (fun _ h9 => h9) rfl dX4_put_40 ?_
    rw [hz]
    refine lv_aload_n C.1 C.2.1 dX4_put_43 rfl (lv_at hl 1 rfl) ?_
    refine va_get (ci := 4) (C := RX4) (T := TX4) (N := 34) C.1 C.2.1 C.2.2.2.2.2.1 ui_X4 C.2.2.2.2.1 C.2.2.2.2.2.2.2.1 hP 0 (rfl) rfl 4 (by decide) (C.2.2.2.2.2.1 _ tw_460) (fun _ h9 => h9) rfl dX4_put_44 ?_
    refine lv_aload_n C.1 C.2.1 dX4_put_47 rfl (lv_at hl 1 rfl) ?_
    refine va_get (v := .int (I 6)) (ci := 4) (C := RX4) (T := TX4) (N := 34) C.1 C.2.1 C.2.2.2.2.2.1 ui_X4 C.2.2.2.2.1 C.2.2.2.2.2.2.2.1 hP 0 (rfl) rfl 6 (by decide) (C.2.2.2.2.2.1 _ tw_462) (fun _ h9 => h9) rfl dX4_put_48 ?_
    rw [hy]
    refine va_iald (f := A 4) C.1 C.2.1 C.2.2.2.2.2.2.2.1 hP 4 0 (rfl) rfl (vp_in_nI (by omega) (by decide)) dX4_put_51 ?_
    rw [nI_clamp (by omega)]
    refine lv_iload_n C.1 C.2.1 dX4_put_52 rfl (lv_at hl 2 rfl) ?_
    refine lv_iload_n C.1 C.2.1 dX4_put_53 rfl (lv_at hl 3 rfl) ?_
    refine lv_iconst (v := nI 1) C.1 C.2.1 dX4_put_54 (by decide +kernel) ?_
    refine cr_cV (q0 := 0) 5 C (k_X4_putInto1 l D cI cZ cJ ad X (va_up I 0 (nI 0)) A z hz0 t ⟨hok.1, hok.2.1, hok.2.2⟩ (A 4 y9) key val) tw_608 tw_610 ts_19 tw_5 tw_611 rfl rfl rfl rfl (by decide +kernel) ⟨Nat.le_of_ble_eq_true rfl, Nat.le_of_ble_eq_true rfl⟩ ⟨Nat.zero_le _, Nat.zero_le _⟩ hP hD hS hl.1 rfl rfl (Nat.le_of_ble_eq_true rfl) dX4_put_55 (fun r9 w1 H locs hE hP hD hS => ?_)
    by_cases hfull : (ch0 (uM A z) (kM A z) (vM A z) (A 4 y9) key val).1 = -2
    · obtain ⟨J, B9, fj, fb, rfl, hc⟩ := hE
      rcases hc with ⟨-, rfl⟩ | ⟨p9, -, -, q | q, -⟩ | ⟨q, -⟩
      · refine lv_istore (lv' := [(4, _), (3, _), (0, _), (1, _), (2, _)]) C.1 C.2.1 dX4_put_58 hl (by decide) rfl (fun ls hl => ?_)
        refine lv_iload C.1 C.2.1 dX4_put_60 (lv_at hl 0 rfl) ?_
        refine lv_if_le (tgt := 70) C.1 C.2.1 dX4_put_62 (by decide) (fun _ => ?_) (fun h => absurd (by rw [hfull]; decide) h)
        refine lv_aload_n C.1 C.2.1 dX4_put_70 rfl (lv_at hl 2 rfl) ?_
        refine lv_iload_n C.1 C.2.1 dX4_put_71 rfl (lv_at hl 3 rfl) ?_
        refine lv_iload_n C.1 C.2.1 dX4_put_72 rfl (lv_at hl 4 rfl) ?_
        have hz5 : J 5 = nI z := (fj 5 (by decide)).trans hz
        have hy6 : J 6 = nI y9 := (fj 6 (by decide)).trans hy
        have hok3 : okW t (J, B9) := ⟨hok.1, (fj 20 (by decide)).trans hok.2.1, fun i hi => by
          have hk := hok.2.2 i hi
          unfold wKnd at hk ⊢
          show B9 22 i = _ ∨ (B9 22 i = _ ∧ ∃ n, n ≤ 7 ∧ B9 24 i = nI n) ∨ (B9 22 i = _ ∧ ∃ r, r < 18 ∧ B9 23 i = nI r)
          rw [fb 22 (by decide), fb 23 (by decide), fb 24 (by decide)]
          exact hk⟩
        refine cr_cV (q0 := 0) 2 C (k_X4_makeAnew l D cI cZ cJ ad X J B9 z y9 hz0 hy0 hz5 hy6 t hok3 key val) tw_632 tw_634 ts_25 tw_5 tw_635 rfl rfl rfl rfl (by decide +kernel) ⟨Nat.le_of_ble_eq_true rfl, Nat.le_of_ble_eq_true rfl⟩ ⟨Nat.zero_le _, Nat.zero_le _⟩ hP hD hS hl.1 rfl rfl (Nat.le_of_ble_eq_true rfl) dX4_put_73 (fun r8 w2 H locs hE hP hD hS => ?_)
        exact cr_iret C hP hD hS dX4_put_76 (Or.inr (Or.inr ⟨ef, hfull, J, B9, fj, fb, hE⟩))
      · rw [hfull] at q; exact absurd q (by decide)
      · rw [hfull] at q; exact absurd q (by decide)
      · rw [hfull] at q; exact absurd q (by decide)
    · refine lv_istore (lv' := [(4, _), (3, _), (0, _), (1, _), (2, _)]) C.1 C.2.1 dX4_put_58 hl (by decide) rfl (fun ls hl => ?_)
      refine lv_iload C.1 C.2.1 dX4_put_60 (lv_at hl 0 rfl) ?_
      refine lv_if_le (tgt := 70) C.1 C.2.1 dX4_put_62 (by decide) (fun h => absurd h (by rw [hE.choose_spec.choose_spec.2.2.1]; rcases ch0_code (uM A z) (kM A z) (vM A z) (A 4 y9) key val with q | q | q | q <;> first | exact absurd q hfull | (rw [q]; decide))) (fun _ => ?_)
      refine lv_iload C.1 C.2.1 dX4_put_65 (lv_at hl 0 rfl) ?_
      refine lv_goto (tgt := 76) C.1 C.2.1 dX4_put_67 (by decide) ?_
      exact cr_iret C hP hD hS dX4_put_76 (Or.inr (Or.inl ⟨ef, hfull, hE⟩))
