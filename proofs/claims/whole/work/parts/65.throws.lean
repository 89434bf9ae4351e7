/-! ===== the class: seed, crash, slot, count ===== -/
theorem nI_sub {a b : Nat} (h : b ≤ a) : nI a - nI b = nI (a - b) := by
  have h1 := nI_add (a - b) b
  rw [Nat.sub_add_cancel h] at h1
  rw [← h1]
  exact Int32.add_sub_cancel _ _
set_option maxHeartbeats 4000000 in
set_option maxRecDepth 100000 in
/-- seed, refused -/
theorem k_X3_seed1 (l : Launch) (hls : l.stackTraces = false) (D : va_G) (cI cZ cJ : ClassId) (ad : Nat → Nat) (X : va_W) (sd fn ft fm : Nat → Int32) (σ : WS) (ta lp lr : Int32) (k0 v0 : Int32) (hb : ¬ (¬ k0 < 0 ∧ k0 < nI 4)) : CT l D (cm_T cI cZ cJ) yX3_seed cX3_seed 3 none ({ frames := 6, cells := 1, slots := 6, locals := 82 } : Room) [.ref (ad 0), .int k0, .int v0] (cw ad cI X sd fn ft fm σ ta lp lr) eA := by
  refine CT.of (by decide) (Nat.le_of_ble_eq_true rfl) ?_
  intro p e s m below meth c ls C hnx hX hl hP
  by_cases h0 : k0 < 0
  · refine lv_iload_n C.1 C.2.1 dX3_seed_0 rfl (lv_at hl 1 rfl) ?_
    refine lv_if_lt (tgt := 13) C.1 C.2.1 dX3_seed_1 (by decide) (fun _ => ?_) (fun h => absurd (h0) h)
    exact ct_throwA hls C hnx hX hX.2.1.1 tw_321 tw_9 hl.1 dX3_seed_13 dX3_seed_16 dX3_seed_17 dX3_seed_19 dX3_seed_22 (Nat.le_of_ble_eq_true rfl) (Nat.le_of_ble_eq_true rfl) (Nat.le_of_ble_eq_true rfl) (Nat.le_of_ble_eq_true rfl)
  · refine lv_iload_n C.1 C.2.1 dX3_seed_0 rfl (lv_at hl 1 rfl) ?_
    refine lv_if_lt (tgt := 13) C.1 C.2.1 dX3_seed_1 (by decide) (fun h => absurd h (h0)) (fun _ => ?_)
    refine lv_iload_n C.1 C.2.1 dX3_seed_4 rfl (lv_at hl 1 rfl) ?_
    refine lv_aload_n C.1 C.2.1 dX3_seed_5 rfl (lv_at hl 0 rfl) ?_
    refine va_get (ci := 3) (C := RX3) (T := TX3) (N := 10) C.1 C.2.1 C.2.2.2.2.2.1 ui_X3 C.2.2.2.2.1 C.2.2.2.2.2.2.2.1 hP 0 (rfl) rfl 0 (by decide) (C.2.2.2.2.2.1 _ tw_61) (fun _ h9 => h9) rfl dX3_seed_6 ?_
    refine va_alen C.1 C.2.1 C.2.2.2.2.2.2.2.1 hP 1 0 (rfl) rfl (v := nI 4) rfl dX3_seed_9 ?_
    refine lv_icmp_lt (tgt := 23) C.1 C.2.1 dX3_seed_10 (by decide) (fun h => absurd h (fun q => hb ⟨h0, q⟩)) (fun _ => ?_)
    exact ct_throwA hls C hnx hX hX.2.1.1 tw_321 tw_9 hl.1 dX3_seed_13 dX3_seed_16 dX3_seed_17 dX3_seed_19 dX3_seed_22 (Nat.le_of_ble_eq_true rfl) (Nat.le_of_ble_eq_true rfl) (Nat.le_of_ble_eq_true rfl) (Nat.le_of_ble_eq_true rfl)
set_option maxHeartbeats 4000000 in
set_option maxRecDepth 100000 in
/-- seed, too late -/
theorem k_X3_seed2 (l : Launch) (hls : l.stackTraces = false) (D : va_G) (cI cZ cJ : ClassId) (ad : Nat → Nat) (X : va_W) (sd fn ft fm : Nat → Int32) (σ : WS) (ta lp lr : Int32) (k9 : Nat) (hk9 : k9 < 4) (v0 : Int32) (he9 : 0 < σ.2.2.2.2) (he8 : σ.2.2.2.2 < 2 ^ 31) : CT l D (cm_T cI cZ cJ) yX3_seed cX3_seed 3 none ({ frames := 6, cells := 1, slots := 6, locals := 82 } : Room) [.ref (ad 0), .int (nI k9), .int v0] (cw ad cI X sd fn ft fm σ ta lp lr) eS := by
  refine CT.of (by decide) (Nat.le_of_ble_eq_true rfl) ?_
  intro p e s m below meth c ls C hnx hX hl hP
  refine lv_iload_n C.1 C.2.1 dX3_seed_0 rfl (lv_at hl 1 rfl) ?_
  refine lv_if_lt (tgt := 13) C.1 C.2.1 dX3_seed_1 (by decide) (fun h => absurd h (nI_pos (by omega))) (fun _ => ?_)
  refine lv_iload_n C.1 C.2.1 dX3_seed_4 rfl (lv_at hl 1 rfl) ?_
  refine lv_aload_n C.1 C.2.1 dX3_seed_5 rfl (lv_at hl 0 rfl) ?_
  refine va_get (ci := 3) (C := RX3) (T := TX3) (N := 10) C.1 C.2.1 C.2.2.2.2.2.1 ui_X3 C.2.2.2.2.1 C.2.2.2.2.2.2.2.1 hP 0 (rfl) rfl 0 (by decide) (C.2.2.2.2.2.1 _ tw_61) (fun _ h9 => h9) rfl dX3_seed_6 ?_
  refine va_alen C.1 C.2.1 C.2.2.2.2.2.2.2.1 hP 1 0 (rfl) rfl (v := nI 4) rfl dX3_seed_9 ?_
  refine lv_icmp_lt (tgt := 23) C.1 C.2.1 dX3_seed_10 (by decide) (fun _ => ?_) (fun h => absurd (nI_lt (by omega) (by decide)) h)
  refine lv_aload_n C.1 C.2.1 dX3_seed_23 rfl (lv_at hl 0 rfl) ?_
  refine va_get (ci := 3) (C := RX3) (T := TX3) (N := 10) C.1 C.2.1 C.2.2.2.2.2.1 ui_X3 C.2.2.2.2.1 C.2.2.2.2.2.2.2.1 hP 0 (rfl) rfl 6 (by decide) (C.2.2.2.2.2.1 _ tw_67) (fun _ h9 => h9) rfl dX3_seed_24 ?_
  refine lv_if_eq (tgt := 40) C.1 C.2.1 dX3_seed_27 (by decide) (fun h => absurd h (nI_ne0 he9 he8)) (fun _ => ?_)
  exact ct_throwS hls C hnx hX hX.2.1.2.1 tw_388 tw_10 hl.1 dX3_seed_30 dX3_seed_33 dX3_seed_34 dX3_seed_36 dX3_seed_39 (Nat.le_of_ble_eq_true rfl) (Nat.le_of_ble_eq_true rfl) (Nat.le_of_ble_eq_true rfl) (Nat.le_of_ble_eq_true rfl)
set_option maxHeartbeats 4000000 in
set_option maxRecDepth 100000 in
/-- seed -/
theorem k_X3_seed0 (l : Launch) (D : va_G) (cI cZ cJ : ClassId) (ad : Nat → Nat) (X : va_W) (sd fn ft fm : Nat → Int32) (σ : WS) (ta lp lr : Int32) (k9 : Nat) (hk9 : k9 < 4) (v0 : Int32) (he9 : σ.2.2.2.2 = 0) : CM l D (cm_T cI cZ cJ) yX3_seed cX3_seed 3 none (cm_rm 1 20) [.ref (ad 0), .int (nI k9), .int v0] (cw ad cI X sd fn ft fm σ ta lp lr) none (cw ad cI X (upd sd k9 v0) fn ft fm σ ta lp lr) := by
  refine CM.of (by decide) (Nat.le_of_ble_eq_true rfl) ?_
  intro p e s m below meth c ls H locs C hl hP hD hS
  refine lv_iload_n C.1 C.2.1 dX3_seed_0 rfl (lv_at hl 1 rfl) ?_
  refine lv_if_lt (tgt := 13) C.1 C.2.1 dX3_seed_1 (by decide) (fun h => absurd h (nI_pos (by omega))) (fun _ => ?_)
  refine lv_iload_n C.1 C.2.1 dX3_seed_4 rfl (lv_at hl 1 rfl) ?_
  refine lv_aload_n C.1 C.2.1 dX3_seed_5 rfl (lv_at hl 0 rfl) ?_
  refine va_get (ci := 3) (C := RX3) (T := TX3) (N := 10) C.1 C.2.1 C.2.2.2.2.2.1 ui_X3 C.2.2.2.2.1 C.2.2.2.2.2.2.2.1 hP 0 (rfl) rfl 0 (by decide) (C.2.2.2.2.2.1 _ tw_61) (fun _ h9 => h9) rfl dX3_seed_6 ?_
  refine va_alen C.1 C.2.1 C.2.2.2.2.2.2.2.1 hP 1 0 (rfl) rfl (v := nI 4) rfl dX3_seed_9 ?_
  refine lv_icmp_lt (tgt := 23) C.1 C.2.1 dX3_seed_10 (by decide) (fun _ => ?_) (fun h => absurd (nI_lt (by omega) (by decide)) h)
  refine lv_aload_n C.1 C.2.1 dX3_seed_23 rfl (lv_at hl 0 rfl) ?_
  refine va_get (ci := 3) (C := RX3) (T := TX3) (N := 10) C.1 C.2.1 C.2.2.2.2.2.1 ui_X3 C.2.2.2.2.1 C.2.2.2.2.2.2.2.1 hP 0 (rfl) rfl 6 (by decide) (C.2.2.2.2.2.1 _ tw_67) (fun _ h9 => h9) rfl dX3_seed_24 ?_
  refine lv_if_eq (tgt := 40) C.1 C.2.1 dX3_seed_27 (by decide) (fun _ => ?_) (fun h => absurd (by rw [he9]; exact nI_0) h)
  refine lv_aload_n C.1 C.2.1 dX3_seed_40 rfl (lv_at hl 0 rfl) ?_
  refine va_get (ci := 3) (C := RX3) (T := TX3) (N := 10) C.1 C.2.1 C.2.2.2.2.2.1 ui_X3 C.2.2.2.2.1 C.2.2.2.2.2.2.2.1 hP 0 (rfl) rfl 0 (by decide) (C.2.2.2.2.2.1 _ tw_61) (fun _ h9 => h9) rfl dX3_seed_41 ?_
  refine lv_iload_n C.1 C.2.1 dX3_seed_44 rfl (lv_at hl 1 rfl) ?_
  refine lv_iload_n C.1 C.2.1 dX3_seed_45 rfl (lv_at hl 2 rfl) ?_
  refine va_iast C.1 C.2.1 C.2.2.2.2.2.2.2.1 hP hD hS 1 0 (rfl) rfl (vp_in_nI (by omega) (by decide)) dX3_seed_46 (fun H locs hP hD hS => ?_)
  rw [nI_clamp (show k9 < 2 ^ 31 by omega)] at hP hD
  have hP : va_P D vwCl (cw ad cI X (upd sd k9 v0) fn ft fm σ ta lp lr) H := hP
  have hD : va_D (cm_A (cw ad cI X sd fn ft fm σ ta lp lr)) (cw ad cI X (upd sd k9 v0) fn ft fm σ ta lp lr) := hD
  exact cm_vret C hP hD hS dX3_seed_47 rfl
set_option maxHeartbeats 4000000 in
set_option maxRecDepth 100000 in
/-- crash, refused -/
theorem k_X3_crash1 (l : Launch) (hls : l.stackTraces = false) (D : va_G) (cI cZ cJ : ClassId) (ad : Nat → Nat) (X : va_W) (sd fn ft fm : Nat → Int32) (σ : WS) (ta lp lr : Int32) (x : Int32) (hb : ¬ 0 ≤ x) : CT l D (cm_T cI cZ cJ) yX3_crash cX3_crash 4 (some .int) ({ frames := 6, cells := 1, slots := 6, locals := 82 } : Room) [.ref (ad 0), .int x] (cw ad cI X sd fn ft fm σ ta lp lr) eA := by
  refine CT.of (by decide) (Nat.le_of_ble_eq_true rfl) ?_
  intro p e s m below meth c ls C hnx hX hl hP
  refine lv_iload_n C.1 C.2.1 dX3_crash_0 rfl (lv_at hl 1 rfl) ?_
  refine lv_if_ge (tgt := 14) C.1 C.2.1 dX3_crash_1 (by decide) (fun h => absurd h (fun q => hb q)) (fun _ => ?_)
  exact ct_throwA hls C hnx hX hX.2.1.2.2.1 tw_321 tw_9 hl.1 dX3_crash_4 dX3_crash_7 dX3_crash_8 dX3_crash_10 dX3_crash_13 (Nat.le_of_ble_eq_true rfl) (Nat.le_of_ble_eq_true rfl) (Nat.le_of_ble_eq_true rfl) (Nat.le_of_ble_eq_true rfl)
set_option maxHeartbeats 4000000 in
set_option maxRecDepth 100000 in
/-- crash -/
theorem k_X3_crash0 (l : Launch) (D : va_G) (cI cZ cJ : ClassId) (ad : Nat → Nat) (X : va_W) (sd fn ft fm : Nat → Int32) (σ : WS) (ta lp lr : Int32) (hσ : sOk σ) (d9 : Nat) (hd9 : d9 < 2 ^ 31) (n9 : Nat) (hn9 : n9 = if d9 < σ.2.2.2.1 then d9 else σ.2.2.2.1) (t9 : Nat) (hm : mOk (va_cpy (doN σ.2.1 σ.2.2.1 0 n9 σ.1) fm 418 0 22) t9) : CM l D (cm_T cI cZ cJ) yX3_crash cX3_crash 4 (some .int) (cm_rm 4 108) [.ref (ad 0), .int (nI d9)] (cw ad cI X sd fn ft fm σ ta lp lr) (some (.int (nI (σ.2.2.2.1 - n9)))) (cw ad cI X sd (cpN (upd (fillN (va_cpy (doN σ.2.1 σ.2.2.1 0 n9 σ.1) fm 418 0 22) 0 t9 (doN σ.2.1 σ.2.2.1 0 n9 σ.1)) 418 (nI 0)) 0 20 fn) ft (va_cpy (doN σ.2.1 σ.2.2.1 0 n9 σ.1) fm 418 0 22) ((upd (fillN (va_cpy (doN σ.2.1 σ.2.2.1 0 n9 σ.1) fm 418 0 22) 0 t9 (doN σ.2.1 σ.2.2.1 0 n9 σ.1)) 418 (nI 0)), σ.2.1, σ.2.2.1, 0, σ.2.2.2.2) ta lp (nI t9)) := by
  refine CM.of (by decide) (Nat.le_of_ble_eq_true rfl) ?_
  intro p e s m below meth c ls H locs C hl hP hD hS
  have h40 := hσ.1
  have hn8 : n9 ≤ σ.2.2.2.1 := by rw [hn9]; split <;> omega
  have hmn : (if nI σ.2.2.2.1 < nI d9 then nI σ.2.2.2.1 else nI d9) = nI n9 := by
    rw [hn9]
    by_cases q : d9 < σ.2.2.2.1
    · rw [if_pos q, if_neg (nI_nlt (by omega) (by omega))]
    · rw [if_neg q]
      by_cases q2 : σ.2.2.2.1 < d9
      · rw [if_pos (nI_lt q2 (by omega))]
      · rw [if_neg (nI_nlt (by omega) (by omega)), show d9 = σ.2.2.2.1 by omega]
  refine lv_iload_n C.1 C.2.1 dX3_crash_0 rfl (lv_at hl 1 rfl) ?_
  refine lv_if_ge (tgt := 14) C.1 C.2.1 dX3_crash_1 (by decide) (fun _ => ?_) (fun h => absurd (nI_pos' hd9) h)
  refine lv_aload_n C.1 C.2.1 dX3_crash_14 rfl (lv_at hl 0 rfl) ?_
  refine va_get (ci := 3) (C := RX3) (T := TX3) (N := 10) C.1 C.2.1 C.2.2.2.2.2.1 ui_X3 C.2.2.2.2.1 C.2.2.2.2.2.2.2.1 hP 0 (rfl) rfl 4 (by decide) (C.2.2.2.2.2.1 _ tw_65) (fun _ h9 => h9) rfl dX3_crash_15 ?_
  refine cm_cV1 (q0 := 8) 0 C (k_X2_size l D cI cZ cJ (cw ad cI X sd fn ft fm σ ta lp lr) σ.2.2.2.1 (qW := 8) (qR := 9) (qC := 10) rfl rfl rfl) tw_248 tw_249 tw_250 tw_3 tw_251 rfl rfl (rfl) rfl (by decide +kernel) ⟨Nat.le_of_ble_eq_true rfl, Nat.le_of_ble_eq_true rfl⟩ ⟨Nat.zero_le _, Nat.zero_le _⟩ hP hD hS hl.1 rfl rfl (Nat.le_of_ble_eq_true rfl) dX3_crash_18 (fun H locs hP hD hS => ?_)
  refine lv_istore_n (lv' := [(2, _), (0, _), (1, _)]) C.1 C.2.1 dX3_crash_21 rfl hl (by decide) rfl (fun ls hl => ?_)
  refine lv_iload_n C.1 C.2.1 dX3_crash_22 rfl (lv_at hl 2 rfl) ?_
  refine lv_iload_n C.1 C.2.1 dX3_crash_23 rfl (lv_at hl 0 rfl) ?_
  refine va_mmin C.1 C.2.1 (C.2.2.2.1.trans hl.1.symm) C.2.2.2.2.1 (C.2.2.2.2.2.1 _ tw_412) (C.2.2.2.2.2.1 _ tw_413) (C.2.2.2.2.2.1 _ tw_12) (C.2.2.2.2.2.1 _ tw_414) (Nat.le_of_ble_eq_true rfl) (Nat.le_of_ble_eq_true rfl) (Nat.zero_le _) (Nat.zero_le _) dX3_crash_24 ?_
  rw [hmn]
  refine lv_istore_n (lv' := [(3, _), (2, _), (0, _), (1, _)]) C.1 C.2.1 dX3_crash_27 rfl hl (by decide) rfl (fun ls hl => ?_)
  refine lv_aload_n C.1 C.2.1 dX3_crash_28 rfl (lv_at hl 2 rfl) ?_
  refine va_get (ci := 3) (C := RX3) (T := TX3) (N := 10) C.1 C.2.1 C.2.2.2.2.2.1 ui_X3 C.2.2.2.2.1 C.2.2.2.2.2.2.2.1 hP 0 (rfl) rfl 4 (by decide) (C.2.2.2.2.2.1 _ tw_65) (fun _ h9 => h9) rfl dX3_crash_29 ?_
  refine lv_iload_n C.1 C.2.1 dX3_crash_32 rfl (lv_at hl 0 rfl) ?_
  refine lv_aload_n C.1 C.2.1 dX3_crash_33 rfl (lv_at hl 2 rfl) ?_
  refine va_get (ci := 3) (C := RX3) (T := TX3) (N := 10) C.1 C.2.1 C.2.2.2.2.2.1 ui_X3 C.2.2.2.2.1 C.2.2.2.2.2.2.2.1 hP 0 (rfl) rfl 2 (by decide) (C.2.2.2.2.2.1 _ tw_63) (fun _ h9 => h9) rfl dX3_crash_34 ?_
  refine cm_cV0 (q0 := 8) 2 C (k_X2_doFirst l D cI cZ cJ (cw ad cI X sd fn ft fm σ ta lp lr) σ.2.2.2.1 (qW := 8) (qR := 9) (qC := 10) rfl rfl rfl (qI := 4) (qA := 5) rfl rfl (by decide) (by decide) (by decide) (by decide) n9 (by omega) (fun j hj => hσ.2 j (by omega))) tw_252 tw_253 tw_254 tw_3 tw_255 rfl rfl (rfl) rfl (by decide +kernel) ⟨Nat.le_of_ble_eq_true rfl, Nat.le_of_ble_eq_true rfl⟩ ⟨Nat.zero_le _, Nat.zero_le _⟩ hP hD hS hl.1 rfl rfl (Nat.le_of_ble_eq_true rfl) dX3_crash_37 (fun H locs hP hD hS => ?_)
  have hP : va_P D vwCl (cw ad cI X sd fn ft fm (doN σ.2.1 σ.2.2.1 0 n9 σ.1, σ.2.1, σ.2.2.1, 0, σ.2.2.2.2) ta lp lr) H := hP
  have hD : va_D (cm_A (cw ad cI X sd fn ft fm σ ta lp lr)) (cw ad cI X sd fn ft fm (doN σ.2.1 σ.2.2.1 0 n9 σ.1, σ.2.1, σ.2.2.1, 0, σ.2.2.2.2) ta lp lr) := hD
  refine lv_aload_n C.1 C.2.1 dX3_crash_40 rfl (lv_at hl 2 rfl) ?_
  refine cm_cV0 (q0 := 0) 0 C (k_X3_recover l D cI cZ cJ ad X sd fn ft fm (doN σ.2.1 σ.2.2.1 0 n9 σ.1, σ.2.1, σ.2.2.1, 0, σ.2.2.2.2) ta lp lr t9 hm) tw_415 tw_417 ts_10 tw_1 tw_418 rfl rfl (rfl) rfl (by decide +kernel) ⟨Nat.le_of_ble_eq_true rfl, Nat.le_of_ble_eq_true rfl⟩ ⟨Nat.zero_le _, Nat.zero_le _⟩ hP hD hS hl.1 rfl rfl (Nat.le_of_ble_eq_true rfl) dX3_crash_41 (fun H locs hP hD hS => ?_)
  have hP : va_P D vwCl (cw ad cI X sd (cpN (upd (fillN (va_cpy (doN σ.2.1 σ.2.2.1 0 n9 σ.1) fm 418 0 22) 0 t9 (doN σ.2.1 σ.2.2.1 0 n9 σ.1)) 418 (nI 0)) 0 20 fn) ft (va_cpy (doN σ.2.1 σ.2.2.1 0 n9 σ.1) fm 418 0 22) ((upd (fillN (va_cpy (doN σ.2.1 σ.2.2.1 0 n9 σ.1) fm 418 0 22) 0 t9 (doN σ.2.1 σ.2.2.1 0 n9 σ.1)) 418 (nI 0)), σ.2.1, σ.2.2.1, 0, σ.2.2.2.2) ta lp (nI t9)) H := hP
  have hD : va_D (cm_A (cw ad cI X sd fn ft fm σ ta lp lr)) (cw ad cI X sd (cpN (upd (fillN (va_cpy (doN σ.2.1 σ.2.2.1 0 n9 σ.1) fm 418 0 22) 0 t9 (doN σ.2.1 σ.2.2.1 0 n9 σ.1)) 418 (nI 0)) 0 20 fn) ft (va_cpy (doN σ.2.1 σ.2.2.1 0 n9 σ.1) fm 418 0 22) ((upd (fillN (va_cpy (doN σ.2.1 σ.2.2.1 0 n9 σ.1) fm 418 0 22) 0 t9 (doN σ.2.1 σ.2.2.1 0 n9 σ.1)) 418 (nI 0)), σ.2.1, σ.2.2.1, 0, σ.2.2.2.2) ta lp (nI t9)) := hD
  refine lv_iload_n C.1 C.2.1 dX3_crash_44 rfl (lv_at hl 1 rfl) ?_
  refine lv_iload_n C.1 C.2.1 dX3_crash_45 rfl (lv_at hl 0 rfl) ?_
  refine lv_isub C.1 C.2.1 dX3_crash_46 ?_
  rw [nI_sub hn8]
  exact cm_iret C hP hD hS dX3_crash_47 rfl rfl
set_option maxHeartbeats 4000000 in
set_option maxRecDepth 100000 in
/-- slot, refused -/
theorem k_X3_slot1 (l : Launch) (hls : l.stackTraces = false) (D : va_G) (cI cZ cJ : ClassId) (ad : Nat → Nat) (X : va_W) (sd fn ft fm : Nat → Int32) (σ : WS) (ta lp lr : Int32) (pg sl wh : Int32) (hb : ¬ (¬ pg < 0 ∧ pg < nI 9 ∧ ¬ sl < 0 ∧ sl < nI 4 ∧ ¬ wh < 0 ∧ wh ≤ nI 2)) : CT l D (cm_T cI cZ cJ) yX3_slot cX3_slot 5 (some .int) ({ frames := 6, cells := 1, slots := 6, locals := 82 } : Room) [.ref (ad 0), .int pg, .int sl, .int wh] (cw ad cI X sd fn ft fm σ ta lp lr) eA := by
  refine CT.of (by decide) (Nat.le_of_ble_eq_true rfl) ?_
  intro p e s m below meth c ls C hnx hX hl hP
  refine lv_iload_n C.1 C.2.1 dX3_slot_0 rfl (lv_at hl 1 rfl) ?_
  refine lv_if_lt (tgt := 10) C.1 C.2.1 dX3_slot_1 (by decide) (fun h1 => ?_) (fun h1 => ?_)
  · exact ct_throwA hls C hnx hX hX.2.1.2.2.2.1 tw_321 tw_9 hl.1 dX3_slot_10 dX3_slot_13 dX3_slot_14 dX3_slot_16 dX3_slot_19 (Nat.le_of_ble_eq_true rfl) (Nat.le_of_ble_eq_true rfl) (Nat.le_of_ble_eq_true rfl) (Nat.le_of_ble_eq_true rfl)
  · refine lv_iload_n C.1 C.2.1 dX3_slot_4 rfl (lv_at hl 1 rfl) ?_
    refine lv_bipush (v := nI 9) C.1 C.2.1 dX3_slot_5 (by decide +kernel) ?_
    refine lv_icmp_lt (tgt := 20) C.1 C.2.1 dX3_slot_7 (by decide) (fun h7 => ?_) (fun h7 => ?_)
    · refine lv_iload_n C.1 C.2.1 dX3_slot_20 rfl (lv_at hl 2 rfl) ?_
      refine lv_if_lt (tgt := 29) C.1 C.2.1 dX3_slot_21 (by decide) (fun h21 => ?_) (fun h21 => ?_)
      · exact ct_throwA hls C hnx hX hX.2.1.2.2.2.2.1 tw_321 tw_9 hl.1 dX3_slot_29 dX3_slot_32 dX3_slot_33 dX3_slot_35 dX3_slot_38 (Nat.le_of_ble_eq_true rfl) (Nat.le_of_ble_eq_true rfl) (Nat.le_of_ble_eq_true rfl) (Nat.le_of_ble_eq_true rfl)
      · refine lv_iload_n C.1 C.2.1 dX3_slot_24 rfl (lv_at hl 2 rfl) ?_
        refine lv_iconst (v := nI 4) C.1 C.2.1 dX3_slot_25 (by decide +kernel) ?_
        refine lv_icmp_lt (tgt := 39) C.1 C.2.1 dX3_slot_26 (by decide) (fun h26 => ?_) (fun h26 => ?_)
        · refine lv_iload_n C.1 C.2.1 dX3_slot_39 rfl (lv_at hl 3 rfl) ?_
          refine lv_if_lt (tgt := 48) C.1 C.2.1 dX3_slot_40 (by decide) (fun h40 => ?_) (fun h40 => ?_)
          · exact ct_throwA hls C hnx hX hX.2.1.2.2.2.2.2.1 tw_321 tw_9 hl.1 dX3_slot_48 dX3_slot_51 dX3_slot_52 dX3_slot_54 dX3_slot_57 (Nat.le_of_ble_eq_true rfl) (Nat.le_of_ble_eq_true rfl) (Nat.le_of_ble_eq_true rfl) (Nat.le_of_ble_eq_true rfl)
          · refine lv_iload_n C.1 C.2.1 dX3_slot_43 rfl (lv_at hl 3 rfl) ?_
            refine lv_iconst (v := nI 2) C.1 C.2.1 dX3_slot_44 (by decide +kernel) ?_
            refine lv_icmp_le (tgt := 58) C.1 C.2.1 dX3_slot_45 (by decide) (fun h45 => ?_) (fun h45 => ?_)
            · exact absurd ⟨h1, h7, h21, h26, h40, h45⟩ hb
            · exact ct_throwA hls C hnx hX hX.2.1.2.2.2.2.2.1 tw_321 tw_9 hl.1 dX3_slot_48 dX3_slot_51 dX3_slot_52 dX3_slot_54 dX3_slot_57 (Nat.le_of_ble_eq_true rfl) (Nat.le_of_ble_eq_true rfl) (Nat.le_of_ble_eq_true rfl) (Nat.le_of_ble_eq_true rfl)
        · exact ct_throwA hls C hnx hX hX.2.1.2.2.2.2.1 tw_321 tw_9 hl.1 dX3_slot_29 dX3_slot_32 dX3_slot_33 dX3_slot_35 dX3_slot_38 (Nat.le_of_ble_eq_true rfl) (Nat.le_of_ble_eq_true rfl) (Nat.le_of_ble_eq_true rfl) (Nat.le_of_ble_eq_true rfl)
    · exact ct_throwA hls C hnx hX hX.2.1.2.2.2.1 tw_321 tw_9 hl.1 dX3_slot_10 dX3_slot_13 dX3_slot_14 dX3_slot_16 dX3_slot_19 (Nat.le_of_ble_eq_true rfl) (Nat.le_of_ble_eq_true rfl) (Nat.le_of_ble_eq_true rfl) (Nat.le_of_ble_eq_true rfl)
set_option maxHeartbeats 4000000 in
set_option maxRecDepth 100000 in
/-- slot -/
theorem k_X3_slot0 (l : Launch) (D : va_G) (cI cZ cJ : ClassId) (ad : Nat → Nat) (X : va_W) (sd fn ft fm : Nat → Int32) (σ : WS) (ta lp lr : Int32) (z : Nat) (hz0 : z < 2) (hz : fn 396 = nI z) (pg sl wh : Nat) (hpg : pg < 9) (hsl : sl < 4) (hwh : wh ≤ 2) : CM l D (cm_T cI cZ cJ) yX3_slot cX3_slot 5 (some .int) (cm_rm 3 64) [.ref (ad 0), .int (nI pg), .int (nI sl), .int (nI wh)] (cw ad cI X sd fn ft fm σ ta lp lr) (some (.int (if uR fn z (4 * pg + sl) = false then nI 0 else if wh = 0 then nI 1 else if wh = 1 then kR fn z (4 * pg + sl) else vR fn z (4 * pg + sl)))) (cw ad cI X sd fn ft fm σ ta lp lr) := by
  refine CM.of (by decide) (Nat.le_of_ble_eq_true rfl) ?_
  intro p e s m below meth c ls H locs C hl hP hD hS
  by_cases hu : uC fn (36 * z + (4 * pg + sl)) = 0
  · have hd : decide (¬ uC fn (36 * z + (4 * pg + sl)) = 0) = false := by simp [hu]
    refine lv_iload_n C.1 C.2.1 dX3_slot_0 rfl (lv_at hl 1 rfl) ?_
    refine lv_if_lt (tgt := 10) C.1 C.2.1 dX3_slot_1 (by decide) (fun h => absurd h (nI_pos (by omega))) (fun _ => ?_)
    refine lv_iload_n C.1 C.2.1 dX3_slot_4 rfl (lv_at hl 1 rfl) ?_
    refine lv_bipush (v := nI 9) C.1 C.2.1 dX3_slot_5 (by decide +kernel) ?_
    refine lv_icmp_lt (tgt := 20) C.1 C.2.1 dX3_slot_7 (by decide) (fun _ => ?_) (fun h => absurd (nI_lt (by omega) (by decide)) h)
    refine lv_iload_n C.1 C.2.1 dX3_slot_20 rfl (lv_at hl 2 rfl) ?_
    refine lv_if_lt (tgt := 29) C.1 C.2.1 dX3_slot_21 (by decide) (fun h => absurd h (nI_pos (by omega))) (fun _ => ?_)
    refine lv_iload_n C.1 C.2.1 dX3_slot_24 rfl (lv_at hl 2 rfl) ?_
    refine lv_iconst (v := nI 4) C.1 C.2.1 dX3_slot_25 (by decide +kernel) ?_
    refine lv_icmp_lt (tgt := 39) C.1 C.2.1 dX3_slot_26 (by decide) (fun _ => ?_) (fun h => absurd (nI_lt (by omega) (by decide)) h)
    refine lv_iload_n C.1 C.2.1 dX3_slot_39 rfl (lv_at hl 3 rfl) ?_
    refine lv_if_lt (tgt := 48) C.1 C.2.1 dX3_slot_40 (by decide) (fun h => absurd h (nI_pos (by omega))) (fun _ => ?_)
    refine lv_iload_n C.1 C.2.1 dX3_slot_43 rfl (lv_at hl 3 rfl) ?_
    refine lv_iconst (v := nI 2) C.1 C.2.1 dX3_slot_44 (by decide +kernel) ?_
    refine lv_icmp_le (tgt := 58) C.1 C.2.1 dX3_slot_45 (by decide) (fun _ => ?_) (fun h => absurd (nI_le (by omega) (by decide)) h)
    refine lv_aload_n C.1 C.2.1 dX3_slot_58 rfl (lv_at hl 0 rfl) ?_
    refine va_get (ci := 3) (C := RX3) (T := TX3) (N := 10) C.1 C.2.1 C.2.2.2.2.2.1 ui_X3 C.2.2.2.2.1 C.2.2.2.2.2.2.2.1 hP 0 (rfl) rfl 1 (by decide) (C.2.2.2.2.2.1 _ tw_62) (fun _ h9 => h9) rfl dX3_slot_59 ?_
    refine lv_iload_n C.1 C.2.1 dX3_slot_62 rfl (lv_at hl 1 rfl) ?_
    refine cm_cV1 (q0 := 2) 1 C (k_X0_rowInUse l D cI cZ cJ (cw ad cI X sd fn ft fm σ ta lp lr) (qI := 2) (qA := 3) rfl rfl z pg hz) tw_120 tw_121 tw_122 tw_2 tw_123 rfl rfl (rfl) rfl (by decide +kernel) ⟨Nat.le_of_ble_eq_true rfl, Nat.le_of_ble_eq_true rfl⟩ ⟨Nat.zero_le _, Nat.zero_le _⟩ hP hD hS hl.1 rfl rfl (Nat.le_of_ble_eq_true rfl) dX3_slot_63 (fun H locs hP hD hS => ?_)
    refine lv_iload_n C.1 C.2.1 dX3_slot_66 rfl (lv_at hl 2 rfl) ?_
    refine cm_cS1 2 C (c_placeOf l D cI cZ cJ (cw ad cI X sd fn ft fm σ ta lp lr) (z * 9 + pg) sl) tw_168 tw_133 tw_1 tw_134 rfl rfl (by decide +kernel) ⟨Nat.le_of_ble_eq_true rfl, Nat.le_of_ble_eq_true rfl⟩ ⟨Nat.zero_le _, Nat.zero_le _⟩ hP hD hS hl.1 rfl rfl (Nat.le_of_ble_eq_true rfl) dX3_slot_67 (fun H locs hP hD hS => ?_)
    rw [show (z * 9 + pg) * 4 + sl = 36 * z + (4 * pg + sl) by omega]
    refine lv_istore (lv' := [(4, _), (0, _), (1, _), (2, _), (3, _)]) C.1 C.2.1 dX3_slot_70 hl (by decide) rfl (fun ls hl => ?_)
    refine lv_aload_n C.1 C.2.1 dX3_slot_72 rfl (lv_at hl 1 rfl) ?_
    refine va_get (ci := 3) (C := RX3) (T := TX3) (N := 10) C.1 C.2.1 C.2.2.2.2.2.1 ui_X3 C.2.2.2.2.1 C.2.2.2.2.2.2.2.1 hP 0 (rfl) rfl 1 (by decide) (C.2.2.2.2.2.1 _ tw_62) (fun _ h9 => h9) rfl dX3_slot_73 ?_
    refine lv_iload C.1 C.2.1 dX3_slot_76 (lv_at hl 0 rfl) ?_
    refine cm_cV1 (q0 := 2) 1 C (k_X0_holds l D cI cZ cJ (cw ad cI X sd fn ft fm σ ta lp lr) (qI := 2) (qA := 3) rfl rfl (36 * z + (4 * pg + sl)) (by omega)) tw_205 tw_206 tw_207 tw_2 tw_208 rfl rfl (rfl) rfl (by decide +kernel) ⟨Nat.le_of_ble_eq_true rfl, Nat.le_of_ble_eq_true rfl⟩ ⟨Nat.zero_le _, Nat.zero_le _⟩ hP hD hS hl.1 rfl rfl (Nat.le_of_ble_eq_true rfl) dX3_slot_78 (fun H locs hP hD hS => ?_)
    rw [hd]
    refine lv_if_ne (tgt := 86) C.1 C.2.1 dX3_slot_81 (by decide) (fun h => absurd (rfl) h) (fun _ => ?_)
    refine lv_iconst (v := nI 0) C.1 C.2.1 dX3_slot_84 (by decide +kernel) ?_
    exact cm_iret C hP hD hS dX3_slot_85 (by simp [uR, kR, vR, hu]) rfl
  · have hd : decide (¬ uC fn (36 * z + (4 * pg + sl)) = 0) = true := by simp [hu]
    by_cases h0 : wh = 0
    · refine lv_iload_n C.1 C.2.1 dX3_slot_0 rfl (lv_at hl 1 rfl) ?_
      refine lv_if_lt (tgt := 10) C.1 C.2.1 dX3_slot_1 (by decide) (fun h => absurd h (nI_pos (by omega))) (fun _ => ?_)
      refine lv_iload_n C.1 C.2.1 dX3_slot_4 rfl (lv_at hl 1 rfl) ?_
      refine lv_bipush (v := nI 9) C.1 C.2.1 dX3_slot_5 (by decide +kernel) ?_
      refine lv_icmp_lt (tgt := 20) C.1 C.2.1 dX3_slot_7 (by decide) (fun _ => ?_) (fun h => absurd (nI_lt (by omega) (by decide)) h)
      refine lv_iload_n C.1 C.2.1 dX3_slot_20 rfl (lv_at hl 2 rfl) ?_
      refine lv_if_lt (tgt := 29) C.1 C.2.1 dX3_slot_21 (by decide) (fun h => absurd h (nI_pos (by omega))) (fun _ => ?_)
      refine lv_iload_n C.1 C.2.1 dX3_slot_24 rfl (lv_at hl 2 rfl) ?_
      refine lv_iconst (v := nI 4) C.1 C.2.1 dX3_slot_25 (by decide +kernel) ?_
      refine lv_icmp_lt (tgt := 39) C.1 C.2.1 dX3_slot_26 (by decide) (fun _ => ?_) (fun h => absurd (nI_lt (by omega) (by decide)) h)
      refine lv_iload_n C.1 C.2.1 dX3_slot_39 rfl (lv_at hl 3 rfl) ?_
      refine lv_if_lt (tgt := 48) C.1 C.2.1 dX3_slot_40 (by decide) (fun h => absurd h (nI_pos (by omega))) (fun _ => ?_)
      refine lv_iload_n C.1 C.2.1 dX3_slot_43 rfl (lv_at hl 3 rfl) ?_
      refine lv_iconst (v := nI 2) C.1 C.2.1 dX3_slot_44 (by decide +kernel) ?_
      refine lv_icmp_le (tgt := 58) C.1 C.2.1 dX3_slot_45 (by decide) (fun _ => ?_) (fun h => absurd (nI_le (by omega) (by decide)) h)
      refine lv_aload_n C.1 C.2.1 dX3_slot_58 rfl (lv_at hl 0 rfl) ?_
      refine va_get (ci := 3) (C := RX3) (T := TX3) (N := 10) C.1 C.2.1 C.2.2.2.2.2.1 ui_X3 C.2.2.2.2.1 C.2.2.2.2.2.2.2.1 hP 0 (rfl) rfl 1 (by decide) (C.2.2.2.2.2.1 _ tw_62) (fun _ h9 => h9) rfl dX3_slot_59 ?_
      refine lv_iload_n C.1 C.2.1 dX3_slot_62 rfl (lv_at hl 1 rfl) ?_
      refine cm_cV1 (q0 := 2) 1 C (k_X0_rowInUse l D cI cZ cJ (cw ad cI X sd fn ft fm σ ta lp lr) (qI := 2) (qA := 3) rfl rfl z pg hz) tw_120 tw_121 tw_122 tw_2 tw_123 rfl rfl (rfl) rfl (by decide +kernel) ⟨Nat.le_of_ble_eq_true rfl, Nat.le_of_ble_eq_true rfl⟩ ⟨Nat.zero_le _, Nat.zero_le _⟩ hP hD hS hl.1 rfl rfl (Nat.le_of_ble_eq_true rfl) dX3_slot_63 (fun H locs hP hD hS => ?_)
      refine lv_iload_n C.1 C.2.1 dX3_slot_66 rfl (lv_at hl 2 rfl) ?_
      refine cm_cS1 2 C (c_placeOf l D cI cZ cJ (cw ad cI X sd fn ft fm σ ta lp lr) (z * 9 + pg) sl) tw_168 tw_133 tw_1 tw_134 rfl rfl (by decide +kernel) ⟨Nat.le_of_ble_eq_true rfl, Nat.le_of_ble_eq_true rfl⟩ ⟨Nat.zero_le _, Nat.zero_le _⟩ hP hD hS hl.1 rfl rfl (Nat.le_of_ble_eq_true rfl) dX3_slot_67 (fun H locs hP hD hS => ?_)
      rw [show (z * 9 + pg) * 4 + sl = 36 * z + (4 * pg + sl) by omega]
      refine lv_istore (lv' := [(4, _), (0, _), (1, _), (2, _), (3, _)]) C.1 C.2.1 dX3_slot_70 hl (by decide) rfl (fun ls hl => ?_)
      refine lv_aload_n C.1 C.2.1 dX3_slot_72 rfl (lv_at hl 1 rfl) ?_
      refine va_get (ci := 3) (C := RX3) (T := TX3) (N := 10) C.1 C.2.1 C.2.2.2.2.2.1 ui_X3 C.2.2.2.2.1 C.2.2.2.2.2.2.2.1 hP 0 (rfl) rfl 1 (by decide) (C.2.2.2.2.2.1 _ tw_62) (fun _ h9 => h9) rfl dX3_slot_73 ?_
      refine lv_iload C.1 C.2.1 dX3_slot_76 (lv_at hl 0 rfl) ?_
      refine cm_cV1 (q0 := 2) 1 C (k_X0_holds l D cI cZ cJ (cw ad cI X sd fn ft fm σ ta lp lr) (qI := 2) (qA := 3) rfl rfl (36 * z + (4 * pg + sl)) (by omega)) tw_205 tw_206 tw_207 tw_2 tw_208 rfl rfl (rfl) rfl (by decide +kernel) ⟨Nat.le_of_ble_eq_true rfl, Nat.le_of_ble_eq_true rfl⟩ ⟨Nat.zero_le _, Nat.zero_le _⟩ hP hD hS hl.1 rfl rfl (Nat.le_of_ble_eq_true rfl) dX3_slot_78 (fun H locs hP hD hS => ?_)
      rw [hd]
      refine lv_if_ne (tgt := 86) C.1 C.2.1 dX3_slot_81 (by decide) (fun _ => ?_) (fun h => absurd h (by decide))
      refine lv_iload_n C.1 C.2.1 dX3_slot_86 rfl (lv_at hl 4 rfl) ?_
      refine lv_if_ne (tgt := 92) C.1 C.2.1 dX3_slot_87 (by decide) (fun h => absurd (by rw [h0]; rfl) h) (fun _ => ?_)
      refine lv_iconst (v := nI 1) C.1 C.2.1 dX3_slot_90 (by decide +kernel) ?_
      exact cm_iret C hP hD hS dX3_slot_91 (by simp [uR, kR, vR, hu, h0]) rfl
    · by_cases h1 : wh = 1
      · refine lv_iload_n C.1 C.2.1 dX3_slot_0 rfl (lv_at hl 1 rfl) ?_
        refine lv_if_lt (tgt := 10) C.1 C.2.1 dX3_slot_1 (by decide) (fun h => absurd h (nI_pos (by omega))) (fun _ => ?_)
        refine lv_iload_n C.1 C.2.1 dX3_slot_4 rfl (lv_at hl 1 rfl) ?_
        refine lv_bipush (v := nI 9) C.1 C.2.1 dX3_slot_5 (by decide +kernel) ?_
        refine lv_icmp_lt (tgt := 20) C.1 C.2.1 dX3_slot_7 (by decide) (fun _ => ?_) (fun h => absurd (nI_lt (by omega) (by decide)) h)
        refine lv_iload_n C.1 C.2.1 dX3_slot_20 rfl (lv_at hl 2 rfl) ?_
        refine lv_if_lt (tgt := 29) C.1 C.2.1 dX3_slot_21 (by decide) (fun h => absurd h (nI_pos (by omega))) (fun _ => ?_)
        refine lv_iload_n C.1 C.2.1 dX3_slot_24 rfl (lv_at hl 2 rfl) ?_
        refine lv_iconst (v := nI 4) C.1 C.2.1 dX3_slot_25 (by decide +kernel) ?_
        refine lv_icmp_lt (tgt := 39) C.1 C.2.1 dX3_slot_26 (by decide) (fun _ => ?_) (fun h => absurd (nI_lt (by omega) (by decide)) h)
        refine lv_iload_n C.1 C.2.1 dX3_slot_39 rfl (lv_at hl 3 rfl) ?_
        refine lv_if_lt (tgt := 48) C.1 C.2.1 dX3_slot_40 (by decide) (fun h => absurd h (nI_pos (by omega))) (fun _ => ?_)
        refine lv_iload_n C.1 C.2.1 dX3_slot_43 rfl (lv_at hl 3 rfl) ?_
        refine lv_iconst (v := nI 2) C.1 C.2.1 dX3_slot_44 (by decide +kernel) ?_
        refine lv_icmp_le (tgt := 58) C.1 C.2.1 dX3_slot_45 (by decide) (fun _ => ?_) (fun h => absurd (nI_le (by omega) (by decide)) h)
        refine lv_aload_n C.1 C.2.1 dX3_slot_58 rfl (lv_at hl 0 rfl) ?_
        refine va_get (ci := 3) (C := RX3) (T := TX3) (N := 10) C.1 C.2.1 C.2.2.2.2.2.1 ui_X3 C.2.2.2.2.1 C.2.2.2.2.2.2.2.1 hP 0 (rfl) rfl 1 (by decide) (C.2.2.2.2.2.1 _ tw_62) (fun _ h9 => h9) rfl dX3_slot_59 ?_
        refine lv_iload_n C.1 C.2.1 dX3_slot_62 rfl (lv_at hl 1 rfl) ?_
        refine cm_cV1 (q0 := 2) 1 C (k_X0_rowInUse l D cI cZ cJ (cw ad cI X sd fn ft fm σ ta lp lr) (qI := 2) (qA := 3) rfl rfl z pg hz) tw_120 tw_121 tw_122 tw_2 tw_123 rfl rfl (rfl) rfl (by decide +kernel) ⟨Nat.le_of_ble_eq_true rfl, Nat.le_of_ble_eq_true rfl⟩ ⟨Nat.zero_le _, Nat.zero_le _⟩ hP hD hS hl.1 rfl rfl (Nat.le_of_ble_eq_true rfl) dX3_slot_63 (fun H locs hP hD hS => ?_)
        refine lv_iload_n C.1 C.2.1 dX3_slot_66 rfl (lv_at hl 2 rfl) ?_
        refine cm_cS1 2 C (c_placeOf l D cI cZ cJ (cw ad cI X sd fn ft fm σ ta lp lr) (z * 9 + pg) sl) tw_168 tw_133 tw_1 tw_134 rfl rfl (by decide +kernel) ⟨Nat.le_of_ble_eq_true rfl, Nat.le_of_ble_eq_true rfl⟩ ⟨Nat.zero_le _, Nat.zero_le _⟩ hP hD hS hl.1 rfl rfl (Nat.le_of_ble_eq_true rfl) dX3_slot_67 (fun H locs hP hD hS => ?_)
        rw [show (z * 9 + pg) * 4 + sl = 36 * z + (4 * pg + sl) by omega]
        refine lv_istore (lv' := [(4, _), (0, _), (1, _), (2, _), (3, _)]) C.1 C.2.1 dX3_slot_70 hl (by decide) rfl (fun ls hl => ?_)
        refine lv_aload_n C.1 C.2.1 dX3_slot_72 rfl (lv_at hl 1 rfl) ?_
        refine va_get (ci := 3) (C := RX3) (T := TX3) (N := 10) C.1 C.2.1 C.2.2.2.2.2.1 ui_X3 C.2.2.2.2.1 C.2.2.2.2.2.2.2.1 hP 0 (rfl) rfl 1 (by decide) (C.2.2.2.2.2.1 _ tw_62) (fun _ h9 => h9) rfl dX3_slot_73 ?_
        refine lv_iload C.1 C.2.1 dX3_slot_76 (lv_at hl 0 rfl) ?_
        refine cm_cV1 (q0 := 2) 1 C (k_X0_holds l D cI cZ cJ (cw ad cI X sd fn ft fm σ ta lp lr) (qI := 2) (qA := 3) rfl rfl (36 * z + (4 * pg + sl)) (by omega)) tw_205 tw_206 tw_207 tw_2 tw_208 rfl rfl (rfl) rfl (by decide +kernel) ⟨Nat.le_of_ble_eq_true rfl, Nat.le_of_ble_eq_true rfl⟩ ⟨Nat.zero_le _, Nat.zero_le _⟩ hP hD hS hl.1 rfl rfl (Nat.le_of_ble_eq_true rfl) dX3_slot_78 (fun H locs hP hD hS => ?_)
        rw [hd]
        refine lv_if_ne (tgt := 86) C.1 C.2.1 dX3_slot_81 (by decide) (fun _ => ?_) (fun h => absurd h (by decide))
        refine lv_iload_n C.1 C.2.1 dX3_slot_86 rfl (lv_at hl 4 rfl) ?_
        refine lv_if_ne (tgt := 92) C.1 C.2.1 dX3_slot_87 (by decide) (fun _ => ?_) (fun h => absurd h (fun q => h0 ((nI_eq (b := 0) (by omega) (by decide)).mp q)))
        refine lv_iload_n C.1 C.2.1 dX3_slot_92 rfl (lv_at hl 4 rfl) ?_
        refine lv_iconst (v := nI 1) C.1 C.2.1 dX3_slot_93 (by decide +kernel) ?_
        refine lv_icmp_ne (tgt := 109) C.1 C.2.1 dX3_slot_94 (by decide) (fun h => absurd (by rw [h1]) h) (fun _ => ?_)
        refine lv_aload_n C.1 C.2.1 dX3_slot_97 rfl (lv_at hl 1 rfl) ?_
        refine va_get (ci := 3) (C := RX3) (T := TX3) (N := 10) C.1 C.2.1 C.2.2.2.2.2.1 ui_X3 C.2.2.2.2.1 C.2.2.2.2.2.2.2.1 hP 0 (rfl) rfl 1 (by decide) (C.2.2.2.2.2.1 _ tw_62) (fun _ h9 => h9) rfl dX3_slot_98 ?_
        refine lv_iload C.1 C.2.1 dX3_slot_101 (lv_at hl 0 rfl) ?_
        refine cm_cV1 (q0 := 2) 1 C (k_X0_keyAt l D cI cZ cJ (cw ad cI X sd fn ft fm σ ta lp lr) (qI := 2) (qA := 3) rfl rfl (36 * z + (4 * pg + sl)) (by omega)) tw_174 tw_175 tw_176 tw_2 tw_177 rfl rfl (rfl) rfl (by decide +kernel) ⟨Nat.le_of_ble_eq_true rfl, Nat.le_of_ble_eq_true rfl⟩ ⟨Nat.zero_le _, Nat.zero_le _⟩ hP hD hS hl.1 rfl rfl (Nat.le_of_ble_eq_true rfl) dX3_slot_103 (fun H locs hP hD hS => ?_)
        refine lv_goto (tgt := 118) C.1 C.2.1 dX3_slot_106 (by decide) ?_
        exact cm_iret C hP hD hS dX3_slot_118 (by simp [uR, kR, vR, hu, h1]) rfl
      · refine lv_iload_n C.1 C.2.1 dX3_slot_0 rfl (lv_at hl 1 rfl) ?_
        refine lv_if_lt (tgt := 10) C.1 C.2.1 dX3_slot_1 (by decide) (fun h => absurd h (nI_pos (by omega))) (fun _ => ?_)
        refine lv_iload_n C.1 C.2.1 dX3_slot_4 rfl (lv_at hl 1 rfl) ?_
        refine lv_bipush (v := nI 9) C.1 C.2.1 dX3_slot_5 (by decide +kernel) ?_
        refine lv_icmp_lt (tgt := 20) C.1 C.2.1 dX3_slot_7 (by decide) (fun _ => ?_) (fun h => absurd (nI_lt (by omega) (by decide)) h)
        refine lv_iload_n C.1 C.2.1 dX3_slot_20 rfl (lv_at hl 2 rfl) ?_
        refine lv_if_lt (tgt := 29) C.1 C.2.1 dX3_slot_21 (by decide) (fun h => absurd h (nI_pos (by omega))) (fun _ => ?_)
        refine lv_iload_n C.1 C.2.1 dX3_slot_24 rfl (lv_at hl 2 rfl) ?_
        refine lv_iconst (v := nI 4) C.1 C.2.1 dX3_slot_25 (by decide +kernel) ?_
        refine lv_icmp_lt (tgt := 39) C.1 C.2.1 dX3_slot_26 (by decide) (fun _ => ?_) (fun h => absurd (nI_lt (by omega) (by decide)) h)
        refine lv_iload_n C.1 C.2.1 dX3_slot_39 rfl (lv_at hl 3 rfl) ?_
        refine lv_if_lt (tgt := 48) C.1 C.2.1 dX3_slot_40 (by decide) (fun h => absurd h (nI_pos (by omega))) (fun _ => ?_)
        refine lv_iload_n C.1 C.2.1 dX3_slot_43 rfl (lv_at hl 3 rfl) ?_
        refine lv_iconst (v := nI 2) C.1 C.2.1 dX3_slot_44 (by decide +kernel) ?_
        refine lv_icmp_le (tgt := 58) C.1 C.2.1 dX3_slot_45 (by decide) (fun _ => ?_) (fun h => absurd (nI_le (by omega) (by decide)) h)
        refine lv_aload_n C.1 C.2.1 dX3_slot_58 rfl (lv_at hl 0 rfl) ?_
        refine va_get (ci := 3) (C := RX3) (T := TX3) (N := 10) C.1 C.2.1 C.2.2.2.2.2.1 ui_X3 C.2.2.2.2.1 C.2.2.2.2.2.2.2.1 hP 0 (rfl) rfl 1 (by decide) (C.2.2.2.2.2.1 _ tw_62) (fun _ h9 => h9) rfl dX3_slot_59 ?_
        refine lv_iload_n C.1 C.2.1 dX3_slot_62 rfl (lv_at hl 1 rfl) ?_
        refine cm_cV1 (q0 := 2) 1 C (k_X0_rowInUse l D cI cZ cJ (cw ad cI X sd fn ft fm σ ta lp lr) (qI := 2) (qA := 3) rfl rfl z pg hz) tw_120 tw_121 tw_122 tw_2 tw_123 rfl rfl (rfl) rfl (by decide +kernel) ⟨Nat.le_of_ble_eq_true rfl, Nat.le_of_ble_eq_true rfl⟩ ⟨Nat.zero_le _, Nat.zero_le _⟩ hP hD hS hl.1 rfl rfl (Nat.le_of_ble_eq_true rfl) dX3_slot_63 (fun H locs hP hD hS => ?_)
        refine lv_iload_n C.1 C.2.1 dX3_slot_66 rfl (lv_at hl 2 rfl) ?_
        refine cm_cS1 2 C (c_placeOf l D cI cZ cJ (cw ad cI X sd fn ft fm σ ta lp lr) (z * 9 + pg) sl) tw_168 tw_133 tw_1 tw_134 rfl rfl (by decide +kernel) ⟨Nat.le_of_ble_eq_true rfl, Nat.le_of_ble_eq_true rfl⟩ ⟨Nat.zero_le _, Nat.zero_le _⟩ hP hD hS hl.1 rfl rfl (Nat.le_of_ble_eq_true rfl) dX3_slot_67 (fun H locs hP hD hS => ?_)
        rw [show (z * 9 + pg) * 4 + sl = 36 * z + (4 * pg + sl) by omega]
        refine lv_istore (lv' := [(4, _), (0, _), (1, _), (2, _), (3, _)]) C.1 C.2.1 dX3_slot_70 hl (by decide) rfl (fun ls hl => ?_)
        refine lv_aload_n C.1 C.2.1 dX3_slot_72 rfl (lv_at hl 1 rfl) ?_
        refine va_get (ci := 3) (C := RX3) (T := TX3) (N := 10) C.1 C.2.1 C.2.2.2.2.2.1 ui_X3 C.2.2.2.2.1 C.2.2.2.2.2.2.2.1 hP 0 (rfl) rfl 1 (by decide) (C.2.2.2.2.2.1 _ tw_62) (fun _ h9 => h9) rfl dX3_slot_73 ?_
        refine lv_iload C.1 C.2.1 dX3_slot_76 (lv_at hl 0 rfl) ?_
        refine cm_cV1 (q0 := 2) 1 C (k_X0_holds l D cI cZ cJ (cw ad cI X sd fn ft fm σ ta lp lr) (qI := 2) (qA := 3) rfl rfl (36 * z + (4 * pg + sl)) (by omega)) tw_205 tw_206 tw_207 tw_2 tw_208 rfl rfl (rfl) rfl (by decide +kernel) ⟨Nat.le_of_ble_eq_true rfl, Nat.le_of_ble_eq_true rfl⟩ ⟨Nat.zero_le _, Nat.zero_le _⟩ hP hD hS hl.1 rfl rfl (Nat.le_of_ble_eq_true rfl) dX3_slot_78 (fun H locs hP hD hS => ?_)
        rw [hd]
        refine lv_if_ne (tgt := 86) C.1 C.2.1 dX3_slot_81 (by decide) (fun _ => ?_) (fun h => absurd h (by decide))
        refine lv_iload_n C.1 C.2.1 dX3_slot_86 rfl (lv_at hl 4 rfl) ?_
        refine lv_if_ne (tgt := 92) C.1 C.2.1 dX3_slot_87 (by decide) (fun _ => ?_) (fun h => absurd h (fun q => h0 ((nI_eq (b := 0) (by omega) (by decide)).mp q)))
        refine lv_iload_n C.1 C.2.1 dX3_slot_92 rfl (lv_at hl 4 rfl) ?_
        refine lv_iconst (v := nI 1) C.1 C.2.1 dX3_slot_93 (by decide +kernel) ?_
        refine lv_icmp_ne (tgt := 109) C.1 C.2.1 dX3_slot_94 (by decide) (fun _ => ?_) (fun h => absurd h (fun q => h1 ((nI_eq (b := 1) (by omega) (by decide)).mp q)))
        refine lv_aload_n C.1 C.2.1 dX3_slot_109 rfl (lv_at hl 1 rfl) ?_
        refine va_get (ci := 3) (C := RX3) (T := TX3) (N := 10) C.1 C.2.1 C.2.2.2.2.2.1 ui_X3 C.2.2.2.2.1 C.2.2.2.2.2.2.2.1 hP 0 (rfl) rfl 1 (by decide) (C.2.2.2.2.2.1 _ tw_62) (fun _ h9 => h9) rfl dX3_slot_110 ?_
        refine lv_iload C.1 C.2.1 dX3_slot_113 (lv_at hl 0 rfl) ?_
        refine cm_cV1 (q0 := 2) 1 C (k_X0_valueAt l D cI cZ cJ (cw ad cI X sd fn ft fm σ ta lp lr) (qI := 2) (qA := 3) rfl rfl (36 * z + (4 * pg + sl)) (by omega)) tw_184 tw_185 tw_186 tw_2 tw_187 rfl rfl (rfl) rfl (by decide +kernel) ⟨Nat.le_of_ble_eq_true rfl, Nat.le_of_ble_eq_true rfl⟩ ⟨Nat.zero_le _, Nat.zero_le _⟩ hP hD hS hl.1 rfl rfl (Nat.le_of_ble_eq_true rfl) dX3_slot_115 (fun H locs hP hD hS => ?_)
        exact cm_iret C hP hD hS dX3_slot_118 (by simp [uR, kR, vR, hu, h0, h1]) rfl
set_option maxHeartbeats 4000000 in
set_option maxRecDepth 100000 in
/-- count, refused -/
theorem k_X3_countR (l : Launch) (hls : l.stackTraces = false) (D : va_G) (cI cZ cJ : ClassId) (ad : Nat → Nat) (X : va_W) (sd fn ft fm : Nat → Int32) (σ : WS) (ta lp lr : Int32) (x : Int32) (hb : x.toInt < 0 ∨ 8 < x.toInt) : CT l D (cm_T cI cZ cJ) yX3_count cX3_count 2 (some .int) ({ frames := 6, cells := 1, slots := 6, locals := 82 } : Room) [.ref (ad 0), .int x] (cw ad cI X sd fn ft fm σ ta lp lr) eA := by
  refine CT.of (by decide) (Nat.le_of_ble_eq_true rfl) ?_
  intro p e s m below meth c ls C hnx hX hl hP
  refine lv_iload_n C.1 C.2.1 dX3_count_0 rfl (lv_at hl 1 rfl) ?_
  refine lv_tableOut (tgt := 118) C.1 C.2.1 dX3_count_1 hb (by decide) ?_
  exact ct_throwA hls C hnx hX hX.2.1.2.2.2.2.2.2 tw_321 tw_9 hl.1 dX3_count_118 dX3_count_121 dX3_count_122 dX3_count_124 dX3_count_127 (Nat.le_of_ble_eq_true rfl) (Nat.le_of_ble_eq_true rfl) (Nat.le_of_ble_eq_true rfl) (Nat.le_of_ble_eq_true rfl)
set_option maxHeartbeats 4000000 in
set_option maxRecDepth 100000 in
/-- count 0 -/
theorem k_X3_count0 (l : Launch) (D : va_G) (cI cZ cJ : ClassId) (ad : Nat → Nat) (X : va_W) (sd fn ft fm : Nat → Int32) (σ : WS) (ta lp lr : Int32) (z y9 : Nat) (hz0 : z < 2) (hy0 : y9 < 4) (hz : fn 396 = nI z) (hy : fn 397 = nI y9) : CM l D (cm_T cI cZ cJ) yX3_count cX3_count 2 (some .int) (cm_rm 4 86) [.ref (ad 0), .int (nI 0)] (cw ad cI X sd fn ft fm σ ta lp lr) (some (.int (nI (allN fn z 0 9)))) (cw ad cI X sd fn ft fm σ ta lp lr) := by
  refine CM.of (by decide) (Nat.le_of_ble_eq_true rfl) ?_
  intro p e s m below meth c ls H locs C hl hP hD hS
  refine lv_iload_n C.1 C.2.1 dX3_count_0 rfl (lv_at hl 1 rfl) ?_
  refine lv_tableIn (off := 51) (tgt := 52) C.1 C.2.1 dX3_count_1 (by decide) (by decide) (by decide +kernel) (by decide) ?_
  refine lv_aload_n C.1 C.2.1 dX3_count_52 rfl (lv_at hl 0 rfl) ?_
  refine cm_cV1 (q0 := 0) 0 C (k_X3_allKeys l D cI cZ cJ ad X sd fn ft fm σ ta lp lr z y9 hz0 hy0 hz hy) tw_441 tw_443 ts_11 tw_1 tw_444 rfl rfl (rfl) rfl (by decide +kernel) ⟨Nat.le_of_ble_eq_true rfl, Nat.le_of_ble_eq_true rfl⟩ ⟨Nat.zero_le _, Nat.zero_le _⟩ hP hD hS hl.1 rfl rfl (Nat.le_of_ble_eq_true rfl) dX3_count_53 (fun H locs hP hD hS => ?_)
  exact cm_iret C hP hD hS dX3_count_56 rfl rfl
set_option maxHeartbeats 4000000 in
set_option maxRecDepth 100000 in
/-- count 1 -/
theorem k_X3_count1 (l : Launch) (D : va_G) (cI cZ cJ : ClassId) (ad : Nat → Nat) (X : va_W) (sd fn ft fm : Nat → Int32) (σ : WS) (ta lp lr : Int32)  : CM l D (cm_T cI cZ cJ) yX3_count cX3_count 2 (some .int) (cm_rm 4 86) [.ref (ad 0), .int (nI 1)] (cw ad cI X sd fn ft fm σ ta lp lr) (some (.int (nI σ.2.2.2.1))) (cw ad cI X sd fn ft fm σ ta lp lr) := by
  refine CM.of (by decide) (Nat.le_of_ble_eq_true rfl) ?_
  intro p e s m below meth c ls H locs C hl hP hD hS
  refine lv_iload_n C.1 C.2.1 dX3_count_0 rfl (lv_at hl 1 rfl) ?_
  refine lv_tableIn (off := 56) (tgt := 57) C.1 C.2.1 dX3_count_1 (by decide) (by decide) (by decide +kernel) (by decide) ?_
  refine lv_aload_n C.1 C.2.1 dX3_count_57 rfl (lv_at hl 0 rfl) ?_
  refine va_get (ci := 3) (C := RX3) (T := TX3) (N := 10) C.1 C.2.1 C.2.2.2.2.2.1 ui_X3 C.2.2.2.2.1 C.2.2.2.2.2.2.2.1 hP 0 (rfl) rfl 4 (by decide) (C.2.2.2.2.2.1 _ tw_65) (fun _ h9 => h9) rfl dX3_count_58 ?_
  refine cm_cV1 (q0 := 8) 0 C (k_X2_size l D cI cZ cJ (cw ad cI X sd fn ft fm σ ta lp lr) σ.2.2.2.1 (qW := 8) (qR := 9) (qC := 10) rfl rfl rfl) tw_248 tw_249 tw_250 tw_3 tw_251 rfl rfl (rfl) rfl (by decide +kernel) ⟨Nat.le_of_ble_eq_true rfl, Nat.le_of_ble_eq_true rfl⟩ ⟨Nat.zero_le _, Nat.zero_le _⟩ hP hD hS hl.1 rfl rfl (Nat.le_of_ble_eq_true rfl) dX3_count_61 (fun H locs hP hD hS => ?_)
  exact cm_iret C hP hD hS dX3_count_64 rfl rfl
set_option maxHeartbeats 4000000 in
set_option maxRecDepth 100000 in
/-- count 2 -/
theorem k_X3_count2 (l : Launch) (D : va_G) (cI cZ cJ : ClassId) (ad : Nat → Nat) (X : va_W) (sd fn ft fm : Nat → Int32) (σ : WS) (ta lp lr : Int32)  : CM l D (cm_T cI cZ cJ) yX3_count cX3_count 2 (some .int) (cm_rm 4 86) [.ref (ad 0), .int (nI 2)] (cw ad cI X sd fn ft fm σ ta lp lr) (some (.int (nI σ.2.2.2.2))) (cw ad cI X sd fn ft fm σ ta lp lr) := by
  refine CM.of (by decide) (Nat.le_of_ble_eq_true rfl) ?_
  intro p e s m below meth c ls H locs C hl hP hD hS
  refine lv_iload_n C.1 C.2.1 dX3_count_0 rfl (lv_at hl 1 rfl) ?_
  refine lv_tableIn (off := 64) (tgt := 65) C.1 C.2.1 dX3_count_1 (by decide) (by decide) (by decide +kernel) (by decide) ?_
  refine lv_aload_n C.1 C.2.1 dX3_count_65 rfl (lv_at hl 0 rfl) ?_
  refine va_get (ci := 3) (C := RX3) (T := TX3) (N := 10) C.1 C.2.1 C.2.2.2.2.2.1 ui_X3 C.2.2.2.2.1 C.2.2.2.2.2.2.2.1 hP 0 (rfl) rfl 6 (by decide) (C.2.2.2.2.2.1 _ tw_67) (fun _ h9 => h9) rfl dX3_count_66 ?_
  exact cm_iret C hP hD hS dX3_count_69 rfl rfl
set_option maxHeartbeats 4000000 in
set_option maxRecDepth 100000 in
/-- count 3 -/
theorem k_X3_count3 (l : Launch) (D : va_G) (cI cZ cJ : ClassId) (ad : Nat → Nat) (X : va_W) (sd fn ft fm : Nat → Int32) (σ : WS) (ta lp lr : Int32) (z y9 : Nat) (hz0 : z < 2) (hy0 : y9 < 4) (hz : fn 396 = nI z) (hy : fn 397 = nI y9) : CM l D (cm_T cI cZ cJ) yX3_count cX3_count 2 (some .int) (cm_rm 4 86) [.ref (ad 0), .int (nI 3)] (cw ad cI X sd fn ft fm σ ta lp lr) (some (.int (nI (cnt (fun i => !emP fn (z * 9 + 8) i) 0 4)))) (cw ad cI X sd fn ft fm σ ta lp lr) := by
  refine CM.of (by decide) (Nat.le_of_ble_eq_true rfl) ?_
  intro p e s m below meth c ls H locs C hl hP hD hS
  refine lv_iload_n C.1 C.2.1 dX3_count_0 rfl (lv_at hl 1 rfl) ?_
  refine lv_tableIn (off := 69) (tgt := 70) C.1 C.2.1 dX3_count_1 (by decide) (by decide) (by decide +kernel) (by decide) ?_
  refine lv_aload_n C.1 C.2.1 dX3_count_70 rfl (lv_at hl 0 rfl) ?_
  refine va_get (ci := 3) (C := RX3) (T := TX3) (N := 10) C.1 C.2.1 C.2.2.2.2.2.1 ui_X3 C.2.2.2.2.1 C.2.2.2.2.2.2.2.1 hP 0 (rfl) rfl 1 (by decide) (C.2.2.2.2.2.1 _ tw_62) (fun _ h9 => h9) rfl dX3_count_71 ?_
  refine lv_aload_n C.1 C.2.1 dX3_count_74 rfl (lv_at hl 0 rfl) ?_
  refine va_get (ci := 3) (C := RX3) (T := TX3) (N := 10) C.1 C.2.1 C.2.2.2.2.2.1 ui_X3 C.2.2.2.2.1 C.2.2.2.2.2.2.2.1 hP 0 (rfl) rfl 1 (by decide) (C.2.2.2.2.2.1 _ tw_62) (fun _ h9 => h9) rfl dX3_count_75 ?_
  refine lv_bipush (v := nI 8) C.1 C.2.1 dX3_count_78 (by decide +kernel) ?_
  refine cm_cV1 (q0 := 2) 1 C (k_X0_rowInUse l D cI cZ cJ (cw ad cI X sd fn ft fm σ ta lp lr) (qI := 2) (qA := 3) rfl rfl z 8 hz) tw_120 tw_121 tw_122 tw_2 tw_123 rfl rfl (rfl) rfl (by decide +kernel) ⟨Nat.le_of_ble_eq_true rfl, Nat.le_of_ble_eq_true rfl⟩ ⟨Nat.zero_le _, Nat.zero_le _⟩ hP hD hS hl.1 rfl rfl (Nat.le_of_ble_eq_true rfl) dX3_count_80 (fun H locs hP hD hS => ?_)
  refine cm_cV1 (q0 := 2) 1 C (k_X0_keysIn l D cI cZ cJ (cw ad cI X sd fn ft fm σ ta lp lr) (qI := 2) (qA := 3) rfl rfl (z * 9 + 8) (by omega)) tw_445 tw_446 tw_447 tw_2 tw_448 rfl rfl (rfl) rfl (by decide +kernel) ⟨Nat.le_of_ble_eq_true rfl, Nat.le_of_ble_eq_true rfl⟩ ⟨Nat.zero_le _, Nat.zero_le _⟩ hP hD hS hl.1 rfl rfl (Nat.le_of_ble_eq_true rfl) dX3_count_83 (fun H locs hP hD hS => ?_)
  exact cm_iret C hP hD hS dX3_count_86 rfl rfl
set_option maxHeartbeats 4000000 in
set_option maxRecDepth 100000 in
/-- count 4 -/
theorem k_X3_count4 (l : Launch) (D : va_G) (cI cZ cJ : ClassId) (ad : Nat → Nat) (X : va_W) (sd fn ft fm : Nat → Int32) (σ : WS) (ta lp lr : Int32)  : CM l D (cm_T cI cZ cJ) yX3_count cX3_count 2 (some .int) (cm_rm 4 86) [.ref (ad 0), .int (nI 4)] (cw ad cI X sd fn ft fm σ ta lp lr) (some (.int (fn 396))) (cw ad cI X sd fn ft fm σ ta lp lr) := by
  refine CM.of (by decide) (Nat.le_of_ble_eq_true rfl) ?_
  intro p e s m below meth c ls H locs C hl hP hD hS
  refine lv_iload_n C.1 C.2.1 dX3_count_0 rfl (lv_at hl 1 rfl) ?_
  refine lv_tableIn (off := 86) (tgt := 87) C.1 C.2.1 dX3_count_1 (by decide) (by decide) (by decide +kernel) (by decide) ?_
  refine lv_aload_n C.1 C.2.1 dX3_count_87 rfl (lv_at hl 0 rfl) ?_
  refine va_get (ci := 3) (C := RX3) (T := TX3) (N := 10) C.1 C.2.1 C.2.2.2.2.2.1 ui_X3 C.2.2.2.2.1 C.2.2.2.2.2.2.2.1 hP 0 (rfl) rfl 1 (by decide) (C.2.2.2.2.2.1 _ tw_62) (fun _ h9 => h9) rfl dX3_count_88 ?_
  refine cm_cV1 (q0 := 2) 0 C (k_X0_setTold l D cI cZ cJ (cw ad cI X sd fn ft fm σ ta lp lr) (qI := 2) (qA := 3) rfl rfl) tw_199 tw_125 tw_126 tw_2 tw_127 rfl rfl (rfl) rfl (by decide +kernel) ⟨Nat.le_of_ble_eq_true rfl, Nat.le_of_ble_eq_true rfl⟩ ⟨Nat.zero_le _, Nat.zero_le _⟩ hP hD hS hl.1 rfl rfl (Nat.le_of_ble_eq_true rfl) dX3_count_91 (fun H locs hP hD hS => ?_)
  exact cm_iret C hP hD hS dX3_count_94 rfl rfl
set_option maxHeartbeats 4000000 in
set_option maxRecDepth 100000 in
/-- count 5 -/
theorem k_X3_count5 (l : Launch) (D : va_G) (cI cZ cJ : ClassId) (ad : Nat → Nat) (X : va_W) (sd fn ft fm : Nat → Int32) (σ : WS) (ta lp lr : Int32)  : CM l D (cm_T cI cZ cJ) yX3_count cX3_count 2 (some .int) (cm_rm 4 86) [.ref (ad 0), .int (nI 5)] (cw ad cI X sd fn ft fm σ ta lp lr) (some (.int (fn 397))) (cw ad cI X sd fn ft fm σ ta lp lr) := by
  refine CM.of (by decide) (Nat.le_of_ble_eq_true rfl) ?_
  intro p e s m below meth c ls H locs C hl hP hD hS
  refine lv_iload_n C.1 C.2.1 dX3_count_0 rfl (lv_at hl 1 rfl) ?_
  refine lv_tableIn (off := 94) (tgt := 95) C.1 C.2.1 dX3_count_1 (by decide) (by decide) (by decide +kernel) (by decide) ?_
  refine lv_aload_n C.1 C.2.1 dX3_count_95 rfl (lv_at hl 0 rfl) ?_
  refine va_get (ci := 3) (C := RX3) (T := TX3) (N := 10) C.1 C.2.1 C.2.2.2.2.2.1 ui_X3 C.2.2.2.2.1 C.2.2.2.2.2.2.2.1 hP 0 (rfl) rfl 1 (by decide) (C.2.2.2.2.2.1 _ tw_62) (fun _ h9 => h9) rfl dX3_count_96 ?_
  refine cm_cV1 (q0 := 2) 0 C (k_X0_seedTold l D cI cZ cJ (cw ad cI X sd fn ft fm σ ta lp lr) (qI := 2) (qA := 3) rfl rfl) tw_100 tw_101 tw_102 tw_2 tw_103 rfl rfl (rfl) rfl (by decide +kernel) ⟨Nat.le_of_ble_eq_true rfl, Nat.le_of_ble_eq_true rfl⟩ ⟨Nat.zero_le _, Nat.zero_le _⟩ hP hD hS hl.1 rfl rfl (Nat.le_of_ble_eq_true rfl) dX3_count_99 (fun H locs hP hD hS => ?_)
  exact cm_iret C hP hD hS dX3_count_102 rfl rfl
set_option maxHeartbeats 4000000 in
set_option maxRecDepth 100000 in
/-- count 6 -/
theorem k_X3_count6 (l : Launch) (D : va_G) (cI cZ cJ : ClassId) (ad : Nat → Nat) (X : va_W) (sd fn ft fm : Nat → Int32) (σ : WS) (ta lp lr : Int32)  : CM l D (cm_T cI cZ cJ) yX3_count cX3_count 2 (some .int) (cm_rm 4 86) [.ref (ad 0), .int (nI 6)] (cw ad cI X sd fn ft fm σ ta lp lr) (some (.int (ta))) (cw ad cI X sd fn ft fm σ ta lp lr) := by
  refine CM.of (by decide) (Nat.le_of_ble_eq_true rfl) ?_
  intro p e s m below meth c ls H locs C hl hP hD hS
  refine lv_iload_n C.1 C.2.1 dX3_count_0 rfl (lv_at hl 1 rfl) ?_
  refine lv_tableIn (off := 102) (tgt := 103) C.1 C.2.1 dX3_count_1 (by decide) (by decide) (by decide +kernel) (by decide) ?_
  refine lv_aload_n C.1 C.2.1 dX3_count_103 rfl (lv_at hl 0 rfl) ?_
  refine va_get (ci := 3) (C := RX3) (T := TX3) (N := 10) C.1 C.2.1 C.2.2.2.2.2.1 ui_X3 C.2.2.2.2.1 C.2.2.2.2.2.2.2.1 hP 0 (rfl) rfl 7 (by decide) (C.2.2.2.2.2.1 _ tw_68) (fun _ h9 => h9) rfl dX3_count_104 ?_
  exact cm_iret C hP hD hS dX3_count_107 rfl rfl
set_option maxHeartbeats 4000000 in
set_option maxRecDepth 100000 in
/-- count 7 -/
theorem k_X3_count7 (l : Launch) (D : va_G) (cI cZ cJ : ClassId) (ad : Nat → Nat) (X : va_W) (sd fn ft fm : Nat → Int32) (σ : WS) (ta lp lr : Int32)  : CM l D (cm_T cI cZ cJ) yX3_count cX3_count 2 (some .int) (cm_rm 4 86) [.ref (ad 0), .int (nI 7)] (cw ad cI X sd fn ft fm σ ta lp lr) (some (.int (lp))) (cw ad cI X sd fn ft fm σ ta lp lr) := by
  refine CM.of (by decide) (Nat.le_of_ble_eq_true rfl) ?_
  intro p e s m below meth c ls H locs C hl hP hD hS
  refine lv_iload_n C.1 C.2.1 dX3_count_0 rfl (lv_at hl 1 rfl) ?_
  refine lv_tableIn (off := 107) (tgt := 108) C.1 C.2.1 dX3_count_1 (by decide) (by decide) (by decide +kernel) (by decide) ?_
  refine lv_aload_n C.1 C.2.1 dX3_count_108 rfl (lv_at hl 0 rfl) ?_
  refine va_get (ci := 3) (C := RX3) (T := TX3) (N := 10) C.1 C.2.1 C.2.2.2.2.2.1 ui_X3 C.2.2.2.2.1 C.2.2.2.2.2.2.2.1 hP 0 (rfl) rfl 8 (by decide) (C.2.2.2.2.2.1 _ tw_69) (fun _ h9 => h9) rfl dX3_count_109 ?_
  exact cm_iret C hP hD hS dX3_count_112 rfl rfl
set_option maxHeartbeats 4000000 in
set_option maxRecDepth 100000 in
/-- count 8 -/
theorem k_X3_count8 (l : Launch) (D : va_G) (cI cZ cJ : ClassId) (ad : Nat → Nat) (X : va_W) (sd fn ft fm : Nat → Int32) (σ : WS) (ta lp lr : Int32)  : CM l D (cm_T cI cZ cJ) yX3_count cX3_count 2 (some .int) (cm_rm 4 86) [.ref (ad 0), .int (nI 8)] (cw ad cI X sd fn ft fm σ ta lp lr) (some (.int (lr))) (cw ad cI X sd fn ft fm σ ta lp lr) := by
  refine CM.of (by decide) (Nat.le_of_ble_eq_true rfl) ?_
  intro p e s m below meth c ls H locs C hl hP hD hS
  refine lv_iload_n C.1 C.2.1 dX3_count_0 rfl (lv_at hl 1 rfl) ?_
  refine lv_tableIn (off := 112) (tgt := 113) C.1 C.2.1 dX3_count_1 (by decide) (by decide) (by decide +kernel) (by decide) ?_
  refine lv_aload_n C.1 C.2.1 dX3_count_113 rfl (lv_at hl 0 rfl) ?_
  refine va_get (ci := 3) (C := RX3) (T := TX3) (N := 10) C.1 C.2.1 C.2.2.2.2.2.1 ui_X3 C.2.2.2.2.1 C.2.2.2.2.2.2.2.1 hP 0 (rfl) rfl 9 (by decide) (C.2.2.2.2.2.1 _ tw_70) (fun _ h9 => h9) rfl dX3_count_114 ?_
  exact cm_iret C hP hD hS dX3_count_117 rfl rfl
