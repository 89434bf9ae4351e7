/-! ===== the law: its methods that catch ===== -/
set_option maxHeartbeats 4000000 in
set_option maxRecDepth 100000 in
/-- seed, refused -/
theorem k_L_seed1 (l : Launch) (hls : l.stackTraces = false) (D : va_G) (cI cZ cJ : ClassId) (ad : Nat → Nat) (X : va_W) (sd fn ft fm : Nat → Int32) (σ : WS) (ta lp lr : Int32) (k0 v0 : Int32) (hb : ¬ (¬ k0 < 0 ∧ k0 < nI 4)) : CH l D (cm_T cI cZ cJ) yL_seed cL_seed 4 [(0, 6, 9, 13), (0, 6, 12, 15)] ({ frames := 7, cells := 1, slots := 6, locals := 140 } : Room) [.ref (ad 0), .int k0, .int v0] (cw ad cI X sd fn ft fm σ ta lp lr) (fun r w => r = nI 1 ∧ w = cw ad cI X sd fn ft fm σ ta lp lr) := by
  refine CH.of (by decide) (Nat.le_of_ble_eq_true rfl) ?_
  intro p e s m below meth c ls H locs C htab hX hWW hl hP hD hS
  refine lv_aload_n C.1 C.2.1 dL_seed_0 rfl (lv_at hl 0 rfl) ?_
  refine lv_iload_n C.1 C.2.1 dL_seed_1 rfl (lv_at hl 1 rfl) ?_
  refine lv_iload_n C.1 C.2.1 dL_seed_2 rfl (lv_at hl 2 rfl) ?_
  refine ct_cV (q0 := 0) 2 C (k_X3_seed1 l hls D cI cZ cJ ad X sd fn ft fm σ ta lp lr k0 v0 hb) hX tw_317 tw_318 tw_319 tw_1 tw_320 rfl rfl rfl rfl (by decide +kernel) ⟨Nat.le_of_ble_eq_true rfl, Nat.le_of_ble_eq_true rfl⟩ ⟨Nat.le_of_ble_eq_true rfl, Nat.le_of_ble_eq_true rfl⟩ hP hD hS hl.1 rfl rfl (Nat.le_of_ble_eq_true rfl) dL_seed_3 (fun ce q9 H locs hP hS hce hcv hcl => ?_)
  refine vx_catch (E := eA) (name := eA) C.2.2.2.2.1 [] ⟨0, 6, 9, 13⟩ [⟨0, 6, 12, 15⟩] (htab.trans rfl) (fun z hz => by cases hz) rfl (by decide) (C.2.2.2.2.2.1 _ tw_315) (hWW.2.2.2.1.use rfl) hce hcv hcl ?_
  refine W.eq (g2 := F0 m 9 ls [.ref q9]) rfl ?_
  refine lv_astore_n (lv' := [(3, _), (0, _), (1, _), (2, _)]) C.1 C.2.1 dL_seed_9 rfl hl (by decide) rfl (fun ls hl => ?_)
  refine lv_iconst (v := nI 1) C.1 C.2.1 dL_seed_10 (by decide +kernel) ?_
  exact ch_iret (Nat.le_of_ble_eq_true rfl) (Nat.le_of_ble_eq_true rfl) C hP hD hS dL_seed_11 ⟨rfl, rfl⟩
set_option maxHeartbeats 4000000 in
set_option maxRecDepth 100000 in
/-- seed, too late -/
theorem k_L_seed2 (l : Launch) (hls : l.stackTraces = false) (D : va_G) (cI cZ cJ : ClassId) (ad : Nat → Nat) (X : va_W) (sd fn ft fm : Nat → Int32) (σ : WS) (ta lp lr : Int32) (k9 : Nat) (hk9 : k9 < 4) (v0 : Int32) (he9 : 0 < σ.2.2.2.2) (he8 : σ.2.2.2.2 < 2 ^ 31) : CH l D (cm_T cI cZ cJ) yL_seed cL_seed 4 [(0, 6, 9, 13), (0, 6, 12, 15)] ({ frames := 7, cells := 1, slots := 6, locals := 140 } : Room) [.ref (ad 0), .int (nI k9), .int v0] (cw ad cI X sd fn ft fm σ ta lp lr) (fun r w => r = nI 2 ∧ w = cw ad cI X sd fn ft fm σ ta lp lr) := by
  refine CH.of (by decide) (Nat.le_of_ble_eq_true rfl) ?_
  intro p e s m below meth c ls H locs C htab hX hWW hl hP hD hS
  refine lv_aload_n C.1 C.2.1 dL_seed_0 rfl (lv_at hl 0 rfl) ?_
  refine lv_iload_n C.1 C.2.1 dL_seed_1 rfl (lv_at hl 1 rfl) ?_
  refine lv_iload_n C.1 C.2.1 dL_seed_2 rfl (lv_at hl 2 rfl) ?_
  refine ct_cV (q0 := 0) 2 C (k_X3_seed2 l hls D cI cZ cJ ad X sd fn ft fm σ ta lp lr k9 hk9 v0 he9 he8) hX tw_317 tw_318 tw_319 tw_1 tw_320 rfl rfl rfl rfl (by decide +kernel) ⟨Nat.le_of_ble_eq_true rfl, Nat.le_of_ble_eq_true rfl⟩ ⟨Nat.le_of_ble_eq_true rfl, Nat.le_of_ble_eq_true rfl⟩ hP hD hS hl.1 rfl rfl (Nat.le_of_ble_eq_true rfl) dL_seed_3 (fun ce q9 H locs hP hS hce hcv hcl => ?_)
  refine vx_catch (E := eS) (name := eS) C.2.2.2.2.1 [⟨0, 6, 9, 13⟩] ⟨0, 6, 12, 15⟩ [] (htab.trans rfl) (fun z hz => by rw [List.mem_singleton.mp hz]; exact Or.inr ⟨by decide, eA, C.2.2.2.2.2.1 _ tw_315, hWW.2.2.2.2.2⟩) rfl (by decide) (C.2.2.2.2.2.1 _ tw_316) (hWW.2.2.2.2.1.use rfl) hce hcv hcl ?_
  refine W.eq (g2 := F0 m 12 ls [.ref q9]) rfl ?_
  refine lv_astore_n (lv' := [(3, _), (0, _), (1, _), (2, _)]) C.1 C.2.1 dL_seed_12 rfl hl (by decide) rfl (fun ls hl => ?_)
  refine lv_iconst (v := nI 2) C.1 C.2.1 dL_seed_13 (by decide +kernel) ?_
  exact ch_iret (Nat.le_of_ble_eq_true rfl) (Nat.le_of_ble_eq_true rfl) C hP hD hS dL_seed_14 ⟨rfl, rfl⟩
set_option maxHeartbeats 4000000 in
set_option maxRecDepth 100000 in
/-- seed -/
theorem k_L_seed0 (l : Launch) (D : va_G) (cI cZ cJ : ClassId) (ad : Nat → Nat) (X : va_W) (sd fn ft fm : Nat → Int32) (σ : WS) (ta lp lr : Int32) (k9 : Nat) (hk9 : k9 < 4) (v0 : Int32) (he9 : σ.2.2.2.2 = 0) : CH l D (cm_T cI cZ cJ) yL_seed cL_seed 4 [(0, 6, 9, 13), (0, 6, 12, 15)] ({ frames := 7, cells := 1, slots := 6, locals := 140 } : Room) [.ref (ad 0), .int (nI k9), .int v0] (cw ad cI X sd fn ft fm σ ta lp lr) (fun r w => r = nI 0 ∧ w = cw ad cI X (upd sd k9 v0) fn ft fm σ ta lp lr) := by
  refine CH.of (by decide) (Nat.le_of_ble_eq_true rfl) ?_
  intro p e s m below meth c ls H locs C htab hX hWW hl hP hD hS
  refine lv_aload_n C.1 C.2.1 dL_seed_0 rfl (lv_at hl 0 rfl) ?_
  refine lv_iload_n C.1 C.2.1 dL_seed_1 rfl (lv_at hl 1 rfl) ?_
  refine lv_iload_n C.1 C.2.1 dL_seed_2 rfl (lv_at hl 2 rfl) ?_
  refine cm_cV0 (q0 := 0) 2 C (k_X3_seed0 l D cI cZ cJ ad X sd fn ft fm σ ta lp lr k9 hk9 v0 he9) tw_317 tw_318 tw_319 tw_1 tw_320 rfl rfl (rfl) rfl (by decide +kernel) ⟨Nat.le_of_ble_eq_true rfl, Nat.le_of_ble_eq_true rfl⟩ ⟨Nat.zero_le _, Nat.zero_le _⟩ hP hD hS hl.1 rfl rfl (Nat.le_of_ble_eq_true rfl) dL_seed_3 (fun H locs hP hD hS => ?_)
  refine lv_goto (tgt := 15) C.1 C.2.1 dL_seed_6 (by decide) ?_
  refine lv_iconst (v := nI 0) C.1 C.2.1 dL_seed_15 (by decide +kernel) ?_
  exact ch_iret (Nat.le_of_ble_eq_true rfl) (Nat.le_of_ble_eq_true rfl) C hP hD hS dL_seed_16 ⟨rfl, rfl⟩
set_option maxHeartbeats 4000000 in
set_option maxRecDepth 100000 in
/-- L_crash, refused -/
theorem k_L_crash1 (l : Launch) (hls : l.stackTraces = false) (D : va_G) (cI cZ cJ : ClassId) (ad : Nat → Nat) (am : Nat → Nat) (ao : Nat) (fo : Nat → Int64) (I : Nat → Int32) (A : Nat → Nat → Int32) (sd fn ft fm : Nat → Int32) (σ : WS) (ta lp lr : Int32) (x : Int32) (hb : ¬ 0 ≤ x) : CH l D (cm_T cI cZ cJ) yL_crash cL_crash 4 [(0, 9, 12, 13)] ({ frames := 7, cells := 1, slots := 6, locals := 140 } : Room) [.ref (ad 0), .int x, .ref ao] (cw ad cI (mw am cI cZ [(ao, .inl (cJ, 1, .inr (.inl fo)))] I A) sd fn ft fm σ ta lp lr) (fun r w => r = nI 1 ∧ w = cw ad cI (mw am cI cZ [(ao, .inl (cJ, 1, .inr (.inl fo)))] I A) sd fn ft fm σ ta lp lr) := by
  refine CH.of (by decide) (Nat.le_of_ble_eq_true rfl) ?_
  intro p e s m below meth c ls H locs C htab hX hWW hl hP hD hS
  refine lv_aload_n C.1 C.2.1 dL_crash_0 rfl (lv_at hl 2 rfl) ?_
  refine lv_iconst (v := nI 0) C.1 C.2.1 dL_crash_1 (by decide +kernel) ?_
  refine lv_aload_n C.1 C.2.1 dL_crash_2 rfl (lv_at hl 0 rfl) ?_
  refine lv_iload_n C.1 C.2.1 dL_crash_3 rfl (lv_at hl 1 rfl) ?_
  refine ct_cV (q0 := 0) 1 C (k_X3_crash1 l hls D cI cZ cJ ad (mw am cI cZ [(ao, .inl (cJ, 1, .inr (.inl fo)))] I A) sd fn ft fm σ ta lp lr x hb) hX tw_407 tw_408 tw_409 tw_1 tw_410 rfl rfl rfl rfl (by decide +kernel) ⟨Nat.le_of_ble_eq_true rfl, Nat.le_of_ble_eq_true rfl⟩ ⟨Nat.le_of_ble_eq_true rfl, Nat.le_of_ble_eq_true rfl⟩ hP hD hS hl.1 rfl rfl (Nat.le_of_ble_eq_true rfl) dL_crash_4 (fun ce q9 H locs hP hS hce hcv hcl => ?_)
  refine vx_catch (E := eA) (name := eA) C.2.2.2.2.1 [] ⟨0, 9, 12, 13⟩ [] (htab.trans rfl) (fun z hz => by cases hz) rfl (by decide) (C.2.2.2.2.2.1 _ tw_315) (hWW.2.2.2.1.use rfl) hce hcv hcl ?_
  refine W.eq (g2 := F0 m 12 ls [.ref q9]) rfl ?_
  refine lv_astore_n (lv' := [(3, _), (0, _), (1, _), (2, _)]) C.1 C.2.1 dL_crash_12 rfl hl (by decide) rfl (fun ls hl => ?_)
  refine lv_iconst (v := nI 1) C.1 C.2.1 dL_crash_13 (by decide +kernel) ?_
  exact ch_iret (Nat.le_of_ble_eq_true rfl) (Nat.le_of_ble_eq_true rfl) C hP hD hS dL_crash_14 ⟨rfl, rfl⟩
set_option maxHeartbeats 4000000 in
set_option maxRecDepth 100000 in
/-- L_crash -/
theorem k_L_crash0 (l : Launch) (D : va_G) (cI cZ cJ : ClassId) (ad : Nat → Nat) (am : Nat → Nat) (ao : Nat) (fo : Nat → Int64) (I : Nat → Int32) (A : Nat → Nat → Int32) (sd fn ft fm : Nat → Int32) (σ : WS) (ta lp lr : Int32) (x : Int32) (fn' ft' fm' : Nat → Int32) (σ' : WS) (ta' lp' lr' : Int32) (ans : Int32) (hM : CM l D (cm_T cI cZ cJ) yX3_crash cX3_crash 4 (some .int) (cm_rm 4 108) [.ref (ad 0), .int x] (cw ad cI (mw am cI cZ [(ao, .inl (cJ, 1, .inr (.inl fo)))] I A) sd fn ft fm σ ta lp lr) (some (.int ans)) (cw ad cI (mw am cI cZ [(ao, .inl (cJ, 1, .inr (.inl fo)))] I A) sd fn' ft' fm' σ' ta' lp' lr')) : CH l D (cm_T cI cZ cJ) yL_crash cL_crash 4 [(0, 9, 12, 13)] ({ frames := 7, cells := 1, slots := 6, locals := 140 } : Room) [.ref (ad 0), .int x, .ref ao] (cw ad cI (mw am cI cZ [(ao, .inl (cJ, 1, .inr (.inl fo)))] I A) sd fn ft fm σ ta lp lr) (fun r w => r = nI 0 ∧ w = cw ad cI (mw am cI cZ [(ao, .inl (cJ, 1, .inr (.inl (vp_updL fo (nI 0).toNatClampNeg ans.toInt64))))] I A) sd fn' ft' fm' σ' ta' lp' lr') := by
  refine CH.of (by decide) (Nat.le_of_ble_eq_true rfl) ?_
  intro p e s m below meth c ls H locs C htab hX hWW hl hP hD hS
  refine lv_aload_n C.1 C.2.1 dL_crash_0 rfl (lv_at hl 2 rfl) ?_
  refine lv_iconst (v := nI 0) C.1 C.2.1 dL_crash_1 (by decide +kernel) ?_
  refine lv_aload_n C.1 C.2.1 dL_crash_2 rfl (lv_at hl 0 rfl) ?_
  refine lv_iload_n C.1 C.2.1 dL_crash_3 rfl (lv_at hl 1 rfl) ?_
  refine cm_cV1 (q0 := 0) 1 C (hM) tw_407 tw_408 tw_409 tw_1 tw_410 rfl rfl (rfl) rfl (by decide +kernel) ⟨Nat.le_of_ble_eq_true rfl, Nat.le_of_ble_eq_true rfl⟩ ⟨Nat.zero_le _, Nat.zero_le _⟩ hP hD hS hl.1 rfl rfl (Nat.le_of_ble_eq_true rfl) dL_crash_4 (fun H locs hP hD hS => ?_)
  refine lv_i2l C.1 C.2.1 dL_crash_7 rfl ?_
  refine va_last C.1 C.2.1 C.2.2.2.2.2.2.2.1 hP hD hS 35 2 rfl rfl (nI_in (by decide) (by decide)) dL_crash_8 (fun H locs hP hD hS => ?_)
  have hP : va_P D vwCl (cw ad cI (mw am cI cZ [(ao, .inl (cJ, 1, .inr (.inl (vp_updL fo (nI 0).toNatClampNeg ans.toInt64))))] I A) sd fn' ft' fm' σ' ta' lp' lr') H := hP
  have hD : va_D (cm_A (cw ad cI (mw am cI cZ [(ao, .inl (cJ, 1, .inr (.inl fo)))] I A) sd fn ft fm σ ta lp lr)) (cw ad cI (mw am cI cZ [(ao, .inl (cJ, 1, .inr (.inl (vp_updL fo (nI 0).toNatClampNeg ans.toInt64))))] I A) sd fn' ft' fm' σ' ta' lp' lr') := hD
  refine lv_goto (tgt := 15) C.1 C.2.1 dL_crash_9 (by decide) ?_
  refine lv_iconst (v := nI 0) C.1 C.2.1 dL_crash_15 (by decide +kernel) ?_
  exact ch_iret (Nat.le_of_ble_eq_true rfl) (Nat.le_of_ble_eq_true rfl) C hP hD hS dL_crash_16 ⟨rfl, rfl⟩
set_option maxHeartbeats 4000000 in
set_option maxRecDepth 100000 in
/-- L_slot, refused -/
theorem k_L_slot1 (l : Launch) (hls : l.stackTraces = false) (D : va_G) (cI cZ cJ : ClassId) (ad : Nat → Nat) (am : Nat → Nat) (ao : Nat) (fo : Nat → Int64) (I : Nat → Int32) (A : Nat → Nat → Int32) (sd fn ft fm : Nat → Int32) (σ : WS) (ta lp lr : Int32) (pg sl wh : Int32) (hb : ¬ (¬ pg < 0 ∧ pg < nI 9 ∧ ¬ sl < 0 ∧ sl < nI 4 ∧ ¬ wh < 0 ∧ wh ≤ nI 2)) : CH l D (cm_T cI cZ cJ) yL_slot cL_slot 6 [(0, 12, 15, 13)] ({ frames := 7, cells := 1, slots := 6, locals := 140 } : Room) [.ref (ad 0), .int pg, .int sl, .int wh, .ref ao] (cw ad cI (mw am cI cZ [(ao, .inl (cJ, 1, .inr (.inl fo)))] I A) sd fn ft fm σ ta lp lr) (fun r w => r = nI 1 ∧ w = cw ad cI (mw am cI cZ [(ao, .inl (cJ, 1, .inr (.inl fo)))] I A) sd fn ft fm σ ta lp lr) := by
  refine CH.of (by decide) (Nat.le_of_ble_eq_true rfl) ?_
  intro p e s m below meth c ls H locs C htab hX hWW hl hP hD hS
  refine lv_aload C.1 C.2.1 dL_slot_0 (lv_at hl 4 rfl) ?_
  refine lv_iconst (v := nI 0) C.1 C.2.1 dL_slot_2 (by decide +kernel) ?_
  refine lv_aload_n C.1 C.2.1 dL_slot_3 rfl (lv_at hl 0 rfl) ?_
  refine lv_iload_n C.1 C.2.1 dL_slot_4 rfl (lv_at hl 1 rfl) ?_
  refine lv_iload_n C.1 C.2.1 dL_slot_5 rfl (lv_at hl 2 rfl) ?_
  refine lv_iload_n C.1 C.2.1 dL_slot_6 rfl (lv_at hl 3 rfl) ?_
  refine ct_cV (q0 := 0) 3 C (k_X3_slot1 l hls D cI cZ cJ ad (mw am cI cZ [(ao, .inl (cJ, 1, .inr (.inl fo)))] I A) sd fn ft fm σ ta lp lr pg sl wh hb) hX tw_427 tw_428 tw_429 tw_1 tw_430 rfl rfl rfl rfl (by decide +kernel) ⟨Nat.le_of_ble_eq_true rfl, Nat.le_of_ble_eq_true rfl⟩ ⟨Nat.le_of_ble_eq_true rfl, Nat.le_of_ble_eq_true rfl⟩ hP hD hS hl.1 rfl rfl (Nat.le_of_ble_eq_true rfl) dL_slot_7 (fun ce q9 H locs hP hS hce hcv hcl => ?_)
  refine vx_catch (E := eA) (name := eA) C.2.2.2.2.1 [] ⟨0, 12, 15, 13⟩ [] (htab.trans rfl) (fun z hz => by cases hz) rfl (by decide) (C.2.2.2.2.2.1 _ tw_315) (hWW.2.2.2.1.use rfl) hce hcv hcl ?_
  refine W.eq (g2 := F0 m 15 ls [.ref q9]) rfl ?_
  refine lv_astore (lv' := [(5, _), (0, _), (1, _), (2, _), (3, _), (4, _)]) C.1 C.2.1 dL_slot_15 hl (by decide) rfl (fun ls hl => ?_)
  refine lv_iconst (v := nI 1) C.1 C.2.1 dL_slot_17 (by decide +kernel) ?_
  exact ch_iret (Nat.le_of_ble_eq_true rfl) (Nat.le_of_ble_eq_true rfl) C hP hD hS dL_slot_18 ⟨rfl, rfl⟩
set_option maxHeartbeats 4000000 in
set_option maxRecDepth 100000 in
/-- L_slot -/
theorem k_L_slot0 (l : Launch) (D : va_G) (cI cZ cJ : ClassId) (ad : Nat → Nat) (am : Nat → Nat) (ao : Nat) (fo : Nat → Int64) (I : Nat → Int32) (A : Nat → Nat → Int32) (sd fn ft fm : Nat → Int32) (σ : WS) (ta lp lr : Int32) (pg sl wh : Int32) (fn' ft' fm' : Nat → Int32) (σ' : WS) (ta' lp' lr' : Int32) (ans : Int32) (hM : CM l D (cm_T cI cZ cJ) yX3_slot cX3_slot 5 (some .int) (cm_rm 3 64) [.ref (ad 0), .int pg, .int sl, .int wh] (cw ad cI (mw am cI cZ [(ao, .inl (cJ, 1, .inr (.inl fo)))] I A) sd fn ft fm σ ta lp lr) (some (.int ans)) (cw ad cI (mw am cI cZ [(ao, .inl (cJ, 1, .inr (.inl fo)))] I A) sd fn' ft' fm' σ' ta' lp' lr')) : CH l D (cm_T cI cZ cJ) yL_slot cL_slot 6 [(0, 12, 15, 13)] ({ frames := 7, cells := 1, slots := 6, locals := 140 } : Room) [.ref (ad 0), .int pg, .int sl, .int wh, .ref ao] (cw ad cI (mw am cI cZ [(ao, .inl (cJ, 1, .inr (.inl fo)))] I A) sd fn ft fm σ ta lp lr) (fun r w => r = nI 0 ∧ w = cw ad cI (mw am cI cZ [(ao, .inl (cJ, 1, .inr (.inl (vp_updL fo (nI 0).toNatClampNeg ans.toInt64))))] I A) sd fn' ft' fm' σ' ta' lp' lr') := by
  refine CH.of (by decide) (Nat.le_of_ble_eq_true rfl) ?_
  intro p e s m below meth c ls H locs C htab hX hWW hl hP hD hS
  refine lv_aload C.1 C.2.1 dL_slot_0 (lv_at hl 4 rfl) ?_
  refine lv_iconst (v := nI 0) C.1 C.2.1 dL_slot_2 (by decide +kernel) ?_
  refine lv_aload_n C.1 C.2.1 dL_slot_3 rfl (lv_at hl 0 rfl) ?_
  refine lv_iload_n C.1 C.2.1 dL_slot_4 rfl (lv_at hl 1 rfl) ?_
  refine lv_iload_n C.1 C.2.1 dL_slot_5 rfl (lv_at hl 2 rfl) ?_
  refine lv_iload_n C.1 C.2.1 dL_slot_6 rfl (lv_at hl 3 rfl) ?_
  refine cm_cV1 (q0 := 0) 3 C (hM) tw_427 tw_428 tw_429 tw_1 tw_430 rfl rfl (rfl) rfl (by decide +kernel) ⟨Nat.le_of_ble_eq_true rfl, Nat.le_of_ble_eq_true rfl⟩ ⟨Nat.zero_le _, Nat.zero_le _⟩ hP hD hS hl.1 rfl rfl (Nat.le_of_ble_eq_true rfl) dL_slot_7 (fun H locs hP hD hS => ?_)
  refine lv_i2l C.1 C.2.1 dL_slot_10 rfl ?_
  refine va_last C.1 C.2.1 C.2.2.2.2.2.2.2.1 hP hD hS 35 2 rfl rfl (nI_in (by decide) (by decide)) dL_slot_11 (fun H locs hP hD hS => ?_)
  have hP : va_P D vwCl (cw ad cI (mw am cI cZ [(ao, .inl (cJ, 1, .inr (.inl (vp_updL fo (nI 0).toNatClampNeg ans.toInt64))))] I A) sd fn' ft' fm' σ' ta' lp' lr') H := hP
  have hD : va_D (cm_A (cw ad cI (mw am cI cZ [(ao, .inl (cJ, 1, .inr (.inl fo)))] I A) sd fn ft fm σ ta lp lr)) (cw ad cI (mw am cI cZ [(ao, .inl (cJ, 1, .inr (.inl (vp_updL fo (nI 0).toNatClampNeg ans.toInt64))))] I A) sd fn' ft' fm' σ' ta' lp' lr') := hD
  refine lv_goto (tgt := 19) C.1 C.2.1 dL_slot_12 (by decide) ?_
  refine lv_iconst (v := nI 0) C.1 C.2.1 dL_slot_19 (by decide +kernel) ?_
  exact ch_iret (Nat.le_of_ble_eq_true rfl) (Nat.le_of_ble_eq_true rfl) C hP hD hS dL_slot_20 ⟨rfl, rfl⟩
set_option maxHeartbeats 4000000 in
set_option maxRecDepth 100000 in
/-- L_count, refused -/
theorem k_L_count1 (l : Launch) (hls : l.stackTraces = false) (D : va_G) (cI cZ cJ : ClassId) (ad : Nat → Nat) (am : Nat → Nat) (ao : Nat) (fo : Nat → Int64) (I : Nat → Int32) (A : Nat → Nat → Int32) (sd fn ft fm : Nat → Int32) (σ : WS) (ta lp lr : Int32) (x : Int32) (hb : x.toInt < 0 ∨ 8 < x.toInt) : CH l D (cm_T cI cZ cJ) yL_count cL_count 4 [(0, 9, 12, 13)] ({ frames := 7, cells := 1, slots := 6, locals := 140 } : Room) [.ref (ad 0), .int x, .ref ao] (cw ad cI (mw am cI cZ [(ao, .inl (cJ, 1, .inr (.inl fo)))] I A) sd fn ft fm σ ta lp lr) (fun r w => r = nI 1 ∧ w = cw ad cI (mw am cI cZ [(ao, .inl (cJ, 1, .inr (.inl fo)))] I A) sd fn ft fm σ ta lp lr) := by
  refine CH.of (by decide) (Nat.le_of_ble_eq_true rfl) ?_
  intro p e s m below meth c ls H locs C htab hX hWW hl hP hD hS
  refine lv_aload_n C.1 C.2.1 dL_count_0 rfl (lv_at hl 2 rfl) ?_
  refine lv_iconst (v := nI 0) C.1 C.2.1 dL_count_1 (by decide +kernel) ?_
  refine lv_aload_n C.1 C.2.1 dL_count_2 rfl (lv_at hl 0 rfl) ?_
  refine lv_iload_n C.1 C.2.1 dL_count_3 rfl (lv_at hl 1 rfl) ?_
  refine ct_cV (q0 := 0) 1 C (k_X3_countR l hls D cI cZ cJ ad (mw am cI cZ [(ao, .inl (cJ, 1, .inr (.inl fo)))] I A) sd fn ft fm σ ta lp lr x hb) hX tw_437 tw_438 tw_439 tw_1 tw_440 rfl rfl rfl rfl (by decide +kernel) ⟨Nat.le_of_ble_eq_true rfl, Nat.le_of_ble_eq_true rfl⟩ ⟨Nat.le_of_ble_eq_true rfl, Nat.le_of_ble_eq_true rfl⟩ hP hD hS hl.1 rfl rfl (Nat.le_of_ble_eq_true rfl) dL_count_4 (fun ce q9 H locs hP hS hce hcv hcl => ?_)
  refine vx_catch (E := eA) (name := eA) C.2.2.2.2.1 [] ⟨0, 9, 12, 13⟩ [] (htab.trans rfl) (fun z hz => by cases hz) rfl (by decide) (C.2.2.2.2.2.1 _ tw_315) (hWW.2.2.2.1.use rfl) hce hcv hcl ?_
  refine W.eq (g2 := F0 m 12 ls [.ref q9]) rfl ?_
  refine lv_astore_n (lv' := [(3, _), (0, _), (1, _), (2, _)]) C.1 C.2.1 dL_count_12 rfl hl (by decide) rfl (fun ls hl => ?_)
  refine lv_iconst (v := nI 1) C.1 C.2.1 dL_count_13 (by decide +kernel) ?_
  exact ch_iret (Nat.le_of_ble_eq_true rfl) (Nat.le_of_ble_eq_true rfl) C hP hD hS dL_count_14 ⟨rfl, rfl⟩
set_option maxHeartbeats 4000000 in
set_option maxRecDepth 100000 in
/-- L_count -/
theorem k_L_count0 (l : Launch) (D : va_G) (cI cZ cJ : ClassId) (ad : Nat → Nat) (am : Nat → Nat) (ao : Nat) (fo : Nat → Int64) (I : Nat → Int32) (A : Nat → Nat → Int32) (sd fn ft fm : Nat → Int32) (σ : WS) (ta lp lr : Int32) (x : Int32) (fn' ft' fm' : Nat → Int32) (σ' : WS) (ta' lp' lr' : Int32) (ans : Int32) (hM : CM l D (cm_T cI cZ cJ) yX3_count cX3_count 2 (some .int) (cm_rm 4 86) [.ref (ad 0), .int x] (cw ad cI (mw am cI cZ [(ao, .inl (cJ, 1, .inr (.inl fo)))] I A) sd fn ft fm σ ta lp lr) (some (.int ans)) (cw ad cI (mw am cI cZ [(ao, .inl (cJ, 1, .inr (.inl fo)))] I A) sd fn' ft' fm' σ' ta' lp' lr')) : CH l D (cm_T cI cZ cJ) yL_count cL_count 4 [(0, 9, 12, 13)] ({ frames := 7, cells := 1, slots := 6, locals := 140 } : Room) [.ref (ad 0), .int x, .ref ao] (cw ad cI (mw am cI cZ [(ao, .inl (cJ, 1, .inr (.inl fo)))] I A) sd fn ft fm σ ta lp lr) (fun r w => r = nI 0 ∧ w = cw ad cI (mw am cI cZ [(ao, .inl (cJ, 1, .inr (.inl (vp_updL fo (nI 0).toNatClampNeg ans.toInt64))))] I A) sd fn' ft' fm' σ' ta' lp' lr') := by
  refine CH.of (by decide) (Nat.le_of_ble_eq_true rfl) ?_
  intro p e s m below meth c ls H locs C htab hX hWW hl hP hD hS
  refine lv_aload_n C.1 C.2.1 dL_count_0 rfl (lv_at hl 2 rfl) ?_
  refine lv_iconst (v := nI 0) C.1 C.2.1 dL_count_1 (by decide +kernel) ?_
  refine lv_aload_n C.1 C.2.1 dL_count_2 rfl (lv_at hl 0 rfl) ?_
  refine lv_iload_n C.1 C.2.1 dL_count_3 rfl (lv_at hl 1 rfl) ?_
  refine cm_cV1 (q0 := 0) 1 C (hM) tw_437 tw_438 tw_439 tw_1 tw_440 rfl rfl (rfl) rfl (by decide +kernel) ⟨Nat.le_of_ble_eq_true rfl, Nat.le_of_ble_eq_true rfl⟩ ⟨Nat.zero_le _, Nat.zero_le _⟩ hP hD hS hl.1 rfl rfl (Nat.le_of_ble_eq_true rfl) dL_count_4 (fun H locs hP hD hS => ?_)
  refine lv_i2l C.1 C.2.1 dL_count_7 rfl ?_
  refine va_last C.1 C.2.1 C.2.2.2.2.2.2.2.1 hP hD hS 35 2 rfl rfl (nI_in (by decide) (by decide)) dL_count_8 (fun H locs hP hD hS => ?_)
  have hP : va_P D vwCl (cw ad cI (mw am cI cZ [(ao, .inl (cJ, 1, .inr (.inl (vp_updL fo (nI 0).toNatClampNeg ans.toInt64))))] I A) sd fn' ft' fm' σ' ta' lp' lr') H := hP
  have hD : va_D (cm_A (cw ad cI (mw am cI cZ [(ao, .inl (cJ, 1, .inr (.inl fo)))] I A) sd fn ft fm σ ta lp lr)) (cw ad cI (mw am cI cZ [(ao, .inl (cJ, 1, .inr (.inl (vp_updL fo (nI 0).toNatClampNeg ans.toInt64))))] I A) sd fn' ft' fm' σ' ta' lp' lr') := hD
  refine lv_goto (tgt := 15) C.1 C.2.1 dL_count_9 (by decide) ?_
  refine lv_iconst (v := nI 0) C.1 C.2.1 dL_count_15 (by decide +kernel) ?_
  exact ch_iret (Nat.le_of_ble_eq_true rfl) (Nat.le_of_ble_eq_true rfl) C hP hD hS dL_count_16 ⟨rfl, rfl⟩
