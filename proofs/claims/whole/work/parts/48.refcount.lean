/-! ===== the reference: seed, slot, count, crash ===== -/
set_option maxHeartbeats 4000000 in
set_option maxRecDepth 100000 in
/-- seed, refused -/
theorem k_X4_seed1 (l : Launch) (D : va_G) (cI cZ cJ : ClassId) (ad : Nat → Nat) (X : va_W) (I : Nat → Int32) (A : Nat → Nat → Int32) (k0 v0 : Int32) (hb : ¬ (¬ k0 < 0 ∧ k0 ≤ nI 3)) : CM l D (cm_T cI cZ cJ) yX4_seed cX4_seed 3 none (cm_rm 1 21) [.ref (ad 0), .int k0, .int v0] (mw ad cI cZ X I A) none (mw ad cI cZ X (va_up I 0 (nI 1)) A) := by
  refine CM.of (by decide) (Nat.le_of_ble_eq_true rfl) ?_
  intro p e s m below meth c ls H locs C hl hP hD hS
  by_cases h0 : k0 < 0
  · refine lv_aload_n C.1 C.2.1 dX4_seed_0 rfl (lv_at hl 0 rfl) ?_
    refine lv_iload_n C.1 C.2.1 dX4_seed_1 rfl (lv_at hl 1 rfl) ?_
    refine lv_if_lt (tgt := 10) C.1 C.2.1 dX4_seed_2 (by decide) (fun _ => ?_) (fun h => absurd (h0) h)
    refine lv_iconst (v := nI 1) C.1 C.2.1 dX4_seed_10 (by decide +kernel) ?_
    refine lv_goto (tgt := 26) C.1 C.2.1 dX4_seed_11 (by decide) ?_
    refine cm_cV1 (q0 := 0) 1 C (k_X4_refused l D cI cZ cJ ad X I A (nI 1)) tw_660 tw_662 ts_28 tw_5 tw_663 rfl rfl (rfl) rfl (by decide +kernel) ⟨Nat.le_of_ble_eq_true rfl, Nat.le_of_ble_eq_true rfl⟩ ⟨Nat.zero_le _, Nat.zero_le _⟩ hP hD hS hl.1 rfl rfl (Nat.le_of_ble_eq_true rfl) dX4_seed_26 (fun H locs hP hD hS => ?_)
    refine lv_if_eq (tgt := 33) C.1 C.2.1 dX4_seed_29 (by decide) (fun h => absurd h (by decide)) (fun _ => ?_)
    exact cm_vret C hP hD hS dX4_seed_32 rfl
  · refine lv_aload_n C.1 C.2.1 dX4_seed_0 rfl (lv_at hl 0 rfl) ?_
    refine lv_iload_n C.1 C.2.1 dX4_seed_1 rfl (lv_at hl 1 rfl) ?_
    refine lv_if_lt (tgt := 10) C.1 C.2.1 dX4_seed_2 (by decide) (fun h => absurd h (h0)) (fun _ => ?_)
    refine lv_iload_n C.1 C.2.1 dX4_seed_5 rfl (lv_at hl 1 rfl) ?_
    refine lv_iconst (v := nI 3) C.1 C.2.1 dX4_seed_6 (by decide +kernel) ?_
    refine lv_icmp_le (tgt := 14) C.1 C.2.1 dX4_seed_7 (by decide) (fun h => absurd h (fun q => hb ⟨h0, q⟩)) (fun _ => ?_)
    refine lv_iconst (v := nI 1) C.1 C.2.1 dX4_seed_10 (by decide +kernel) ?_
    refine lv_goto (tgt := 26) C.1 C.2.1 dX4_seed_11 (by decide) ?_
    refine cm_cV1 (q0 := 0) 1 C (k_X4_refused l D cI cZ cJ ad X I A (nI 1)) tw_660 tw_662 ts_28 tw_5 tw_663 rfl rfl (rfl) rfl (by decide +kernel) ⟨Nat.le_of_ble_eq_true rfl, Nat.le_of_ble_eq_true rfl⟩ ⟨Nat.zero_le _, Nat.zero_le _⟩ hP hD hS hl.1 rfl rfl (Nat.le_of_ble_eq_true rfl) dX4_seed_26 (fun H locs hP hD hS => ?_)
    refine lv_if_eq (tgt := 33) C.1 C.2.1 dX4_seed_29 (by decide) (fun h => absurd h (by decide)) (fun _ => ?_)
    exact cm_vret C hP hD hS dX4_seed_32 rfl
set_option maxHeartbeats 4000000 in
set_option maxRecDepth 100000 in
/-- seed, too late -/
theorem k_X4_seed2 (l : Launch) (D : va_G) (cI cZ cJ : ClassId) (ad : Nat → Nat) (X : va_W) (I : Nat → Int32) (A : Nat → Nat → Int32) (k9 : Nat) (hk9 : k9 < 4) (e9 : Nat) (he9 : e9 < 2 ^ 31) (h21 : I 21 = nI e9) (v0 : Int32) (hp : 0 < e9) : CM l D (cm_T cI cZ cJ) yX4_seed cX4_seed 3 none (cm_rm 1 21) [.ref (ad 0), .int (nI k9), .int v0] (mw ad cI cZ X I A) none (mw ad cI cZ X (va_up I 0 (nI 2)) A) := by
  refine CM.of (by decide) (Nat.le_of_ble_eq_true rfl) ?_
  intro p e s m below meth c ls H locs C hl hP hD hS
  refine lv_aload_n C.1 C.2.1 dX4_seed_0 rfl (lv_at hl 0 rfl) ?_
  refine lv_iload_n C.1 C.2.1 dX4_seed_1 rfl (lv_at hl 1 rfl) ?_
  refine lv_if_lt (tgt := 10) C.1 C.2.1 dX4_seed_2 (by decide) (fun h => absurd h (nI_pos (by omega))) (fun _ => ?_)
  refine lv_iload_n C.1 C.2.1 dX4_seed_5 rfl (lv_at hl 1 rfl) ?_
  refine lv_iconst (v := nI 3) C.1 C.2.1 dX4_seed_6 (by decide +kernel) ?_
  refine lv_icmp_le (tgt := 14) C.1 C.2.1 dX4_seed_7 (by decide) (fun _ => ?_) (fun h => absurd (nI_le (by omega) (by decide)) h)
  refine lv_aload_n C.1 C.2.1 dX4_seed_14 rfl (lv_at hl 0 rfl) ?_
  refine va_get (ci := 4) (C := RX4) (T := TX4) (N := 34) C.1 C.2.1 C.2.2.2.2.2.1 ui_X4 C.2.2.2.2.1 C.2.2.2.2.2.2.2.1 hP 0 (rfl) rfl 21 (by decide) (C.2.2.2.2.2.1 _ tw_477) (fun _ h9 => h9) rfl dX4_seed_15 ?_
  rw [h21]
  refine lv_if_le (tgt := 25) C.1 C.2.1 dX4_seed_18 (by decide) (fun h => absurd h (nI_nle hp (by omega))) (fun _ => ?_)
  refine lv_iconst (v := nI 2) C.1 C.2.1 dX4_seed_21 (by decide +kernel) ?_
  refine lv_goto (tgt := 26) C.1 C.2.1 dX4_seed_22 (by decide) ?_
  refine cm_cV1 (q0 := 0) 1 C (k_X4_refused l D cI cZ cJ ad X I A (nI 2)) tw_660 tw_662 ts_28 tw_5 tw_663 rfl rfl (rfl) rfl (by decide +kernel) ⟨Nat.le_of_ble_eq_true rfl, Nat.le_of_ble_eq_true rfl⟩ ⟨Nat.zero_le _, Nat.zero_le _⟩ hP hD hS hl.1 rfl rfl (Nat.le_of_ble_eq_true rfl) dX4_seed_26 (fun H locs hP hD hS => ?_)
  refine lv_if_eq (tgt := 33) C.1 C.2.1 dX4_seed_29 (by decide) (fun h => absurd h (by decide)) (fun _ => ?_)
  exact cm_vret C hP hD hS dX4_seed_32 rfl
set_option maxHeartbeats 4000000 in
set_option maxRecDepth 100000 in
/-- seed -/
theorem k_X4_seed0 (l : Launch) (D : va_G) (cI cZ cJ : ClassId) (ad : Nat → Nat) (X : va_W) (I : Nat → Int32) (A : Nat → Nat → Int32) (k9 : Nat) (hk9 : k9 < 4) (e9 : Nat) (he9 : e9 < 2 ^ 31) (h21 : I 21 = nI e9) (v0 : Int32) (hp : e9 = 0) : CM l D (cm_T cI cZ cJ) yX4_seed cX4_seed 3 none (cm_rm 1 21) [.ref (ad 0), .int (nI k9), .int v0] (mw ad cI cZ X I A) none (mw ad cI cZ X (va_up I 0 (nI 0)) (va_up A 4 (upd (A 4) k9 v0))) := by
  refine CM.of (by decide) (Nat.le_of_ble_eq_true rfl) ?_
  intro p e s m below meth c ls H locs C hl hP hD hS
  refine lv_aload_n C.1 C.2.1 dX4_seed_0 rfl (lv_at hl 0 rfl) ?_
  refine lv_iload_n C.1 C.2.1 dX4_seed_1 rfl (lv_at hl 1 rfl) ?_
  refine lv_if_lt (tgt := 10) C.1 C.2.1 dX4_seed_2 (by decide) (fun h => absurd h (nI_pos (by omega))) (fun _ => ?_)
  refine lv_iload_n C.1 C.2.1 dX4_seed_5 rfl (lv_at hl 1 rfl) ?_
  refine lv_iconst (v := nI 3) C.1 C.2.1 dX4_seed_6 (by decide +kernel) ?_
  refine lv_icmp_le (tgt := 14) C.1 C.2.1 dX4_seed_7 (by decide) (fun _ => ?_) (fun h => absurd (nI_le (by omega) (by decide)) h)
  refine lv_aload_n C.1 C.2.1 dX4_seed_14 rfl (lv_at hl 0 rfl) ?_
  refine va_get (ci := 4) (C := RX4) (T := TX4) (N := 34) C.1 C.2.1 C.2.2.2.2.2.1 ui_X4 C.2.2.2.2.1 C.2.2.2.2.2.2.2.1 hP 0 (rfl) rfl 21 (by decide) (C.2.2.2.2.2.1 _ tw_477) (fun _ h9 => h9) rfl dX4_seed_15 ?_
  rw [h21]
  refine lv_if_le (tgt := 25) C.1 C.2.1 dX4_seed_18 (by decide) (fun _ => ?_) (fun h => absurd (by rw [hp]; decide) h)
  refine lv_iconst (v := nI 0) C.1 C.2.1 dX4_seed_25 (by decide +kernel) ?_
  refine cm_cV1 (q0 := 0) 1 C (k_X4_refused l D cI cZ cJ ad X I A (nI 0)) tw_660 tw_662 ts_28 tw_5 tw_663 rfl rfl (rfl) rfl (by decide +kernel) ⟨Nat.le_of_ble_eq_true rfl, Nat.le_of_ble_eq_true rfl⟩ ⟨Nat.zero_le _, Nat.zero_le _⟩ hP hD hS hl.1 rfl rfl (Nat.le_of_ble_eq_true rfl) dX4_seed_26 (fun H locs hP hD hS => ?_)
  refine lv_if_eq (tgt := 33) C.1 C.2.1 dX4_seed_29 (by decide) (fun _ => ?_) (fun h => absurd (by decide) h)
  refine lv_aload_n C.1 C.2.1 dX4_seed_33 rfl (lv_at hl 0 rfl) ?_
  refine va_get (ci := 4) (C := RX4) (T := TX4) (N := 34) C.1 C.2.1 C.2.2.2.2.2.1 ui_X4 C.2.2.2.2.1 C.2.2.2.2.2.2.2.1 hP 0 (rfl) rfl 4 (by decide) (C.2.2.2.2.2.1 _ tw_460) (fun _ h9 => h9) rfl dX4_seed_34 ?_
  refine lv_iload_n C.1 C.2.1 dX4_seed_37 rfl (lv_at hl 1 rfl) ?_
  refine lv_iload_n C.1 C.2.1 dX4_seed_38 rfl (lv_at hl 2 rfl) ?_
  refine va_iast (f := A 4) C.1 C.2.1 C.2.2.2.2.2.2.2.1 hP hD hS 4 0 (rfl) rfl (vp_in_nI (by omega) (by decide)) dX4_seed_39 (fun H locs hP hD hS => ?_)
  rw [nI_clamp (by omega)] at hP hD
  have hP : va_P D vwCl (mw ad cI cZ X (va_up I 0 (nI 0)) (va_up A 4 (upd (A 4) k9 v0))) H := hP
  have hD : va_D (cm_A (mw ad cI cZ X I A)) (mw ad cI cZ X (va_up I 0 (nI 0)) (va_up A 4 (upd (A 4) k9 v0))) := hD
  exact cm_vret C hP hD hS dX4_seed_40 rfl
set_option maxHeartbeats 4000000 in
set_option maxRecDepth 100000 in
/-- slot, refused -/
theorem k_X4_slot1 (l : Launch) (D : va_G) (cI cZ cJ : ClassId) (ad : Nat → Nat) (X : va_W) (I : Nat → Int32) (A : Nat → Nat → Int32) (pg sl wh : Int32) (hb : ¬ (¬ pg < 0 ∧ ¬ nI 9 ≤ pg ∧ ¬ sl < 0 ∧ ¬ nI 4 ≤ sl ∧ ¬ wh < 0 ∧ ¬ nI 2 < wh)) : CM l D (cm_T cI cZ cJ) yX4_slot cX4_slot 6 (some .int) (cm_rm 1 22) [.ref (ad 0), .int pg, .int sl, .int wh] (mw ad cI cZ X I A) (some (.int (nI 0))) (mw ad cI cZ X (va_up I 0 (nI 1)) A) := by
  refine CM.of (by decide) (Nat.le_of_ble_eq_true rfl) ?_
  intro p e s m below meth c ls H locs C hl hP hD hS
  refine lv_iload_n C.1 C.2.1 dX4_slot_0 rfl (lv_at hl 1 rfl) ?_
  refine lv_if_lt (tgt := 32) C.1 C.2.1 dX4_slot_1 (by decide) (fun h1 => ?_) (fun h1 => ?_)
  · refine lv_iconst (v := nI 0) C.1 C.2.1 dX4_slot_32 (by decide +kernel) ?_
    refine lv_istore (lv' := [(4, _), (0, _), (1, _), (2, _), (3, _)]) C.1 C.2.1 dX4_slot_33 hl (by decide) rfl (fun ls hl => ?_)
    refine lv_aload_n C.1 C.2.1 dX4_slot_35 rfl (lv_at hl 1 rfl) ?_
    refine lv_iload C.1 C.2.1 dX4_slot_36 (lv_at hl 0 rfl) ?_
    refine lv_if_eq (tgt := 45) C.1 C.2.1 dX4_slot_38 (by decide) (fun _ => ?_) (fun h => absurd (by decide) h)
    refine lv_iconst (v := nI 1) C.1 C.2.1 dX4_slot_45 (by decide +kernel) ?_
    refine cm_cV1 (q0 := 0) 1 C (k_X4_refused l D cI cZ cJ ad X I A (nI 1)) tw_660 tw_662 ts_28 tw_5 tw_663 rfl rfl (rfl) rfl (by decide +kernel) ⟨Nat.le_of_ble_eq_true rfl, Nat.le_of_ble_eq_true rfl⟩ ⟨Nat.zero_le _, Nat.zero_le _⟩ hP hD hS hl.1 rfl rfl (Nat.le_of_ble_eq_true rfl) dX4_slot_46 (fun H locs hP hD hS => ?_)
    refine lv_if_eq (tgt := 54) C.1 C.2.1 dX4_slot_49 (by decide) (fun h => absurd h (by decide)) (fun _ => ?_)
    refine lv_iconst (v := nI 0) C.1 C.2.1 dX4_slot_52 (by decide +kernel) ?_
    exact cm_iret C hP hD hS dX4_slot_53 rfl rfl
  · refine lv_iload_n C.1 C.2.1 dX4_slot_4 rfl (lv_at hl 1 rfl) ?_
    refine lv_bipush (v := nI 9) C.1 C.2.1 dX4_slot_5 (by decide +kernel) ?_
    refine lv_icmp_ge (tgt := 32) C.1 C.2.1 dX4_slot_7 (by decide) (fun h7 => ?_) (fun h7 => ?_)
    · refine lv_iconst (v := nI 0) C.1 C.2.1 dX4_slot_32 (by decide +kernel) ?_
      refine lv_istore (lv' := [(4, _), (0, _), (1, _), (2, _), (3, _)]) C.1 C.2.1 dX4_slot_33 hl (by decide) rfl (fun ls hl => ?_)
      refine lv_aload_n C.1 C.2.1 dX4_slot_35 rfl (lv_at hl 1 rfl) ?_
      refine lv_iload C.1 C.2.1 dX4_slot_36 (lv_at hl 0 rfl) ?_
      refine lv_if_eq (tgt := 45) C.1 C.2.1 dX4_slot_38 (by decide) (fun _ => ?_) (fun h => absurd (by decide) h)
      refine lv_iconst (v := nI 1) C.1 C.2.1 dX4_slot_45 (by decide +kernel) ?_
      refine cm_cV1 (q0 := 0) 1 C (k_X4_refused l D cI cZ cJ ad X I A (nI 1)) tw_660 tw_662 ts_28 tw_5 tw_663 rfl rfl (rfl) rfl (by decide +kernel) ⟨Nat.le_of_ble_eq_true rfl, Nat.le_of_ble_eq_true rfl⟩ ⟨Nat.zero_le _, Nat.zero_le _⟩ hP hD hS hl.1 rfl rfl (Nat.le_of_ble_eq_true rfl) dX4_slot_46 (fun H locs hP hD hS => ?_)
      refine lv_if_eq (tgt := 54) C.1 C.2.1 dX4_slot_49 (by decide) (fun h => absurd h (by decide)) (fun _ => ?_)
      refine lv_iconst (v := nI 0) C.1 C.2.1 dX4_slot_52 (by decide +kernel) ?_
      exact cm_iret C hP hD hS dX4_slot_53 rfl rfl
    · refine lv_iload_n C.1 C.2.1 dX4_slot_10 rfl (lv_at hl 2 rfl) ?_
      refine lv_if_lt (tgt := 32) C.1 C.2.1 dX4_slot_11 (by decide) (fun h11 => ?_) (fun h11 => ?_)
      · refine lv_iconst (v := nI 0) C.1 C.2.1 dX4_slot_32 (by decide +kernel) ?_
        refine lv_istore (lv' := [(4, _), (0, _), (1, _), (2, _), (3, _)]) C.1 C.2.1 dX4_slot_33 hl (by decide) rfl (fun ls hl => ?_)
        refine lv_aload_n C.1 C.2.1 dX4_slot_35 rfl (lv_at hl 1 rfl) ?_
        refine lv_iload C.1 C.2.1 dX4_slot_36 (lv_at hl 0 rfl) ?_
        refine lv_if_eq (tgt := 45) C.1 C.2.1 dX4_slot_38 (by decide) (fun _ => ?_) (fun h => absurd (by decide) h)
        refine lv_iconst (v := nI 1) C.1 C.2.1 dX4_slot_45 (by decide +kernel) ?_
        refine cm_cV1 (q0 := 0) 1 C (k_X4_refused l D cI cZ cJ ad X I A (nI 1)) tw_660 tw_662 ts_28 tw_5 tw_663 rfl rfl (rfl) rfl (by decide +kernel) ⟨Nat.le_of_ble_eq_true rfl, Nat.le_of_ble_eq_true rfl⟩ ⟨Nat.zero_le _, Nat.zero_le _⟩ hP hD hS hl.1 rfl rfl (Nat.le_of_ble_eq_true rfl) dX4_slot_46 (fun H locs hP hD hS => ?_)
        refine lv_if_eq (tgt := 54) C.1 C.2.1 dX4_slot_49 (by decide) (fun h => absurd h (by decide)) (fun _ => ?_)
        refine lv_iconst (v := nI 0) C.1 C.2.1 dX4_slot_52 (by decide +kernel) ?_
        exact cm_iret C hP hD hS dX4_slot_53 rfl rfl
      · refine lv_iload_n C.1 C.2.1 dX4_slot_14 rfl (lv_at hl 2 rfl) ?_
        refine lv_iconst (v := nI 4) C.1 C.2.1 dX4_slot_15 (by decide +kernel) ?_
        refine lv_icmp_ge (tgt := 32) C.1 C.2.1 dX4_slot_16 (by decide) (fun h16 => ?_) (fun h16 => ?_)
        · refine lv_iconst (v := nI 0) C.1 C.2.1 dX4_slot_32 (by decide +kernel) ?_
          refine lv_istore (lv' := [(4, _), (0, _), (1, _), (2, _), (3, _)]) C.1 C.2.1 dX4_slot_33 hl (by decide) rfl (fun ls hl => ?_)
          refine lv_aload_n C.1 C.2.1 dX4_slot_35 rfl (lv_at hl 1 rfl) ?_
          refine lv_iload C.1 C.2.1 dX4_slot_36 (lv_at hl 0 rfl) ?_
          refine lv_if_eq (tgt := 45) C.1 C.2.1 dX4_slot_38 (by decide) (fun _ => ?_) (fun h => absurd (by decide) h)
          refine lv_iconst (v := nI 1) C.1 C.2.1 dX4_slot_45 (by decide +kernel) ?_
          refine cm_cV1 (q0 := 0) 1 C (k_X4_refused l D cI cZ cJ ad X I A (nI 1)) tw_660 tw_662 ts_28 tw_5 tw_663 rfl rfl (rfl) rfl (by decide +kernel) ⟨Nat.le_of_ble_eq_true rfl, Nat.le_of_ble_eq_true rfl⟩ ⟨Nat.zero_le _, Nat.zero_le _⟩ hP hD hS hl.1 rfl rfl (Nat.le_of_ble_eq_true rfl) dX4_slot_46 (fun H locs hP hD hS => ?_)
          refine lv_if_eq (tgt := 54) C.1 C.2.1 dX4_slot_49 (by decide) (fun h => absurd h (by decide)) (fun _ => ?_)
          refine lv_iconst (v := nI 0) C.1 C.2.1 dX4_slot_52 (by decide +kernel) ?_
          exact cm_iret C hP hD hS dX4_slot_53 rfl rfl
        · refine lv_iload_n C.1 C.2.1 dX4_slot_19 rfl (lv_at hl 3 rfl) ?_
          refine lv_if_lt (tgt := 32) C.1 C.2.1 dX4_slot_20 (by decide) (fun h20 => ?_) (fun h20 => ?_)
          · refine lv_iconst (v := nI 0) C.1 C.2.1 dX4_slot_32 (by decide +kernel) ?_
            refine lv_istore (lv' := [(4, _), (0, _), (1, _), (2, _), (3, _)]) C.1 C.2.1 dX4_slot_33 hl (by decide) rfl (fun ls hl => ?_)
            refine lv_aload_n C.1 C.2.1 dX4_slot_35 rfl (lv_at hl 1 rfl) ?_
            refine lv_iload C.1 C.2.1 dX4_slot_36 (lv_at hl 0 rfl) ?_
            refine lv_if_eq (tgt := 45) C.1 C.2.1 dX4_slot_38 (by decide) (fun _ => ?_) (fun h => absurd (by decide) h)
            refine lv_iconst (v := nI 1) C.1 C.2.1 dX4_slot_45 (by decide +kernel) ?_
            refine cm_cV1 (q0 := 0) 1 C (k_X4_refused l D cI cZ cJ ad X I A (nI 1)) tw_660 tw_662 ts_28 tw_5 tw_663 rfl rfl (rfl) rfl (by decide +kernel) ⟨Nat.le_of_ble_eq_true rfl, Nat.le_of_ble_eq_true rfl⟩ ⟨Nat.zero_le _, Nat.zero_le _⟩ hP hD hS hl.1 rfl rfl (Nat.le_of_ble_eq_true rfl) dX4_slot_46 (fun H locs hP hD hS => ?_)
            refine lv_if_eq (tgt := 54) C.1 C.2.1 dX4_slot_49 (by decide) (fun h => absurd h (by decide)) (fun _ => ?_)
            refine lv_iconst (v := nI 0) C.1 C.2.1 dX4_slot_52 (by decide +kernel) ?_
            exact cm_iret C hP hD hS dX4_slot_53 rfl rfl
          · refine lv_iload_n C.1 C.2.1 dX4_slot_23 rfl (lv_at hl 3 rfl) ?_
            refine lv_iconst (v := nI 2) C.1 C.2.1 dX4_slot_24 (by decide +kernel) ?_
            refine lv_icmp_gt (tgt := 32) C.1 C.2.1 dX4_slot_25 (by decide) (fun h25 => ?_) (fun h25 => ?_)
            · refine lv_iconst (v := nI 0) C.1 C.2.1 dX4_slot_32 (by decide +kernel) ?_
              refine lv_istore (lv' := [(4, _), (0, _), (1, _), (2, _), (3, _)]) C.1 C.2.1 dX4_slot_33 hl (by decide) rfl (fun ls hl => ?_)
              refine lv_aload_n C.1 C.2.1 dX4_slot_35 rfl (lv_at hl 1 rfl) ?_
              refine lv_iload C.1 C.2.1 dX4_slot_36 (lv_at hl 0 rfl) ?_
              refine lv_if_eq (tgt := 45) C.1 C.2.1 dX4_slot_38 (by decide) (fun _ => ?_) (fun h => absurd (by decide) h)
              refine lv_iconst (v := nI 1) C.1 C.2.1 dX4_slot_45 (by decide +kernel) ?_
              refine cm_cV1 (q0 := 0) 1 C (k_X4_refused l D cI cZ cJ ad X I A (nI 1)) tw_660 tw_662 ts_28 tw_5 tw_663 rfl rfl (rfl) rfl (by decide +kernel) ⟨Nat.le_of_ble_eq_true rfl, Nat.le_of_ble_eq_true rfl⟩ ⟨Nat.zero_le _, Nat.zero_le _⟩ hP hD hS hl.1 rfl rfl (Nat.le_of_ble_eq_true rfl) dX4_slot_46 (fun H locs hP hD hS => ?_)
              refine lv_if_eq (tgt := 54) C.1 C.2.1 dX4_slot_49 (by decide) (fun h => absurd h (by decide)) (fun _ => ?_)
              refine lv_iconst (v := nI 0) C.1 C.2.1 dX4_slot_52 (by decide +kernel) ?_
              exact cm_iret C hP hD hS dX4_slot_53 rfl rfl
            · exact absurd ⟨h1, h7, h11, h16, h20, h25⟩ hb
set_option maxHeartbeats 4000000 in
set_option maxRecDepth 100000 in
/-- slot -/
theorem k_X4_slot0 (l : Launch) (D : va_G) (cI cZ cJ : ClassId) (ad : Nat → Nat) (X : va_W) (I : Nat → Int32) (A : Nat → Nat → Int32) (z : Nat) (hz0 : z < 2) (hz : I 5 = nI z) (pg sl wh : Nat) (hpg : pg < 9) (hsl : sl < 4) (hwh : wh ≤ 2) : CM l D (cm_T cI cZ cJ) yX4_slot cX4_slot 6 (some .int) (cm_rm 1 22) [.ref (ad 0), .int (nI pg), .int (nI sl), .int (nI wh)] (mw ad cI cZ X I A) (some (.int (if uM A z (4 * pg + sl) = false then nI 0 else if wh = 0 then nI 1 else if wh = 1 then kM A z (4 * pg + sl) else vM A z (4 * pg + sl)))) (mw ad cI cZ X (va_up I 0 (nI 0)) A) := by
  refine CM.of (by decide) (Nat.le_of_ble_eq_true rfl) ?_
  intro p e s m below meth c ls H locs C hl hP hD hS
  by_cases hu : A 1 (36 * z + (4 * pg + sl)) = 0
  · refine lv_iload_n C.1 C.2.1 dX4_slot_0 rfl (lv_at hl 1 rfl) ?_
    refine lv_if_lt (tgt := 32) C.1 C.2.1 dX4_slot_1 (by decide) (fun h => absurd h (nI_pos (by omega))) (fun _ => ?_)
    refine lv_iload_n C.1 C.2.1 dX4_slot_4 rfl (lv_at hl 1 rfl) ?_
    refine lv_bipush (v := nI 9) C.1 C.2.1 dX4_slot_5 (by decide +kernel) ?_
    refine lv_icmp_ge (tgt := 32) C.1 C.2.1 dX4_slot_7 (by decide) (fun h => absurd h (nI_ge (by omega) (by decide))) (fun _ => ?_)
    refine lv_iload_n C.1 C.2.1 dX4_slot_10 rfl (lv_at hl 2 rfl) ?_
    refine lv_if_lt (tgt := 32) C.1 C.2.1 dX4_slot_11 (by decide) (fun h => absurd h (nI_pos (by omega))) (fun _ => ?_)
    refine lv_iload_n C.1 C.2.1 dX4_slot_14 rfl (lv_at hl 2 rfl) ?_
    refine lv_iconst (v := nI 4) C.1 C.2.1 dX4_slot_15 (by decide +kernel) ?_
    refine lv_icmp_ge (tgt := 32) C.1 C.2.1 dX4_slot_16 (by decide) (fun h => absurd h (nI_ge (by omega) (by decide))) (fun _ => ?_)
    refine lv_iload_n C.1 C.2.1 dX4_slot_19 rfl (lv_at hl 3 rfl) ?_
    refine lv_if_lt (tgt := 32) C.1 C.2.1 dX4_slot_20 (by decide) (fun h => absurd h (nI_pos (by omega))) (fun _ => ?_)
    refine lv_iload_n C.1 C.2.1 dX4_slot_23 rfl (lv_at hl 3 rfl) ?_
    refine lv_iconst (v := nI 2) C.1 C.2.1 dX4_slot_24 (by decide +kernel) ?_
    refine lv_icmp_gt (tgt := 32) C.1 C.2.1 dX4_slot_25 (by decide) (fun h => absurd h (nI_nlt (by omega) (by decide))) (fun _ => ?_)
    refine lv_iconst (v := nI 1) C.1 C.2.1 dX4_slot_28 (by decide +kernel) ?_
    refine lv_goto (tgt := 33) C.1 C.2.1 dX4_slot_29 (by decide) ?_
    refine lv_istore (lv' := [(4, _), (0, _), (1, _), (2, _), (3, _)]) C.1 C.2.1 dX4_slot_33 hl (by decide) rfl (fun ls hl => ?_)
    refine lv_aload_n C.1 C.2.1 dX4_slot_35 rfl (lv_at hl 1 rfl) ?_
    refine lv_iload C.1 C.2.1 dX4_slot_36 (lv_at hl 0 rfl) ?_
    refine lv_if_eq (tgt := 45) C.1 C.2.1 dX4_slot_38 (by decide) (fun h => absurd h (by decide)) (fun _ => ?_)
    refine lv_iconst (v := nI 0) C.1 C.2.1 dX4_slot_41 (by decide +kernel) ?_
    refine lv_goto (tgt := 46) C.1 C.2.1 dX4_slot_42 (by decide) ?_
    refine cm_cV1 (q0 := 0) 1 C (k_X4_refused l D cI cZ cJ ad X I A (nI 0)) tw_660 tw_662 ts_28 tw_5 tw_663 rfl rfl (rfl) rfl (by decide +kernel) ⟨Nat.le_of_ble_eq_true rfl, Nat.le_of_ble_eq_true rfl⟩ ⟨Nat.zero_le _, Nat.zero_le _⟩ hP hD hS hl.1 rfl rfl (Nat.le_of_ble_eq_true rfl) dX4_slot_46 (fun H locs hP hD hS => ?_)
    refine lv_if_eq (tgt := 54) C.1 C.2.1 dX4_slot_49 (by decide) (fun _ => ?_) (fun h => absurd (by decide) h)
    refine lv_aload_n C.1 C.2.1 dX4_slot_54 rfl (lv_at hl 1 rfl) ?_
    refine va_get (v := .int (I 5)) (ci := 4) (C := RX4) (T := TX4) (N := 34) C.1 C.2.1 C.2.2.2.2.2.1 ui_X4 C.2.2.2.2.1 C.2.2.2.2.2.2.2.1 hP 0 (rfl) rfl 5 (by decide) (C.2.2.2.2.2.1 _ tw_461) (fun _ h9 => h9) rfl dX4_slot_55 ?_
    rw [hz]
    refine lv_iload_n C.1 C.2.1 dX4_slot_58 rfl (lv_at hl 2 rfl) ?_
    refine lv_iload_n C.1 C.2.1 dX4_slot_59 rfl (lv_at hl 3 rfl) ?_
    refine cm_cS1 3 C (k_X4_slotOf l D cI cZ cJ (mw ad cI cZ X (va_up I 0 (nI 0)) A) z pg sl) tw_585 tw_586 tw_5 tw_587 rfl rfl (by decide +kernel) ⟨Nat.le_of_ble_eq_true rfl, Nat.le_of_ble_eq_true rfl⟩ ⟨Nat.zero_le _, Nat.zero_le _⟩ hP hD hS hl.1 rfl rfl (Nat.le_of_ble_eq_true rfl) dX4_slot_60 (fun H locs hP hD hS => ?_)
    refine lv_istore (lv' := [(5, _), (4, _), (0, _), (1, _), (2, _), (3, _)]) C.1 C.2.1 dX4_slot_63 hl (by decide) rfl (fun ls hl => ?_)
    refine lv_aload_n C.1 C.2.1 dX4_slot_65 rfl (lv_at hl 2 rfl) ?_
    refine va_get (ci := 4) (C := RX4) (T := TX4) (N := 34) C.1 C.2.1 C.2.2.2.2.2.1 ui_X4 C.2.2.2.2.1 C.2.2.2.2.2.2.2.1 hP 0 (rfl) rfl 1 (by decide) (C.2.2.2.2.2.1 _ tw_457) (fun _ h9 => h9) rfl dX4_slot_66 ?_
    refine lv_iload C.1 C.2.1 dX4_slot_69 (lv_at hl 0 rfl) ?_
    refine va_zald (f := A 1) C.1 C.2.1 C.2.2.2.2.2.2.2.1 hP 1 1 (rfl) rfl (vp_in_nI (by omega) (by decide)) dX4_slot_71 ?_
    rw [nI_clamp (by omega)]
    refine lv_if_ne (tgt := 79) C.1 C.2.1 dX4_slot_72 (by decide) (fun h => absurd (hu) h) (fun _ => ?_)
    refine lv_iconst (v := nI 0) C.1 C.2.1 dX4_slot_75 (by decide +kernel) ?_
    refine lv_goto (tgt := 109) C.1 C.2.1 dX4_slot_76 (by decide) ?_
    exact cm_iret C hP hD hS dX4_slot_109 (by simp [uM, kM, vM, hu]) rfl
  · by_cases h0 : wh = 0
    · refine lv_iload_n C.1 C.2.1 dX4_slot_0 rfl (lv_at hl 1 rfl) ?_
      refine lv_if_lt (tgt := 32) C.1 C.2.1 dX4_slot_1 (by decide) (fun h => absurd h (nI_pos (by omega))) (fun _ => ?_)
      refine lv_iload_n C.1 C.2.1 dX4_slot_4 rfl (lv_at hl 1 rfl) ?_
      refine lv_bipush (v := nI 9) C.1 C.2.1 dX4_slot_5 (by decide +kernel) ?_
      refine lv_icmp_ge (tgt := 32) C.1 C.2.1 dX4_slot_7 (by decide) (fun h => absurd h (nI_ge (by omega) (by decide))) (fun _ => ?_)
      refine lv_iload_n C.1 C.2.1 dX4_slot_10 rfl (lv_at hl 2 rfl) ?_
      refine lv_if_lt (tgt := 32) C.1 C.2.1 dX4_slot_11 (by decide) (fun h => absurd h (nI_pos (by omega))) (fun _ => ?_)
      refine lv_iload_n C.1 C.2.1 dX4_slot_14 rfl (lv_at hl 2 rfl) ?_
      refine lv_iconst (v := nI 4) C.1 C.2.1 dX4_slot_15 (by decide +kernel) ?_
      refine lv_icmp_ge (tgt := 32) C.1 C.2.1 dX4_slot_16 (by decide) (fun h => absurd h (nI_ge (by omega) (by decide))) (fun _ => ?_)
      refine lv_iload_n C.1 C.2.1 dX4_slot_19 rfl (lv_at hl 3 rfl) ?_
      refine lv_if_lt (tgt := 32) C.1 C.2.1 dX4_slot_20 (by decide) (fun h => absurd h (nI_pos (by omega))) (fun _ => ?_)
      refine lv_iload_n C.1 C.2.1 dX4_slot_23 rfl (lv_at hl 3 rfl) ?_
      refine lv_iconst (v := nI 2) C.1 C.2.1 dX4_slot_24 (by decide +kernel) ?_
      refine lv_icmp_gt (tgt := 32) C.1 C.2.1 dX4_slot_25 (by decide) (fun h => absurd h (nI_nlt (by omega) (by decide))) (fun _ => ?_)
      refine lv_iconst (v := nI 1) C.1 C.2.1 dX4_slot_28 (by decide +kernel) ?_
      refine lv_goto (tgt := 33) C.1 C.2.1 dX4_slot_29 (by decide) ?_
      refine lv_istore (lv' := [(4, _), (0, _), (1, _), (2, _), (3, _)]) C.1 C.2.1 dX4_slot_33 hl (by decide) rfl (fun ls hl => ?_)
      refine lv_aload_n C.1 C.2.1 dX4_slot_35 rfl (lv_at hl 1 rfl) ?_
      refine lv_iload C.1 C.2.1 dX4_slot_36 (lv_at hl 0 rfl) ?_
      refine lv_if_eq (tgt := 45) C.1 C.2.1 dX4_slot_38 (by decide) (fun h => absurd h (by decide)) (fun _ => ?_)
      refine lv_iconst (v := nI 0) C.1 C.2.1 dX4_slot_41 (by decide +kernel) ?_
      refine lv_goto (tgt := 46) C.1 C.2.1 dX4_slot_42 (by decide) ?_
      refine cm_cV1 (q0 := 0) 1 C (k_X4_refused l D cI cZ cJ ad X I A (nI 0)) tw_660 tw_662 ts_28 tw_5 tw_663 rfl rfl (rfl) rfl (by decide +kernel) ⟨Nat.le_of_ble_eq_true rfl, Nat.le_of_ble_eq_true rfl⟩ ⟨Nat.zero_le _, Nat.zero_le _⟩ hP hD hS hl.1 rfl rfl (Nat.le_of_ble_eq_true rfl) dX4_slot_46 (fun H locs hP hD hS => ?_)
      refine lv_if_eq (tgt := 54) C.1 C.2.1 dX4_slot_49 (by decide) (fun _ => ?_) (fun h => absurd (by decide) h)
      refine lv_aload_n C.1 C.2.1 dX4_slot_54 rfl (lv_at hl 1 rfl) ?_
      refine va_get (v := .int (I 5)) (ci := 4) (C := RX4) (T := TX4) (N := 34) C.1 C.2.1 C.2.2.2.2.2.1 ui_X4 C.2.2.2.2.1 C.2.2.2.2.2.2.2.1 hP 0 (rfl) rfl 5 (by decide) (C.2.2.2.2.2.1 _ tw_461) (fun _ h9 => h9) rfl dX4_slot_55 ?_
      rw [hz]
      refine lv_iload_n C.1 C.2.1 dX4_slot_58 rfl (lv_at hl 2 rfl) ?_
      refine lv_iload_n C.1 C.2.1 dX4_slot_59 rfl (lv_at hl 3 rfl) ?_
      refine cm_cS1 3 C (k_X4_slotOf l D cI cZ cJ (mw ad cI cZ X (va_up I 0 (nI 0)) A) z pg sl) tw_585 tw_586 tw_5 tw_587 rfl rfl (by decide +kernel) ⟨Nat.le_of_ble_eq_true rfl, Nat.le_of_ble_eq_true rfl⟩ ⟨Nat.zero_le _, Nat.zero_le _⟩ hP hD hS hl.1 rfl rfl (Nat.le_of_ble_eq_true rfl) dX4_slot_60 (fun H locs hP hD hS => ?_)
      refine lv_istore (lv' := [(5, _), (4, _), (0, _), (1, _), (2, _), (3, _)]) C.1 C.2.1 dX4_slot_63 hl (by decide) rfl (fun ls hl => ?_)
      refine lv_aload_n C.1 C.2.1 dX4_slot_65 rfl (lv_at hl 2 rfl) ?_
      refine va_get (ci := 4) (C := RX4) (T := TX4) (N := 34) C.1 C.2.1 C.2.2.2.2.2.1 ui_X4 C.2.2.2.2.1 C.2.2.2.2.2.2.2.1 hP 0 (rfl) rfl 1 (by decide) (C.2.2.2.2.2.1 _ tw_457) (fun _ h9 => h9) rfl dX4_slot_66 ?_
      refine lv_iload C.1 C.2.1 dX4_slot_69 (lv_at hl 0 rfl) ?_
      refine va_zald (f := A 1) C.1 C.2.1 C.2.2.2.2.2.2.2.1 hP 1 1 (rfl) rfl (vp_in_nI (by omega) (by decide)) dX4_slot_71 ?_
      rw [nI_clamp (by omega)]
      refine lv_if_ne (tgt := 79) C.1 C.2.1 dX4_slot_72 (by decide) (fun _ => ?_) (fun h => absurd h (hu))
      refine lv_iload_n C.1 C.2.1 dX4_slot_79 rfl (lv_at hl 5 rfl) ?_
      refine lv_if_ne (tgt := 87) C.1 C.2.1 dX4_slot_80 (by decide) (fun h => absurd (by rw [h0]; rfl) h) (fun _ => ?_)
      refine lv_iconst (v := nI 1) C.1 C.2.1 dX4_slot_83 (by decide +kernel) ?_
      refine lv_goto (tgt := 109) C.1 C.2.1 dX4_slot_84 (by decide) ?_
      exact cm_iret C hP hD hS dX4_slot_109 (by simp [uM, kM, vM, hu, h0]) rfl
    · by_cases h1 : wh = 1
      · refine lv_iload_n C.1 C.2.1 dX4_slot_0 rfl (lv_at hl 1 rfl) ?_
        refine lv_if_lt (tgt := 32) C.1 C.2.1 dX4_slot_1 (by decide) (fun h => absurd h (nI_pos (by omega))) (fun _ => ?_)
        refine lv_iload_n C.1 C.2.1 dX4_slot_4 rfl (lv_at hl 1 rfl) ?_
        refine lv_bipush (v := nI 9) C.1 C.2.1 dX4_slot_5 (by decide +kernel) ?_
        refine lv_icmp_ge (tgt := 32) C.1 C.2.1 dX4_slot_7 (by decide) (fun h => absurd h (nI_ge (by omega) (by decide))) (fun _ => ?_)
        refine lv_iload_n C.1 C.2.1 dX4_slot_10 rfl (lv_at hl 2 rfl) ?_
        refine lv_if_lt (tgt := 32) C.1 C.2.1 dX4_slot_11 (by decide) (fun h => absurd h (nI_pos (by omega))) (fun _ => ?_)
        refine lv_iload_n C.1 C.2.1 dX4_slot_14 rfl (lv_at hl 2 rfl) ?_
        refine lv_iconst (v := nI 4) C.1 C.2.1 dX4_slot_15 (by decide +kernel) ?_
        refine lv_icmp_ge (tgt := 32) C.1 C.2.1 dX4_slot_16 (by decide) (fun h => absurd h (nI_ge (by omega) (by decide))) (fun _ => ?_)
        refine lv_iload_n C.1 C.2.1 dX4_slot_19 rfl (lv_at hl 3 rfl) ?_
        refine lv_if_lt (tgt := 32) C.1 C.2.1 dX4_slot_20 (by decide) (fun h => absurd h (nI_pos (by omega))) (fun _ => ?_)
        refine lv_iload_n C.1 C.2.1 dX4_slot_23 rfl (lv_at hl 3 rfl) ?_
        refine lv_iconst (v := nI 2) C.1 C.2.1 dX4_slot_24 (by decide +kernel) ?_
        refine lv_icmp_gt (tgt := 32) C.1 C.2.1 dX4_slot_25 (by decide) (fun h => absurd h (nI_nlt (by omega) (by decide))) (fun _ => ?_)
        refine lv_iconst (v := nI 1) C.1 C.2.1 dX4_slot_28 (by decide +kernel) ?_
        refine lv_goto (tgt := 33) C.1 C.2.1 dX4_slot_29 (by decide) ?_
        refine lv_istore (lv' := [(4, _), (0, _), (1, _), (2, _), (3, _)]) C.1 C.2.1 dX4_slot_33 hl (by decide) rfl (fun ls hl => ?_)
        refine lv_aload_n C.1 C.2.1 dX4_slot_35 rfl (lv_at hl 1 rfl) ?_
        refine lv_iload C.1 C.2.1 dX4_slot_36 (lv_at hl 0 rfl) ?_
        refine lv_if_eq (tgt := 45) C.1 C.2.1 dX4_slot_38 (by decide) (fun h => absurd h (by decide)) (fun _ => ?_)
        refine lv_iconst (v := nI 0) C.1 C.2.1 dX4_slot_41 (by decide +kernel) ?_
        refine lv_goto (tgt := 46) C.1 C.2.1 dX4_slot_42 (by decide) ?_
        refine cm_cV1 (q0 := 0) 1 C (k_X4_refused l D cI cZ cJ ad X I A (nI 0)) tw_660 tw_662 ts_28 tw_5 tw_663 rfl rfl (rfl) rfl (by decide +kernel) ⟨Nat.le_of_ble_eq_true rfl, Nat.le_of_ble_eq_true rfl⟩ ⟨Nat.zero_le _, Nat.zero_le _⟩ hP hD hS hl.1 rfl rfl (Nat.le_of_ble_eq_true rfl) dX4_slot_46 (fun H locs hP hD hS => ?_)
        refine lv_if_eq (tgt := 54) C.1 C.2.1 dX4_slot_49 (by decide) (fun _ => ?_) (fun h => absurd (by decide) h)
        refine lv_aload_n C.1 C.2.1 dX4_slot_54 rfl (lv_at hl 1 rfl) ?_
        refine va_get (v := .int (I 5)) (ci := 4) (C := RX4) (T := TX4) (N := 34) C.1 C.2.1 C.2.2.2.2.2.1 ui_X4 C.2.2.2.2.1 C.2.2.2.2.2.2.2.1 hP 0 (rfl) rfl 5 (by decide) (C.2.2.2.2.2.1 _ tw_461) (fun _ h9 => h9) rfl dX4_slot_55 ?_
        rw [hz]
        refine lv_iload_n C.1 C.2.1 dX4_slot_58 rfl (lv_at hl 2 rfl) ?_
        refine lv_iload_n C.1 C.2.1 dX4_slot_59 rfl (lv_at hl 3 rfl) ?_
        refine cm_cS1 3 C (k_X4_slotOf l D cI cZ cJ (mw ad cI cZ X (va_up I 0 (nI 0)) A) z pg sl) tw_585 tw_586 tw_5 tw_587 rfl rfl (by decide +kernel) ⟨Nat.le_of_ble_eq_true rfl, Nat.le_of_ble_eq_true rfl⟩ ⟨Nat.zero_le _, Nat.zero_le _⟩ hP hD hS hl.1 rfl rfl (Nat.le_of_ble_eq_true rfl) dX4_slot_60 (fun H locs hP hD hS => ?_)
        refine lv_istore (lv' := [(5, _), (4, _), (0, _), (1, _), (2, _), (3, _)]) C.1 C.2.1 dX4_slot_63 hl (by decide) rfl (fun ls hl => ?_)
        refine lv_aload_n C.1 C.2.1 dX4_slot_65 rfl (lv_at hl 2 rfl) ?_
        refine va_get (ci := 4) (C := RX4) (T := TX4) (N := 34) C.1 C.2.1 C.2.2.2.2.2.1 ui_X4 C.2.2.2.2.1 C.2.2.2.2.2.2.2.1 hP 0 (rfl) rfl 1 (by decide) (C.2.2.2.2.2.1 _ tw_457) (fun _ h9 => h9) rfl dX4_slot_66 ?_
        refine lv_iload C.1 C.2.1 dX4_slot_69 (lv_at hl 0 rfl) ?_
        refine va_zald (f := A 1) C.1 C.2.1 C.2.2.2.2.2.2.2.1 hP 1 1 (rfl) rfl (vp_in_nI (by omega) (by decide)) dX4_slot_71 ?_
        rw [nI_clamp (by omega)]
        refine lv_if_ne (tgt := 79) C.1 C.2.1 dX4_slot_72 (by decide) (fun _ => ?_) (fun h => absurd h (hu))
        refine lv_iload_n C.1 C.2.1 dX4_slot_79 rfl (lv_at hl 5 rfl) ?_
        refine lv_if_ne (tgt := 87) C.1 C.2.1 dX4_slot_80 (by decide) (fun _ => ?_) (fun h => absurd h (fun q => h0 ((nI_eq (b := 0) (by omega) (by decide)).mp q)))
        refine lv_iload_n C.1 C.2.1 dX4_slot_87 rfl (lv_at hl 5 rfl) ?_
        refine lv_iconst (v := nI 1) C.1 C.2.1 dX4_slot_88 (by decide +kernel) ?_
        refine lv_icmp_ne (tgt := 102) C.1 C.2.1 dX4_slot_89 (by decide) (fun h => absurd (by rw [h1]) h) (fun _ => ?_)
        refine lv_aload_n C.1 C.2.1 dX4_slot_92 rfl (lv_at hl 2 rfl) ?_
        refine va_get (ci := 4) (C := RX4) (T := TX4) (N := 34) C.1 C.2.1 C.2.2.2.2.2.1 ui_X4 C.2.2.2.2.1 C.2.2.2.2.2.2.2.1 hP 0 (rfl) rfl 2 (by decide) (C.2.2.2.2.2.1 _ tw_458) (fun _ h9 => h9) rfl dX4_slot_93 ?_
        refine lv_iload C.1 C.2.1 dX4_slot_96 (lv_at hl 0 rfl) ?_
        refine va_iald (f := A 2) C.1 C.2.1 C.2.2.2.2.2.2.2.1 hP 2 0 (rfl) rfl (vp_in_nI (by omega) (by decide)) dX4_slot_98 ?_
        rw [nI_clamp (by omega)]
        refine lv_goto (tgt := 109) C.1 C.2.1 dX4_slot_99 (by decide) ?_
        exact cm_iret C hP hD hS dX4_slot_109 (by simp [uM, kM, vM, hu, h1]) rfl
      · refine lv_iload_n C.1 C.2.1 dX4_slot_0 rfl (lv_at hl 1 rfl) ?_
        refine lv_if_lt (tgt := 32) C.1 C.2.1 dX4_slot_1 (by decide) (fun h => absurd h (nI_pos (by omega))) (fun _ => ?_)
        refine lv_iload_n C.1 C.2.1 dX4_slot_4 rfl (lv_at hl 1 rfl) ?_
        refine lv_bipush (v := nI 9) C.1 C.2.1 dX4_slot_5 (by decide +kernel) ?_
        refine lv_icmp_ge (tgt := 32) C.1 C.2.1 dX4_slot_7 (by decide) (fun h => absurd h (nI_ge (by omega) (by decide))) (fun _ => ?_)
        refine lv_iload_n C.1 C.2.1 dX4_slot_10 rfl (lv_at hl 2 rfl) ?_
        refine lv_if_lt (tgt := 32) C.1 C.2.1 dX4_slot_11 (by decide) (fun h => absurd h (nI_pos (by omega))) (fun _ => ?_)
        refine lv_iload_n C.1 C.2.1 dX4_slot_14 rfl (lv_at hl 2 rfl) ?_
        refine lv_iconst (v := nI 4) C.1 C.2.1 dX4_slot_15 (by decide +kernel) ?_
        refine lv_icmp_ge (tgt := 32) C.1 C.2.1 dX4_slot_16 (by decide) (fun h => absurd h (nI_ge (by omega) (by decide))) (fun _ => ?_)
        refine lv_iload_n C.1 C.2.1 dX4_slot_19 rfl (lv_at hl 3 rfl) ?_
        refine lv_if_lt (tgt := 32) C.1 C.2.1 dX4_slot_20 (by decide) (fun h => absurd h (nI_pos (by omega))) (fun _ => ?_)
        refine lv_iload_n C.1 C.2.1 dX4_slot_23 rfl (lv_at hl 3 rfl) ?_
        refine lv_iconst (v := nI 2) C.1 C.2.1 dX4_slot_24 (by decide +kernel) ?_
        refine lv_icmp_gt (tgt := 32) C.1 C.2.1 dX4_slot_25 (by decide) (fun h => absurd h (nI_nlt (by omega) (by decide))) (fun _ => ?_)
        refine lv_iconst (v := nI 1) C.1 C.2.1 dX4_slot_28 (by decide +kernel) ?_
        refine lv_goto (tgt := 33) C.1 C.2.1 dX4_slot_29 (by decide) ?_
        refine lv_istore (lv' := [(4, _), (0, _), (1, _), (2, _), (3, _)]) C.1 C.2.1 dX4_slot_33 hl (by decide) rfl (fun ls hl => ?_)
        refine lv_aload_n C.1 C.2.1 dX4_slot_35 rfl (lv_at hl 1 rfl) ?_
        refine lv_iload C.1 C.2.1 dX4_slot_36 (lv_at hl 0 rfl) ?_
        refine lv_if_eq (tgt := 45) C.1 C.2.1 dX4_slot_38 (by decide) (fun h => absurd h (by decide)) (fun _ => ?_)
        refine lv_iconst (v := nI 0) C.1 C.2.1 dX4_slot_41 (by decide +kernel) ?_
        refine lv_goto (tgt := 46) C.1 C.2.1 dX4_slot_42 (by decide) ?_
        refine cm_cV1 (q0 := 0) 1 C (k_X4_refused l D cI cZ cJ ad X I A (nI 0)) tw_660 tw_662 ts_28 tw_5 tw_663 rfl rfl (rfl) rfl (by decide +kernel) ⟨Nat.le_of_ble_eq_true rfl, Nat.le_of_ble_eq_true rfl⟩ ⟨Nat.zero_le _, Nat.zero_le _⟩ hP hD hS hl.1 rfl rfl (Nat.le_of_ble_eq_true rfl) dX4_slot_46 (fun H locs hP hD hS => ?_)
        refine lv_if_eq (tgt := 54) C.1 C.2.1 dX4_slot_49 (by decide) (fun _ => ?_) (fun h => absurd (by decide) h)
        refine lv_aload_n C.1 C.2.1 dX4_slot_54 rfl (lv_at hl 1 rfl) ?_
        refine va_get (v := .int (I 5)) (ci := 4) (C := RX4) (T := TX4) (N := 34) C.1 C.2.1 C.2.2.2.2.2.1 ui_X4 C.2.2.2.2.1 C.2.2.2.2.2.2.2.1 hP 0 (rfl) rfl 5 (by decide) (C.2.2.2.2.2.1 _ tw_461) (fun _ h9 => h9) rfl dX4_slot_55 ?_
        rw [hz]
        refine lv_iload_n C.1 C.2.1 dX4_slot_58 rfl (lv_at hl 2 rfl) ?_
        refine lv_iload_n C.1 C.2.1 dX4_slot_59 rfl (lv_at hl 3 rfl) ?_
        refine cm_cS1 3 C (k_X4_slotOf l D cI cZ cJ (mw ad cI cZ X (va_up I 0 (nI 0)) A) z pg sl) tw_585 tw_586 tw_5 tw_587 rfl rfl (by decide +kernel) ⟨Nat.le_of_ble_eq_true rfl, Nat.le_of_ble_eq_true rfl⟩ ⟨Nat.zero_le _, Nat.zero_le _⟩ hP hD hS hl.1 rfl rfl (Nat.le_of_ble_eq_true rfl) dX4_slot_60 (fun H locs hP hD hS => ?_)
        refine lv_istore (lv' := [(5, _), (4, _), (0, _), (1, _), (2, _), (3, _)]) C.1 C.2.1 dX4_slot_63 hl (by decide) rfl (fun ls hl => ?_)
        refine lv_aload_n C.1 C.2.1 dX4_slot_65 rfl (lv_at hl 2 rfl) ?_
        refine va_get (ci := 4) (C := RX4) (T := TX4) (N := 34) C.1 C.2.1 C.2.2.2.2.2.1 ui_X4 C.2.2.2.2.1 C.2.2.2.2.2.2.2.1 hP 0 (rfl) rfl 1 (by decide) (C.2.2.2.2.2.1 _ tw_457) (fun _ h9 => h9) rfl dX4_slot_66 ?_
        refine lv_iload C.1 C.2.1 dX4_slot_69 (lv_at hl 0 rfl) ?_
        refine va_zald (f := A 1) C.1 C.2.1 C.2.2.2.2.2.2.2.1 hP 1 1 (rfl) rfl (vp_in_nI (by omega) (by decide)) dX4_slot_71 ?_
        rw [nI_clamp (by omega)]
        refine lv_if_ne (tgt := 79) C.1 C.2.1 dX4_slot_72 (by decide) (fun _ => ?_) (fun h => absurd h (hu))
        refine lv_iload_n C.1 C.2.1 dX4_slot_79 rfl (lv_at hl 5 rfl) ?_
        refine lv_if_ne (tgt := 87) C.1 C.2.1 dX4_slot_80 (by decide) (fun _ => ?_) (fun h => absurd h (fun q => h0 ((nI_eq (b := 0) (by omega) (by decide)).mp q)))
        refine lv_iload_n C.1 C.2.1 dX4_slot_87 rfl (lv_at hl 5 rfl) ?_
        refine lv_iconst (v := nI 1) C.1 C.2.1 dX4_slot_88 (by decide +kernel) ?_
        refine lv_icmp_ne (tgt := 102) C.1 C.2.1 dX4_slot_89 (by decide) (fun _ => ?_) (fun h => absurd h (fun q => h1 ((nI_eq (b := 1) (by omega) (by decide)).mp q)))
        refine lv_aload_n C.1 C.2.1 dX4_slot_102 rfl (lv_at hl 2 rfl) ?_
        refine va_get (ci := 4) (C := RX4) (T := TX4) (N := 34) C.1 C.2.1 C.2.2.2.2.2.1 ui_X4 C.2.2.2.2.1 C.2.2.2.2.2.2.2.1 hP 0 (rfl) rfl 3 (by decide) (C.2.2.2.2.2.1 _ tw_459) (fun _ h9 => h9) rfl dX4_slot_103 ?_
        refine lv_iload C.1 C.2.1 dX4_slot_106 (lv_at hl 0 rfl) ?_
        refine va_iald (f := A 3) C.1 C.2.1 C.2.2.2.2.2.2.2.1 hP 3 0 (rfl) rfl (vp_in_nI (by omega) (by decide)) dX4_slot_108 ?_
        rw [nI_clamp (by omega)]
        exact cm_iret C hP hD hS dX4_slot_109 (by simp [uM, kM, vM, hu, h0, h1]) rfl
set_option maxHeartbeats 4000000 in
set_option maxRecDepth 100000 in
/-- count, refused -/
theorem k_X4_countR (l : Launch) (D : va_G) (cI cZ cJ : ClassId) (ad : Nat → Nat) (X : va_W) (I : Nat → Int32) (A : Nat → Nat → Int32) (x : Int32) (hb : ¬ (¬ x < 0 ∧ ¬ nI 8 < x)) : CM l D (cm_T cI cZ cJ) yX4_count cX4_count 2 (some .int) (cm_rm 1 24) [.ref (ad 0), .int x] (mw ad cI cZ X I A) (some (.int (nI 0))) (mw ad cI cZ X (va_up I 0 (nI 1)) A) := by
  refine CM.of (by decide) (Nat.le_of_ble_eq_true rfl) ?_
  intro p e s m below meth c ls H locs C hl hP hD hS
  by_cases h0 : x < 0
  · refine lv_aload_n C.1 C.2.1 dX4_count_0 rfl (lv_at hl 0 rfl) ?_
    refine lv_iload_n C.1 C.2.1 dX4_count_1 rfl (lv_at hl 1 rfl) ?_
    refine lv_if_lt (tgt := 15) C.1 C.2.1 dX4_count_2 (by decide) (fun _ => ?_) (fun h => absurd (h0) h)
    refine lv_iconst (v := nI 1) C.1 C.2.1 dX4_count_15 (by decide +kernel) ?_
    refine cm_cV1 (q0 := 0) 1 C (k_X4_refused l D cI cZ cJ ad X I A (nI 1)) tw_660 tw_662 ts_28 tw_5 tw_663 rfl rfl (rfl) rfl (by decide +kernel) ⟨Nat.le_of_ble_eq_true rfl, Nat.le_of_ble_eq_true rfl⟩ ⟨Nat.zero_le _, Nat.zero_le _⟩ hP hD hS hl.1 rfl rfl (Nat.le_of_ble_eq_true rfl) dX4_count_16 (fun H locs hP hD hS => ?_)
    refine lv_if_eq (tgt := 24) C.1 C.2.1 dX4_count_19 (by decide) (fun h => absurd h (by decide)) (fun _ => ?_)
    refine lv_iconst (v := nI 0) C.1 C.2.1 dX4_count_22 (by decide +kernel) ?_
    exact cm_iret C hP hD hS dX4_count_23 rfl rfl
  · refine lv_aload_n C.1 C.2.1 dX4_count_0 rfl (lv_at hl 0 rfl) ?_
    refine lv_iload_n C.1 C.2.1 dX4_count_1 rfl (lv_at hl 1 rfl) ?_
    refine lv_if_lt (tgt := 15) C.1 C.2.1 dX4_count_2 (by decide) (fun h => absurd h (h0)) (fun _ => ?_)
    refine lv_iload_n C.1 C.2.1 dX4_count_5 rfl (lv_at hl 1 rfl) ?_
    refine lv_bipush (v := nI 8) C.1 C.2.1 dX4_count_6 (by decide +kernel) ?_
    refine lv_icmp_gt (tgt := 15) C.1 C.2.1 dX4_count_8 (by decide) (fun _ => ?_) (fun h => absurd (Decidable.byContradiction (fun q => hb ⟨h0, q⟩)) h)
    refine lv_iconst (v := nI 1) C.1 C.2.1 dX4_count_15 (by decide +kernel) ?_
    refine cm_cV1 (q0 := 0) 1 C (k_X4_refused l D cI cZ cJ ad X I A (nI 1)) tw_660 tw_662 ts_28 tw_5 tw_663 rfl rfl (rfl) rfl (by decide +kernel) ⟨Nat.le_of_ble_eq_true rfl, Nat.le_of_ble_eq_true rfl⟩ ⟨Nat.zero_le _, Nat.zero_le _⟩ hP hD hS hl.1 rfl rfl (Nat.le_of_ble_eq_true rfl) dX4_count_16 (fun H locs hP hD hS => ?_)
    refine lv_if_eq (tgt := 24) C.1 C.2.1 dX4_count_19 (by decide) (fun h => absurd h (by decide)) (fun _ => ?_)
    refine lv_iconst (v := nI 0) C.1 C.2.1 dX4_count_22 (by decide +kernel) ?_
    exact cm_iret C hP hD hS dX4_count_23 rfl rfl
set_option maxHeartbeats 4000000 in
set_option maxRecDepth 100000 in
/-- count 0 -/
theorem k_X4_count0 (l : Launch) (D : va_G) (cI cZ cJ : ClassId) (ad : Nat → Nat) (X : va_W) (I : Nat → Int32) (A : Nat → Nat → Int32) (z : Nat) (hz0 : z < 2) (hz : I 5 = nI z) : CM l D (cm_T cI cZ cJ) yX4_count cX4_count 2 (some .int) (cm_rm 1 24) [.ref (ad 0), .int (nI 0)] (mw ad cI cZ X I A) (some (.int (nI (cnt (fun i => decide (¬ A 1 i = 0)) (36 * z) 36)))) (mw ad cI cZ X (va_up I 0 (nI 0)) A) := by
  refine CM.of (by decide) (Nat.le_of_ble_eq_true rfl) ?_
  intro p e s m below meth c ls H locs C hl hP hD hS
  refine lv_aload_n C.1 C.2.1 dX4_count_0 rfl (lv_at hl 0 rfl) ?_
  refine lv_iload_n C.1 C.2.1 dX4_count_1 rfl (lv_at hl 1 rfl) ?_
  refine lv_if_lt (tgt := 15) C.1 C.2.1 dX4_count_2 (by decide) (fun h => absurd h (by decide)) (fun _ => ?_)
  refine lv_iload_n C.1 C.2.1 dX4_count_5 rfl (lv_at hl 1 rfl) ?_
  refine lv_bipush (v := nI 8) C.1 C.2.1 dX4_count_6 (by decide +kernel) ?_
  refine lv_icmp_gt (tgt := 15) C.1 C.2.1 dX4_count_8 (by decide) (fun h => absurd h (by decide)) (fun _ => ?_)
  refine lv_iconst (v := nI 0) C.1 C.2.1 dX4_count_11 (by decide +kernel) ?_
  refine lv_goto (tgt := 16) C.1 C.2.1 dX4_count_12 (by decide) ?_
  refine cm_cV1 (q0 := 0) 1 C (k_X4_refused l D cI cZ cJ ad X I A (nI 0)) tw_660 tw_662 ts_28 tw_5 tw_663 rfl rfl (rfl) rfl (by decide +kernel) ⟨Nat.le_of_ble_eq_true rfl, Nat.le_of_ble_eq_true rfl⟩ ⟨Nat.zero_le _, Nat.zero_le _⟩ hP hD hS hl.1 rfl rfl (Nat.le_of_ble_eq_true rfl) dX4_count_16 (fun H locs hP hD hS => ?_)
  refine lv_if_eq (tgt := 24) C.1 C.2.1 dX4_count_19 (by decide) (fun _ => ?_) (fun h => absurd (by decide) h)
  refine lv_iload_n C.1 C.2.1 dX4_count_24 rfl (lv_at hl 1 rfl) ?_
  refine lv_tableIn (off := 47) (tgt := 72) C.1 C.2.1 dX4_count_25 (by decide) (by decide) (by decide +kernel) (by decide) ?_
  refine lv_aload_n C.1 C.2.1 dX4_count_72 rfl (lv_at hl 0 rfl) ?_
  refine lv_bipush (v := nI 36) C.1 C.2.1 dX4_count_73 (by decide +kernel) ?_
  refine lv_aload_n C.1 C.2.1 dX4_count_75 rfl (lv_at hl 0 rfl) ?_
  refine va_get (v := .int (I 5)) (ci := 4) (C := RX4) (T := TX4) (N := 34) C.1 C.2.1 C.2.2.2.2.2.1 ui_X4 C.2.2.2.2.1 C.2.2.2.2.2.2.2.1 hP 0 (rfl) rfl 5 (by decide) (C.2.2.2.2.2.1 _ tw_461) (fun _ h9 => h9) rfl dX4_count_76 ?_
  rw [hz]
  refine lv_imul C.1 C.2.1 dX4_count_79 ?_
  rw [pk_mul]
  refine lv_bipush (v := nI 36) C.1 C.2.1 dX4_count_80 (by decide +kernel) ?_
  refine lv_aload_n C.1 C.2.1 dX4_count_82 rfl (lv_at hl 0 rfl) ?_
  refine va_get (v := .int (I 5)) (ci := 4) (C := RX4) (T := TX4) (N := 34) C.1 C.2.1 C.2.2.2.2.2.1 ui_X4 C.2.2.2.2.1 C.2.2.2.2.2.2.2.1 hP 0 (rfl) rfl 5 (by decide) (C.2.2.2.2.2.1 _ tw_461) (fun _ h9 => h9) rfl dX4_count_83 ?_
  rw [hz]
  refine lv_imul C.1 C.2.1 dX4_count_86 ?_
  rw [pk_mul]
  refine lv_bipush (v := nI 36) C.1 C.2.1 dX4_count_87 (by decide +kernel) ?_
  refine lv_iadd C.1 C.2.1 dX4_count_89 ?_
  rw [nI_add]
  refine cm_cV1 (q0 := 0) 2 C (k_X4_usedFrom l D cI cZ cJ ad X (va_up I 0 (nI 0)) A (36 * z) (36 * z + 36) (by omega) (by omega)) tw_688 tw_690 ts_29 tw_5 tw_691 rfl rfl (rfl) rfl (by decide +kernel) ⟨Nat.le_of_ble_eq_true rfl, Nat.le_of_ble_eq_true rfl⟩ ⟨Nat.zero_le _, Nat.zero_le _⟩ hP hD hS hl.1 rfl rfl (Nat.le_of_ble_eq_true rfl) dX4_count_90 (fun H locs hP hD hS => ?_)
  rw [show 36 * z + 36 - (36 * z) = 36 by omega]
  exact cm_iret C hP hD hS dX4_count_93 rfl rfl
set_option maxHeartbeats 4000000 in
set_option maxRecDepth 100000 in
/-- count 1 -/
theorem k_X4_count1 (l : Launch) (D : va_G) (cI cZ cJ : ClassId) (ad : Nat → Nat) (X : va_W) (I : Nat → Int32) (A : Nat → Nat → Int32)  : CM l D (cm_T cI cZ cJ) yX4_count cX4_count 2 (some .int) (cm_rm 1 24) [.ref (ad 0), .int (nI 1)] (mw ad cI cZ X I A) (some (.int (I 20))) (mw ad cI cZ X (va_up I 0 (nI 0)) A) := by
  refine CM.of (by decide) (Nat.le_of_ble_eq_true rfl) ?_
  intro p e s m below meth c ls H locs C hl hP hD hS
  refine lv_aload_n C.1 C.2.1 dX4_count_0 rfl (lv_at hl 0 rfl) ?_
  refine lv_iload_n C.1 C.2.1 dX4_count_1 rfl (lv_at hl 1 rfl) ?_
  refine lv_if_lt (tgt := 15) C.1 C.2.1 dX4_count_2 (by decide) (fun h => absurd h (by decide)) (fun _ => ?_)
  refine lv_iload_n C.1 C.2.1 dX4_count_5 rfl (lv_at hl 1 rfl) ?_
  refine lv_bipush (v := nI 8) C.1 C.2.1 dX4_count_6 (by decide +kernel) ?_
  refine lv_icmp_gt (tgt := 15) C.1 C.2.1 dX4_count_8 (by decide) (fun h => absurd h (by decide)) (fun _ => ?_)
  refine lv_iconst (v := nI 0) C.1 C.2.1 dX4_count_11 (by decide +kernel) ?_
  refine lv_goto (tgt := 16) C.1 C.2.1 dX4_count_12 (by decide) ?_
  refine cm_cV1 (q0 := 0) 1 C (k_X4_refused l D cI cZ cJ ad X I A (nI 0)) tw_660 tw_662 ts_28 tw_5 tw_663 rfl rfl (rfl) rfl (by decide +kernel) ⟨Nat.le_of_ble_eq_true rfl, Nat.le_of_ble_eq_true rfl⟩ ⟨Nat.zero_le _, Nat.zero_le _⟩ hP hD hS hl.1 rfl rfl (Nat.le_of_ble_eq_true rfl) dX4_count_16 (fun H locs hP hD hS => ?_)
  refine lv_if_eq (tgt := 24) C.1 C.2.1 dX4_count_19 (by decide) (fun _ => ?_) (fun h => absurd (by decide) h)
  refine lv_iload_n C.1 C.2.1 dX4_count_24 rfl (lv_at hl 1 rfl) ?_
  refine lv_tableIn (off := 69) (tgt := 94) C.1 C.2.1 dX4_count_25 (by decide) (by decide) (by decide +kernel) (by decide) ?_
  refine lv_aload_n C.1 C.2.1 dX4_count_94 rfl (lv_at hl 0 rfl) ?_
  refine va_get (v := .int (I 20)) (ci := 4) (C := RX4) (T := TX4) (N := 34) C.1 C.2.1 C.2.2.2.2.2.1 ui_X4 C.2.2.2.2.1 C.2.2.2.2.2.2.2.1 hP 0 (rfl) rfl 20 (by decide) (C.2.2.2.2.2.1 _ tw_476) (fun _ h9 => h9) rfl dX4_count_95 ?_
  exact cm_iret C hP hD hS dX4_count_98 rfl rfl
set_option maxHeartbeats 4000000 in
set_option maxRecDepth 100000 in
/-- count 2 -/
theorem k_X4_count2 (l : Launch) (D : va_G) (cI cZ cJ : ClassId) (ad : Nat → Nat) (X : va_W) (I : Nat → Int32) (A : Nat → Nat → Int32)  : CM l D (cm_T cI cZ cJ) yX4_count cX4_count 2 (some .int) (cm_rm 1 24) [.ref (ad 0), .int (nI 2)] (mw ad cI cZ X I A) (some (.int (I 21))) (mw ad cI cZ X (va_up I 0 (nI 0)) A) := by
  refine CM.of (by decide) (Nat.le_of_ble_eq_true rfl) ?_
  intro p e s m below meth c ls H locs C hl hP hD hS
  refine lv_aload_n C.1 C.2.1 dX4_count_0 rfl (lv_at hl 0 rfl) ?_
  refine lv_iload_n C.1 C.2.1 dX4_count_1 rfl (lv_at hl 1 rfl) ?_
  refine lv_if_lt (tgt := 15) C.1 C.2.1 dX4_count_2 (by decide) (fun h => absurd h (by decide)) (fun _ => ?_)
  refine lv_iload_n C.1 C.2.1 dX4_count_5 rfl (lv_at hl 1 rfl) ?_
  refine lv_bipush (v := nI 8) C.1 C.2.1 dX4_count_6 (by decide +kernel) ?_
  refine lv_icmp_gt (tgt := 15) C.1 C.2.1 dX4_count_8 (by decide) (fun h => absurd h (by decide)) (fun _ => ?_)
  refine lv_iconst (v := nI 0) C.1 C.2.1 dX4_count_11 (by decide +kernel) ?_
  refine lv_goto (tgt := 16) C.1 C.2.1 dX4_count_12 (by decide) ?_
  refine cm_cV1 (q0 := 0) 1 C (k_X4_refused l D cI cZ cJ ad X I A (nI 0)) tw_660 tw_662 ts_28 tw_5 tw_663 rfl rfl (rfl) rfl (by decide +kernel) ⟨Nat.le_of_ble_eq_true rfl, Nat.le_of_ble_eq_true rfl⟩ ⟨Nat.zero_le _, Nat.zero_le _⟩ hP hD hS hl.1 rfl rfl (Nat.le_of_ble_eq_true rfl) dX4_count_16 (fun H locs hP hD hS => ?_)
  refine lv_if_eq (tgt := 24) C.1 C.2.1 dX4_count_19 (by decide) (fun _ => ?_) (fun h => absurd (by decide) h)
  refine lv_iload_n C.1 C.2.1 dX4_count_24 rfl (lv_at hl 1 rfl) ?_
  refine lv_tableIn (off := 74) (tgt := 99) C.1 C.2.1 dX4_count_25 (by decide) (by decide) (by decide +kernel) (by decide) ?_
  refine lv_aload_n C.1 C.2.1 dX4_count_99 rfl (lv_at hl 0 rfl) ?_
  refine va_get (v := .int (I 21)) (ci := 4) (C := RX4) (T := TX4) (N := 34) C.1 C.2.1 C.2.2.2.2.2.1 ui_X4 C.2.2.2.2.1 C.2.2.2.2.2.2.2.1 hP 0 (rfl) rfl 21 (by decide) (C.2.2.2.2.2.1 _ tw_477) (fun _ h9 => h9) rfl dX4_count_100 ?_
  exact cm_iret C hP hD hS dX4_count_103 rfl rfl
set_option maxHeartbeats 4000000 in
set_option maxRecDepth 100000 in
/-- count 3 -/
theorem k_X4_count3 (l : Launch) (D : va_G) (cI cZ cJ : ClassId) (ad : Nat → Nat) (X : va_W) (I : Nat → Int32) (A : Nat → Nat → Int32) (z : Nat) (hz0 : z < 2) (hz : I 5 = nI z) : CM l D (cm_T cI cZ cJ) yX4_count cX4_count 2 (some .int) (cm_rm 1 24) [.ref (ad 0), .int (nI 3)] (mw ad cI cZ X I A) (some (.int (nI (cnt (fun i => decide (¬ A 1 i = 0)) (36 * z + 32) 4)))) (mw ad cI cZ X (va_up I 0 (nI 0)) A) := by
  refine CM.of (by decide) (Nat.le_of_ble_eq_true rfl) ?_
  intro p e s m below meth c ls H locs C hl hP hD hS
  refine lv_aload_n C.1 C.2.1 dX4_count_0 rfl (lv_at hl 0 rfl) ?_
  refine lv_iload_n C.1 C.2.1 dX4_count_1 rfl (lv_at hl 1 rfl) ?_
  refine lv_if_lt (tgt := 15) C.1 C.2.1 dX4_count_2 (by decide) (fun h => absurd h (by decide)) (fun _ => ?_)
  refine lv_iload_n C.1 C.2.1 dX4_count_5 rfl (lv_at hl 1 rfl) ?_
  refine lv_bipush (v := nI 8) C.1 C.2.1 dX4_count_6 (by decide +kernel) ?_
  refine lv_icmp_gt (tgt := 15) C.1 C.2.1 dX4_count_8 (by decide) (fun h => absurd h (by decide)) (fun _ => ?_)
  refine lv_iconst (v := nI 0) C.1 C.2.1 dX4_count_11 (by decide +kernel) ?_
  refine lv_goto (tgt := 16) C.1 C.2.1 dX4_count_12 (by decide) ?_
  refine cm_cV1 (q0 := 0) 1 C (k_X4_refused l D cI cZ cJ ad X I A (nI 0)) tw_660 tw_662 ts_28 tw_5 tw_663 rfl rfl (rfl) rfl (by decide +kernel) ⟨Nat.le_of_ble_eq_true rfl, Nat.le_of_ble_eq_true rfl⟩ ⟨Nat.zero_le _, Nat.zero_le _⟩ hP hD hS hl.1 rfl rfl (Nat.le_of_ble_eq_true rfl) dX4_count_16 (fun H locs hP hD hS => ?_)
  refine lv_if_eq (tgt := 24) C.1 C.2.1 dX4_count_19 (by decide) (fun _ => ?_) (fun h => absurd (by decide) h)
  refine lv_iload_n C.1 C.2.1 dX4_count_24 rfl (lv_at hl 1 rfl) ?_
  refine lv_tableIn (off := 79) (tgt := 104) C.1 C.2.1 dX4_count_25 (by decide) (by decide) (by decide +kernel) (by decide) ?_
  refine lv_aload_n C.1 C.2.1 dX4_count_104 rfl (lv_at hl 0 rfl) ?_
  refine lv_bipush (v := nI 36) C.1 C.2.1 dX4_count_105 (by decide +kernel) ?_
  refine lv_aload_n C.1 C.2.1 dX4_count_107 rfl (lv_at hl 0 rfl) ?_
  refine va_get (v := .int (I 5)) (ci := 4) (C := RX4) (T := TX4) (N := 34) C.1 C.2.1 C.2.2.2.2.2.1 ui_X4 C.2.2.2.2.1 C.2.2.2.2.2.2.2.1 hP 0 (rfl) rfl 5 (by decide) (C.2.2.2.2.2.1 _ tw_461) (fun _ h9 => h9) rfl dX4_count_108 ?_
  rw [hz]
  refine lv_imul C.1 C.2.1 dX4_count_111 ?_
  rw [pk_mul]
  refine lv_bipush (v := nI 32) C.1 C.2.1 dX4_count_112 (by decide +kernel) ?_
  refine lv_iadd C.1 C.2.1 dX4_count_114 ?_
  rw [nI_add]
  refine lv_bipush (v := nI 36) C.1 C.2.1 dX4_count_115 (by decide +kernel) ?_
  refine lv_aload_n C.1 C.2.1 dX4_count_117 rfl (lv_at hl 0 rfl) ?_
  refine va_get (v := .int (I 5)) (ci := 4) (C := RX4) (T := TX4) (N := 34) C.1 C.2.1 C.2.2.2.2.2.1 ui_X4 C.2.2.2.2.1 C.2.2.2.2.2.2.2.1 hP 0 (rfl) rfl 5 (by decide) (C.2.2.2.2.2.1 _ tw_461) (fun _ h9 => h9) rfl dX4_count_118 ?_
  rw [hz]
  refine lv_imul C.1 C.2.1 dX4_count_121 ?_
  rw [pk_mul]
  refine lv_bipush (v := nI 36) C.1 C.2.1 dX4_count_122 (by decide +kernel) ?_
  refine lv_iadd C.1 C.2.1 dX4_count_124 ?_
  rw [nI_add]
  refine cm_cV1 (q0 := 0) 2 C (k_X4_usedFrom l D cI cZ cJ ad X (va_up I 0 (nI 0)) A (36 * z + 32) (36 * z + 36) (by omega) (by omega)) tw_688 tw_690 ts_29 tw_5 tw_691 rfl rfl (rfl) rfl (by decide +kernel) ⟨Nat.le_of_ble_eq_true rfl, Nat.le_of_ble_eq_true rfl⟩ ⟨Nat.zero_le _, Nat.zero_le _⟩ hP hD hS hl.1 rfl rfl (Nat.le_of_ble_eq_true rfl) dX4_count_125 (fun H locs hP hD hS => ?_)
  rw [show 36 * z + 36 - (36 * z + 32) = 4 by omega]
  exact cm_iret C hP hD hS dX4_count_128 rfl rfl
set_option maxHeartbeats 4000000 in
set_option maxRecDepth 100000 in
/-- count 4 -/
theorem k_X4_count4 (l : Launch) (D : va_G) (cI cZ cJ : ClassId) (ad : Nat → Nat) (X : va_W) (I : Nat → Int32) (A : Nat → Nat → Int32)  : CM l D (cm_T cI cZ cJ) yX4_count cX4_count 2 (some .int) (cm_rm 1 24) [.ref (ad 0), .int (nI 4)] (mw ad cI cZ X I A) (some (.int (I 5))) (mw ad cI cZ X (va_up I 0 (nI 0)) A) := by
  refine CM.of (by decide) (Nat.le_of_ble_eq_true rfl) ?_
  intro p e s m below meth c ls H locs C hl hP hD hS
  refine lv_aload_n C.1 C.2.1 dX4_count_0 rfl (lv_at hl 0 rfl) ?_
  refine lv_iload_n C.1 C.2.1 dX4_count_1 rfl (lv_at hl 1 rfl) ?_
  refine lv_if_lt (tgt := 15) C.1 C.2.1 dX4_count_2 (by decide) (fun h => absurd h (by decide)) (fun _ => ?_)
  refine lv_iload_n C.1 C.2.1 dX4_count_5 rfl (lv_at hl 1 rfl) ?_
  refine lv_bipush (v := nI 8) C.1 C.2.1 dX4_count_6 (by decide +kernel) ?_
  refine lv_icmp_gt (tgt := 15) C.1 C.2.1 dX4_count_8 (by decide) (fun h => absurd h (by decide)) (fun _ => ?_)
  refine lv_iconst (v := nI 0) C.1 C.2.1 dX4_count_11 (by decide +kernel) ?_
  refine lv_goto (tgt := 16) C.1 C.2.1 dX4_count_12 (by decide) ?_
  refine cm_cV1 (q0 := 0) 1 C (k_X4_refused l D cI cZ cJ ad X I A (nI 0)) tw_660 tw_662 ts_28 tw_5 tw_663 rfl rfl (rfl) rfl (by decide +kernel) ⟨Nat.le_of_ble_eq_true rfl, Nat.le_of_ble_eq_true rfl⟩ ⟨Nat.zero_le _, Nat.zero_le _⟩ hP hD hS hl.1 rfl rfl (Nat.le_of_ble_eq_true rfl) dX4_count_16 (fun H locs hP hD hS => ?_)
  refine lv_if_eq (tgt := 24) C.1 C.2.1 dX4_count_19 (by decide) (fun _ => ?_) (fun h => absurd (by decide) h)
  refine lv_iload_n C.1 C.2.1 dX4_count_24 rfl (lv_at hl 1 rfl) ?_
  refine lv_tableIn (off := 104) (tgt := 129) C.1 C.2.1 dX4_count_25 (by decide) (by decide) (by decide +kernel) (by decide) ?_
  refine lv_aload_n C.1 C.2.1 dX4_count_129 rfl (lv_at hl 0 rfl) ?_
  refine va_get (v := .int (I 5)) (ci := 4) (C := RX4) (T := TX4) (N := 34) C.1 C.2.1 C.2.2.2.2.2.1 ui_X4 C.2.2.2.2.1 C.2.2.2.2.2.2.2.1 hP 0 (rfl) rfl 5 (by decide) (C.2.2.2.2.2.1 _ tw_461) (fun _ h9 => h9) rfl dX4_count_130 ?_
  exact cm_iret C hP hD hS dX4_count_133 rfl rfl
set_option maxHeartbeats 4000000 in
set_option maxRecDepth 100000 in
/-- count 5 -/
theorem k_X4_count5 (l : Launch) (D : va_G) (cI cZ cJ : ClassId) (ad : Nat → Nat) (X : va_W) (I : Nat → Int32) (A : Nat → Nat → Int32)  : CM l D (cm_T cI cZ cJ) yX4_count cX4_count 2 (some .int) (cm_rm 1 24) [.ref (ad 0), .int (nI 5)] (mw ad cI cZ X I A) (some (.int (I 6))) (mw ad cI cZ X (va_up I 0 (nI 0)) A) := by
  refine CM.of (by decide) (Nat.le_of_ble_eq_true rfl) ?_
  intro p e s m below meth c ls H locs C hl hP hD hS
  refine lv_aload_n C.1 C.2.1 dX4_count_0 rfl (lv_at hl 0 rfl) ?_
  refine lv_iload_n C.1 C.2.1 dX4_count_1 rfl (lv_at hl 1 rfl) ?_
  refine lv_if_lt (tgt := 15) C.1 C.2.1 dX4_count_2 (by decide) (fun h => absurd h (by decide)) (fun _ => ?_)
  refine lv_iload_n C.1 C.2.1 dX4_count_5 rfl (lv_at hl 1 rfl) ?_
  refine lv_bipush (v := nI 8) C.1 C.2.1 dX4_count_6 (by decide +kernel) ?_
  refine lv_icmp_gt (tgt := 15) C.1 C.2.1 dX4_count_8 (by decide) (fun h => absurd h (by decide)) (fun _ => ?_)
  refine lv_iconst (v := nI 0) C.1 C.2.1 dX4_count_11 (by decide +kernel) ?_
  refine lv_goto (tgt := 16) C.1 C.2.1 dX4_count_12 (by decide) ?_
  refine cm_cV1 (q0 := 0) 1 C (k_X4_refused l D cI cZ cJ ad X I A (nI 0)) tw_660 tw_662 ts_28 tw_5 tw_663 rfl rfl (rfl) rfl (by decide +kernel) ⟨Nat.le_of_ble_eq_true rfl, Nat.le_of_ble_eq_true rfl⟩ ⟨Nat.zero_le _, Nat.zero_le _⟩ hP hD hS hl.1 rfl rfl (Nat.le_of_ble_eq_true rfl) dX4_count_16 (fun H locs hP hD hS => ?_)
  refine lv_if_eq (tgt := 24) C.1 C.2.1 dX4_count_19 (by decide) (fun _ => ?_) (fun h => absurd (by decide) h)
  refine lv_iload_n C.1 C.2.1 dX4_count_24 rfl (lv_at hl 1 rfl) ?_
  refine lv_tableIn (off := 109) (tgt := 134) C.1 C.2.1 dX4_count_25 (by decide) (by decide) (by decide +kernel) (by decide) ?_
  refine lv_aload_n C.1 C.2.1 dX4_count_134 rfl (lv_at hl 0 rfl) ?_
  refine va_get (v := .int (I 6)) (ci := 4) (C := RX4) (T := TX4) (N := 34) C.1 C.2.1 C.2.2.2.2.2.1 ui_X4 C.2.2.2.2.1 C.2.2.2.2.2.2.2.1 hP 0 (rfl) rfl 6 (by decide) (C.2.2.2.2.2.1 _ tw_462) (fun _ h9 => h9) rfl dX4_count_135 ?_
  exact cm_iret C hP hD hS dX4_count_138 rfl rfl
set_option maxHeartbeats 4000000 in
set_option maxRecDepth 100000 in
/-- count 6 -/
theorem k_X4_count6 (l : Launch) (D : va_G) (cI cZ cJ : ClassId) (ad : Nat → Nat) (X : va_W) (I : Nat → Int32) (A : Nat → Nat → Int32)  : CM l D (cm_T cI cZ cJ) yX4_count cX4_count 2 (some .int) (cm_rm 1 24) [.ref (ad 0), .int (nI 6)] (mw ad cI cZ X I A) (some (.int (I 32))) (mw ad cI cZ X (va_up I 0 (nI 0)) A) := by
  refine CM.of (by decide) (Nat.le_of_ble_eq_true rfl) ?_
  intro p e s m below meth c ls H locs C hl hP hD hS
  refine lv_aload_n C.1 C.2.1 dX4_count_0 rfl (lv_at hl 0 rfl) ?_
  refine lv_iload_n C.1 C.2.1 dX4_count_1 rfl (lv_at hl 1 rfl) ?_
  refine lv_if_lt (tgt := 15) C.1 C.2.1 dX4_count_2 (by decide) (fun h => absurd h (by decide)) (fun _ => ?_)
  refine lv_iload_n C.1 C.2.1 dX4_count_5 rfl (lv_at hl 1 rfl) ?_
  refine lv_bipush (v := nI 8) C.1 C.2.1 dX4_count_6 (by decide +kernel) ?_
  refine lv_icmp_gt (tgt := 15) C.1 C.2.1 dX4_count_8 (by decide) (fun h => absurd h (by decide)) (fun _ => ?_)
  refine lv_iconst (v := nI 0) C.1 C.2.1 dX4_count_11 (by decide +kernel) ?_
  refine lv_goto (tgt := 16) C.1 C.2.1 dX4_count_12 (by decide) ?_
  refine cm_cV1 (q0 := 0) 1 C (k_X4_refused l D cI cZ cJ ad X I A (nI 0)) tw_660 tw_662 ts_28 tw_5 tw_663 rfl rfl (rfl) rfl (by decide +kernel) ⟨Nat.le_of_ble_eq_true rfl, Nat.le_of_ble_eq_true rfl⟩ ⟨Nat.zero_le _, Nat.zero_le _⟩ hP hD hS hl.1 rfl rfl (Nat.le_of_ble_eq_true rfl) dX4_count_16 (fun H locs hP hD hS => ?_)
  refine lv_if_eq (tgt := 24) C.1 C.2.1 dX4_count_19 (by decide) (fun _ => ?_) (fun h => absurd (by decide) h)
  refine lv_iload_n C.1 C.2.1 dX4_count_24 rfl (lv_at hl 1 rfl) ?_
  refine lv_tableIn (off := 114) (tgt := 139) C.1 C.2.1 dX4_count_25 (by decide) (by decide) (by decide +kernel) (by decide) ?_
  refine lv_aload_n C.1 C.2.1 dX4_count_139 rfl (lv_at hl 0 rfl) ?_
  refine va_get (v := .int (I 32)) (ci := 4) (C := RX4) (T := TX4) (N := 34) C.1 C.2.1 C.2.2.2.2.2.1 ui_X4 C.2.2.2.2.1 C.2.2.2.2.2.2.2.1 hP 0 (rfl) rfl 32 (by decide) (C.2.2.2.2.2.1 _ tw_488) (fun _ h9 => h9) rfl dX4_count_140 ?_
  exact cm_iret C hP hD hS dX4_count_143 rfl rfl
set_option maxHeartbeats 4000000 in
set_option maxRecDepth 100000 in
/-- count 7 -/
theorem k_X4_count7 (l : Launch) (D : va_G) (cI cZ cJ : ClassId) (ad : Nat → Nat) (X : va_W) (I : Nat → Int32) (A : Nat → Nat → Int32)  : CM l D (cm_T cI cZ cJ) yX4_count cX4_count 2 (some .int) (cm_rm 1 24) [.ref (ad 0), .int (nI 7)] (mw ad cI cZ X I A) (some (.int (I 31))) (mw ad cI cZ X (va_up I 0 (nI 0)) A) := by
  refine CM.of (by decide) (Nat.le_of_ble_eq_true rfl) ?_
  intro p e s m below meth c ls H locs C hl hP hD hS
  refine lv_aload_n C.1 C.2.1 dX4_count_0 rfl (lv_at hl 0 rfl) ?_
  refine lv_iload_n C.1 C.2.1 dX4_count_1 rfl (lv_at hl 1 rfl) ?_
  refine lv_if_lt (tgt := 15) C.1 C.2.1 dX4_count_2 (by decide) (fun h => absurd h (by decide)) (fun _ => ?_)
  refine lv_iload_n C.1 C.2.1 dX4_count_5 rfl (lv_at hl 1 rfl) ?_
  refine lv_bipush (v := nI 8) C.1 C.2.1 dX4_count_6 (by decide +kernel) ?_
  refine lv_icmp_gt (tgt := 15) C.1 C.2.1 dX4_count_8 (by decide) (fun h => absurd h (by decide)) (fun _ => ?_)
  refine lv_iconst (v := nI 0) C.1 C.2.1 dX4_count_11 (by decide +kernel) ?_
  refine lv_goto (tgt := 16) C.1 C.2.1 dX4_count_12 (by decide) ?_
  refine cm_cV1 (q0 := 0) 1 C (k_X4_refused l D cI cZ cJ ad X I A (nI 0)) tw_660 tw_662 ts_28 tw_5 tw_663 rfl rfl (rfl) rfl (by decide +kernel) ⟨Nat.le_of_ble_eq_true rfl, Nat.le_of_ble_eq_true rfl⟩ ⟨Nat.zero_le _, Nat.zero_le _⟩ hP hD hS hl.1 rfl rfl (Nat.le_of_ble_eq_true rfl) dX4_count_16 (fun H locs hP hD hS => ?_)
  refine lv_if_eq (tgt := 24) C.1 C.2.1 dX4_count_19 (by decide) (fun _ => ?_) (fun h => absurd (by decide) h)
  refine lv_iload_n C.1 C.2.1 dX4_count_24 rfl (lv_at hl 1 rfl) ?_
  refine lv_tableIn (off := 119) (tgt := 144) C.1 C.2.1 dX4_count_25 (by decide) (by decide) (by decide +kernel) (by decide) ?_
  refine lv_aload_n C.1 C.2.1 dX4_count_144 rfl (lv_at hl 0 rfl) ?_
  refine va_get (v := .int (I 31)) (ci := 4) (C := RX4) (T := TX4) (N := 34) C.1 C.2.1 C.2.2.2.2.2.1 ui_X4 C.2.2.2.2.1 C.2.2.2.2.2.2.2.1 hP 0 (rfl) rfl 31 (by decide) (C.2.2.2.2.2.1 _ tw_487) (fun _ h9 => h9) rfl dX4_count_145 ?_
  exact cm_iret C hP hD hS dX4_count_148 rfl rfl
set_option maxHeartbeats 4000000 in
set_option maxRecDepth 100000 in
/-- count 8 -/
theorem k_X4_count8 (l : Launch) (D : va_G) (cI cZ cJ : ClassId) (ad : Nat → Nat) (X : va_W) (I : Nat → Int32) (A : Nat → Nat → Int32)  : CM l D (cm_T cI cZ cJ) yX4_count cX4_count 2 (some .int) (cm_rm 1 24) [.ref (ad 0), .int (nI 8)] (mw ad cI cZ X I A) (some (.int (I 33))) (mw ad cI cZ X (va_up I 0 (nI 0)) A) := by
  refine CM.of (by decide) (Nat.le_of_ble_eq_true rfl) ?_
  intro p e s m below meth c ls H locs C hl hP hD hS
  refine lv_aload_n C.1 C.2.1 dX4_count_0 rfl (lv_at hl 0 rfl) ?_
  refine lv_iload_n C.1 C.2.1 dX4_count_1 rfl (lv_at hl 1 rfl) ?_
  refine lv_if_lt (tgt := 15) C.1 C.2.1 dX4_count_2 (by decide) (fun h => absurd h (by decide)) (fun _ => ?_)
  refine lv_iload_n C.1 C.2.1 dX4_count_5 rfl (lv_at hl 1 rfl) ?_
  refine lv_bipush (v := nI 8) C.1 C.2.1 dX4_count_6 (by decide +kernel) ?_
  refine lv_icmp_gt (tgt := 15) C.1 C.2.1 dX4_count_8 (by decide) (fun h => absurd h (by decide)) (fun _ => ?_)
  refine lv_iconst (v := nI 0) C.1 C.2.1 dX4_count_11 (by decide +kernel) ?_
  refine lv_goto (tgt := 16) C.1 C.2.1 dX4_count_12 (by decide) ?_
  refine cm_cV1 (q0 := 0) 1 C (k_X4_refused l D cI cZ cJ ad X I A (nI 0)) tw_660 tw_662 ts_28 tw_5 tw_663 rfl rfl (rfl) rfl (by decide +kernel) ⟨Nat.le_of_ble_eq_true rfl, Nat.le_of_ble_eq_true rfl⟩ ⟨Nat.zero_le _, Nat.zero_le _⟩ hP hD hS hl.1 rfl rfl (Nat.le_of_ble_eq_true rfl) dX4_count_16 (fun H locs hP hD hS => ?_)
  refine lv_if_eq (tgt := 24) C.1 C.2.1 dX4_count_19 (by decide) (fun _ => ?_) (fun h => absurd (by decide) h)
  refine lv_iload_n C.1 C.2.1 dX4_count_24 rfl (lv_at hl 1 rfl) ?_
  refine lv_tableOut (tgt := 149) C.1 C.2.1 dX4_count_25 (by decide) (by decide) ?_
  refine lv_aload_n C.1 C.2.1 dX4_count_149 rfl (lv_at hl 0 rfl) ?_
  refine va_get (v := .int (I 33)) (ci := 4) (C := RX4) (T := TX4) (N := 34) C.1 C.2.1 C.2.2.2.2.2.1 ui_X4 C.2.2.2.2.1 C.2.2.2.2.2.2.2.1 hP 0 (rfl) rfl 33 (by decide) (C.2.2.2.2.2.1 _ tw_489) (fun _ h9 => h9) rfl dX4_count_150 ?_
  exact cm_iret C hP hD hS dX4_count_153 rfl rfl
