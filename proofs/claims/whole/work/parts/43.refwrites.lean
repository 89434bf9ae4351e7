/-! ===== flush, next, writePage, writeJournal, writeRoot, fill ===== -/
theorem fin1_knd {A : Nat → Nat → Int32} {I : Nat → Int32} {w j : Nat} (h : wKnd A w) : wKnd (fin1 j (I, A)).2 w := by
  have hs := (fin1_same j (I, A)).1
  unfold wKnd
  rw [hs 22 (by simp), hs 23 (by simp), hs 24 (by simp)]
  exact h
theorem finN_same : ∀ (k j : Nat) (st : MS), (∀ i, (i = 22 ∨ i = 23 ∨ i = 24 ∨ i = 25 ∨ i = 26 ∨ i = 27 ∨ i = 28 ∨ i = 1 ∨ i = 2 ∨ i = 3 ∨ i = 4 ∨ i = 8 ∨ i = 9 ∨ i = 10 ∨ i = 30) → (finN j k st).2 i = st.2 i) ∧ (∀ i, (i ≠ 14 ∧ i ≠ 15 ∧ i ≠ 16) → (finN j k st).1 i = st.1 i) := by
  intro k
  induction k with
  | zero => intro j st; exact ⟨fun _ _ => rfl, fun _ _ => rfl⟩
  | succ k ih =>
    intro j st
    have h1 := ih (j + 1) (fin1 j st)
    have h2 := fin1_same j st
    exact ⟨fun i hi => (h1.1 i hi).trans (h2.1 i hi), fun i hi => (h1.2 i hi).trans (h2.2 i hi)⟩
theorem nxt_I {what : Int32} {t : Nat} {I : Nat → Int32} {A : Nat → Nat → Int32} {x : Int32} (i : Nat) (hi : i ≠ 14 ∧ i ≠ 15 ∧ i ≠ 16 ∧ i ≠ 20 ∧ i ≠ 21) (h : I i = x) : (nxt what t (I, A)).1 i = x := by
  unfold nxt
  by_cases q : t < 40
  · rw [if_pos q]
    dsimp only
    rw [va_up_ne _ _ hi.2.2.2.1, va_up_ne _ _ hi.2.2.2.2]
    exact h
  · rw [if_neg q]
    dsimp only
    rw [va_up_ne _ _ hi.2.2.2.1, va_up_ne _ _ hi.2.2.2.2]
    unfold flsh
    dsimp only
    rw [va_up_ne _ _ hi.2.2.2.1, (finN_same t 0 (I, A)).2 i ⟨hi.1, hi.2.1, hi.2.2.1⟩]
    exact h
set_option maxHeartbeats 4000000 in
set_option maxRecDepth 100000 in
/-- flush -/
theorem k_X4_flush (l : Launch) (D : va_G) (cI cZ cJ : ClassId) (ad : Nat → Nat) (X : va_W) (I : Nat → Int32) (A : Nat → Nat → Int32) (t : Nat) (ht : t ≤ 40) (h20 : I 20 = nI t) (hk : ∀ j, j < t → wKnd A j) : CM l D (cm_T cI cZ cJ) yX4_flush cX4_flush 3 (some .int) (cm_rm 1 23) [.ref (ad 0)] (mw ad cI cZ X I A) (some (.int (nI t))) (mw ad cI cZ X (flsh (I, A) t).1 (flsh (I, A) t).2) := by
  refine CM.of (by decide) (Nat.le_of_ble_eq_true rfl) ?_
  intro p e s m below meth c ls H locs C hl hP hD hS
  refine lv_aload_n C.1 C.2.1 dX4_flush_0 rfl (lv_at hl 0 rfl) ?_
  refine va_get (ci := 4) (C := RX4) (T := TX4) (N := 34) C.1 C.2.1 C.2.2.2.2.2.1 ui_X4 C.2.2.2.2.1 C.2.2.2.2.2.2.2.1 hP 0 (rfl) rfl 20 (by decide) (C.2.2.2.2.2.1 _ tw_476) (fun _ h9 => h9) rfl dX4_flush_1 ?_
  refine lv_istore_n (lv' := [(1, _), (0, _)]) C.1 C.2.1 dX4_flush_4 rfl hl (by decide) rfl (fun ls hl => ?_)
  refine lv_iconst (v := nI 0) C.1 C.2.1 dX4_flush_5 (by decide +kernel) ?_
  refine lv_istore_n (lv' := [(2, _), (1, _), (0, _)]) C.1 C.2.1 dX4_flush_6 rfl hl (by decide) rfl (fun ls hl => ?_)
  rw [h20] at hl
  have loop : ∀ (k j : Nat) (J : Nat → Int32) (C9 : Nat → Nat → Int32), j + k = t → (∀ i, i < t → wKnd C9 i) → finN j k (J, C9) = finN 0 t (I, A) → ∀ (ls : Array Slot) (H : Heap) (locs : List Loc), lv_has ls 3 [(2, .int (nI j)), (1, .int (nI t)), (0, .ref (ad 0))] → va_P D vwCl (mw ad cI cZ X J C9) H → va_D (cm_A (mw ad cI cZ X I A)) (mw ad cI cZ X J C9) → va_S (cm_A (mw ad cI cZ X I A)) s.heap H locs → W p l e (cm_rm 1 23) s m ([.ref (ad 0)] : List Value).toArray below meth c H locs 0 0 (cm_Q below D [.ref (ad 0)] s (mw ad cI cZ X I A) (some (.int (nI t))) (mw ad cI cZ X (flsh (I, A) t).1 (flsh (I, A) t).2)) (F0 m 7 ls []) := by
    intro k
    induction k with
    | zero =>
      intro j J C9 hj hk9 hf ls H locs hl hP hD hS
      refine lv_iload_n C.1 C.2.1 dX4_flush_7 rfl (lv_at hl 0 rfl) ?_
      refine lv_iload_n C.1 C.2.1 dX4_flush_8 rfl (lv_at hl 1 rfl) ?_
      refine lv_icmp_ge (tgt := 23) C.1 C.2.1 dX4_flush_9 (by decide) (fun _ => ?_) (fun h => absurd (nI_le (by omega) (by omega)) h)
      refine lv_aload_n C.1 C.2.1 dX4_flush_23 rfl (lv_at hl 2 rfl) ?_
      refine lv_iconst (v := nI 0) C.1 C.2.1 dX4_flush_24 (by decide +kernel) ?_
      refine va_put (ci := 4) (C := RX4) (T := TX4) (N := 34) (ty := .int) C.1 C.2.1 C.2.2.2.2.2.1 ui_X4 tyX4 tyX4_ok nmX4 C.2.2.2.2.1 C.2.2.2.2.2.2.2.1 hP hD hS 0 (rfl) rfl 20 (by decide) (C.2.2.2.2.2.1 _ tw_476) (fun _ h9 => h9) rfl (by decide +kernel) rfl rfl (Nat.le_of_ble_eq_true rfl) dX4_flush_25 (fun H locs hP hD hS => ?_)
      refine lv_iload_n C.1 C.2.1 dX4_flush_28 rfl (lv_at hl 1 rfl) ?_
      have hf : (J, C9) = finN 0 t (I, A) := hf
      have hf2 : flsh (I, A) t = (va_up J 20 (nI 0), C9) := by unfold flsh; rw [← hf]
      exact cm_iret C hP hD hS dX4_flush_29 rfl (by rw [hf2]; rfl)
    | succ k ih =>
      intro j J C9 hj hk9 hf ls H locs hl hP hD hS
      refine lv_iload_n C.1 C.2.1 dX4_flush_7 rfl (lv_at hl 0 rfl) ?_
      refine lv_iload_n C.1 C.2.1 dX4_flush_8 rfl (lv_at hl 1 rfl) ?_
      refine lv_icmp_ge (tgt := 23) C.1 C.2.1 dX4_flush_9 (by decide) (fun h => absurd h (nI_ge (by omega) (by omega))) (fun _ => ?_)
      refine lv_aload_n C.1 C.2.1 dX4_flush_12 rfl (lv_at hl 2 rfl) ?_
      refine lv_iload_n C.1 C.2.1 dX4_flush_13 rfl (lv_at hl 0 rfl) ?_
      refine cm_cV0 (q0 := 0) 1 C (k_X4_finish l D cI cZ cJ ad X J C9 j (by omega) (hk9 j (by omega))) tw_604 tw_606 ts_18 tw_5 tw_607 rfl rfl (rfl) rfl (by decide +kernel) ⟨Nat.le_of_ble_eq_true rfl, Nat.le_of_ble_eq_true rfl⟩ ⟨Nat.zero_le _, Nat.zero_le _⟩ hP hD hS hl.1 rfl rfl (Nat.le_of_ble_eq_true rfl) dX4_flush_14 (fun H locs hP hD hS => ?_)
      refine lv_iinc (v := nI (j + 1)) (lv' := [(2, _), (1, _), (0, _)]) C.1 C.2.1 dX4_flush_17 hl (k := 0) rfl (nI_1 j) (by decide) rfl (fun ls hl => ?_)
      refine lv_goto (tgt := 7) C.1 C.2.1 dX4_flush_20 (by decide) ?_
      exact ih (j + 1) _ _ (by omega) (fun i hi => fin1_knd (hk9 i hi)) hf ls H locs hl hP hD hS
  exact loop t 0 I A (Nat.zero_add t) hk rfl ls H locs hl hP hD hS
set_option maxHeartbeats 4000000 in
set_option maxRecDepth 100000 in
/-- next -/
theorem k_X4_next (l : Launch) (D : va_G) (cI cZ cJ : ClassId) (ad : Nat → Nat) (X : va_W) (I : Nat → Int32) (A : Nat → Nat → Int32) (t : Nat) (ht : t ≤ 40) (h20 : I 20 = nI t) (hk : ∀ j, j < t → wKnd A j) (what : Int32) : CM l D (cm_T cI cZ cJ) yX4_next cX4_next 3 (some .int) (cm_rm 2 45) [.ref (ad 0), .int what] (mw ad cI cZ X I A) (some (.int (nI (t0 t)))) (mw ad cI cZ X (nxt what t (I, A)).1 (nxt what t (I, A)).2) := by
  refine CM.of (by decide) (Nat.le_of_ble_eq_true rfl) ?_
  intro p e s m below meth c ls H locs C hl hP hD hS
  by_cases h40 : t < 40
  · refine lv_aload_n C.1 C.2.1 dX4_next_0 rfl (lv_at hl 0 rfl) ?_
    refine va_get (ci := 4) (C := RX4) (T := TX4) (N := 34) C.1 C.2.1 C.2.2.2.2.2.1 ui_X4 C.2.2.2.2.1 C.2.2.2.2.2.2.2.1 hP 0 (rfl) rfl 20 (by decide) (C.2.2.2.2.2.1 _ tw_476) (fun _ h9 => h9) rfl dX4_next_1 ?_
    rw [h20]
    refine lv_bipush (v := nI 40) C.1 C.2.1 dX4_next_4 (by decide +kernel) ?_
    refine lv_icmp_ne (tgt := 14) C.1 C.2.1 dX4_next_6 (by decide) (fun _ => ?_) (fun h => absurd h (fun q => by have := (nI_eq (by omega) (by omega)).mp q; omega))
    refine lv_aload_n C.1 C.2.1 dX4_next_14 rfl (lv_at hl 0 rfl) ?_
    refine va_get (ci := 4) (C := RX4) (T := TX4) (N := 34) C.1 C.2.1 C.2.2.2.2.2.1 ui_X4 C.2.2.2.2.1 C.2.2.2.2.2.2.2.1 hP 0 (rfl) rfl 22 (by decide) (C.2.2.2.2.2.1 _ tw_478) (fun _ h9 => h9) rfl dX4_next_15 ?_
    refine lv_aload_n C.1 C.2.1 dX4_next_18 rfl (lv_at hl 0 rfl) ?_
    refine va_get (ci := 4) (C := RX4) (T := TX4) (N := 34) C.1 C.2.1 C.2.2.2.2.2.1 ui_X4 C.2.2.2.2.1 C.2.2.2.2.2.2.2.1 hP 0 (rfl) rfl 20 (by decide) (C.2.2.2.2.2.1 _ tw_476) (fun _ h9 => h9) rfl dX4_next_19 ?_
    rw [h20]
    refine lv_iload_n C.1 C.2.1 dX4_next_22 rfl (lv_at hl 1 rfl) ?_
    refine va_iast (f := A 22) C.1 C.2.1 C.2.2.2.2.2.2.2.1 hP hD hS 14 0 (rfl) rfl (vp_in_nI (by omega) (by decide)) dX4_next_23 (fun H locs hP hD hS => ?_)
    rw [nI_clamp (by omega)] at hP hD
    have hP : va_P D vwCl (mw ad cI cZ X I (va_up A 22 (upd (A 22) t what))) H := hP
    have hD : va_D (cm_A (mw ad cI cZ X I A)) (mw ad cI cZ X I (va_up A 22 (upd (A 22) t what))) := hD
    refine lv_aload_n C.1 C.2.1 dX4_next_24 rfl (lv_at hl 0 rfl) ?_
    refine lv_dup C.1 C.2.1 dX4_next_25 rfl ?_
    refine va_get (ci := 4) (C := RX4) (T := TX4) (N := 34) C.1 C.2.1 C.2.2.2.2.2.1 ui_X4 C.2.2.2.2.1 C.2.2.2.2.2.2.2.1 hP 0 (rfl) rfl 21 (by decide) (C.2.2.2.2.2.1 _ tw_477) (fun _ h9 => h9) rfl dX4_next_26 ?_
    refine lv_iconst (v := nI 1) C.1 C.2.1 dX4_next_29 (by decide +kernel) ?_
    refine lv_iadd C.1 C.2.1 dX4_next_30 ?_
    refine va_put (ci := 4) (C := RX4) (T := TX4) (N := 34) (ty := .int) C.1 C.2.1 C.2.2.2.2.2.1 ui_X4 tyX4 tyX4_ok nmX4 C.2.2.2.2.1 C.2.2.2.2.2.2.2.1 hP hD hS 0 (rfl) rfl 21 (by decide) (C.2.2.2.2.2.1 _ tw_477) (fun _ h9 => h9) rfl (by decide +kernel) rfl rfl (Nat.le_of_ble_eq_true rfl) dX4_next_31 (fun H locs hP hD hS => ?_)
    have hP : va_P D vwCl (mw ad cI cZ X (va_up I 21 (I 21 + nI 1)) (va_up A 22 (upd (A 22) t what))) H := hP
    have hD : va_D (cm_A (mw ad cI cZ X I A)) (mw ad cI cZ X (va_up I 21 (I 21 + nI 1)) (va_up A 22 (upd (A 22) t what))) := hD
    refine lv_aload_n C.1 C.2.1 dX4_next_34 rfl (lv_at hl 0 rfl) ?_
    refine lv_dup C.1 C.2.1 dX4_next_35 rfl ?_
    refine va_get (v := .int (I 20)) (ci := 4) (C := RX4) (T := TX4) (N := 34) C.1 C.2.1 C.2.2.2.2.2.1 ui_X4 C.2.2.2.2.1 C.2.2.2.2.2.2.2.1 hP 0 (rfl) rfl 20 (by decide) (C.2.2.2.2.2.1 _ tw_476) (fun _ h9 => h9) rfl dX4_next_36 ?_
    rw [h20]
    refine lv_iconst (v := nI 1) C.1 C.2.1 dX4_next_39 (by decide +kernel) ?_
    refine lv_iadd C.1 C.2.1 dX4_next_40 ?_
    rw [nI_add]
    refine va_put (ci := 4) (C := RX4) (T := TX4) (N := 34) (ty := .int) C.1 C.2.1 C.2.2.2.2.2.1 ui_X4 tyX4 tyX4_ok nmX4 C.2.2.2.2.1 C.2.2.2.2.2.2.2.1 hP hD hS 0 (rfl) rfl 20 (by decide) (C.2.2.2.2.2.1 _ tw_476) (fun _ h9 => h9) rfl (by decide +kernel) rfl rfl (Nat.le_of_ble_eq_true rfl) dX4_next_41 (fun H locs hP hD hS => ?_)
    have hP : va_P D vwCl (mw ad cI cZ X (va_up (va_up I 21 (I 21 + nI 1)) 20 (nI (t + 1))) (va_up A 22 (upd (A 22) t what))) H := hP
    have hD : va_D (cm_A (mw ad cI cZ X I A)) (mw ad cI cZ X (va_up (va_up I 21 (I 21 + nI 1)) 20 (nI (t + 1))) (va_up A 22 (upd (A 22) t what))) := hD
    refine lv_aload_n C.1 C.2.1 dX4_next_44 rfl (lv_at hl 0 rfl) ?_
    refine va_get (v := .int (nI (t + 1))) (ci := 4) (C := RX4) (T := TX4) (N := 34) C.1 C.2.1 C.2.2.2.2.2.1 ui_X4 C.2.2.2.2.1 C.2.2.2.2.2.2.2.1 hP 0 (rfl) rfl 20 (by decide) (C.2.2.2.2.2.1 _ tw_476) (fun _ h9 => h9) rfl dX4_next_45 ?_
    refine lv_iconst (v := nI 1) C.1 C.2.1 dX4_next_48 (by decide +kernel) ?_
    refine lv_isub C.1 C.2.1 dX4_next_49 ?_
    rw [pk_sub (by omega), Nat.add_sub_cancel]
    exact cm_iret C hP hD hS dX4_next_50 (by unfold t0; rw [if_pos h40]) (by rw [show nxt what t (I, A) = _ from if_pos h40])
  · have h41 : t = 40 := by omega
    refine lv_aload_n C.1 C.2.1 dX4_next_0 rfl (lv_at hl 0 rfl) ?_
    refine va_get (ci := 4) (C := RX4) (T := TX4) (N := 34) C.1 C.2.1 C.2.2.2.2.2.1 ui_X4 C.2.2.2.2.1 C.2.2.2.2.2.2.2.1 hP 0 (rfl) rfl 20 (by decide) (C.2.2.2.2.2.1 _ tw_476) (fun _ h9 => h9) rfl dX4_next_1 ?_
    rw [h20]
    refine lv_bipush (v := nI 40) C.1 C.2.1 dX4_next_4 (by decide +kernel) ?_
    refine lv_icmp_ne (tgt := 14) C.1 C.2.1 dX4_next_6 (by decide) (fun h => absurd (by rw [h41]) h) (fun _ => ?_)
    refine lv_aload_n C.1 C.2.1 dX4_next_9 rfl (lv_at hl 0 rfl) ?_
    refine cm_cV1 (q0 := 0) 0 C (k_X4_flush l D cI cZ cJ ad X I A t ht h20 hk) tw_600 tw_602 ts_17 tw_5 tw_603 rfl rfl (rfl) rfl (by decide +kernel) ⟨Nat.le_of_ble_eq_true rfl, Nat.le_of_ble_eq_true rfl⟩ ⟨Nat.zero_le _, Nat.zero_le _⟩ hP hD hS hl.1 rfl rfl (Nat.le_of_ble_eq_true rfl) dX4_next_10 (fun H locs hP hD hS => ?_)
    refine lv_istore_n (lv' := [(2, _), (0, _), (1, _)]) C.1 C.2.1 dX4_next_13 rfl hl (by decide) rfl (fun ls hl => ?_)
    refine lv_aload_n C.1 C.2.1 dX4_next_14 rfl (lv_at hl 1 rfl) ?_
    refine va_get (ci := 4) (C := RX4) (T := TX4) (N := 34) C.1 C.2.1 C.2.2.2.2.2.1 ui_X4 C.2.2.2.2.1 C.2.2.2.2.2.2.2.1 hP 0 (rfl) rfl 22 (by decide) (C.2.2.2.2.2.1 _ tw_478) (fun _ h9 => h9) rfl dX4_next_15 ?_
    refine lv_aload_n C.1 C.2.1 dX4_next_18 rfl (lv_at hl 1 rfl) ?_
    refine va_get (v := .int (nI 0)) (ci := 4) (C := RX4) (T := TX4) (N := 34) C.1 C.2.1 C.2.2.2.2.2.1 ui_X4 C.2.2.2.2.1 C.2.2.2.2.2.2.2.1 hP 0 (rfl) rfl 20 (by decide) (C.2.2.2.2.2.1 _ tw_476) (fun _ h9 => h9) rfl dX4_next_19 ?_
    refine lv_iload_n C.1 C.2.1 dX4_next_22 rfl (lv_at hl 2 rfl) ?_
    refine va_iast (f := (flsh (I, A) t).2 22) C.1 C.2.1 C.2.2.2.2.2.2.2.1 hP hD hS 14 0 (rfl) rfl (vp_in_nI (by omega) (by decide)) dX4_next_23 (fun H locs hP hD hS => ?_)
    rw [nI_clamp (by omega)] at hP hD
    have hP : va_P D vwCl (mw ad cI cZ X (flsh (I, A) t).1 (va_up (flsh (I, A) t).2 22 (upd ((flsh (I, A) t).2 22) 0 what))) H := hP
    have hD : va_D (cm_A (mw ad cI cZ X I A)) (mw ad cI cZ X (flsh (I, A) t).1 (va_up (flsh (I, A) t).2 22 (upd ((flsh (I, A) t).2 22) 0 what))) := hD
    refine lv_aload_n C.1 C.2.1 dX4_next_24 rfl (lv_at hl 1 rfl) ?_
    refine lv_dup C.1 C.2.1 dX4_next_25 rfl ?_
    refine va_get (ci := 4) (C := RX4) (T := TX4) (N := 34) C.1 C.2.1 C.2.2.2.2.2.1 ui_X4 C.2.2.2.2.1 C.2.2.2.2.2.2.2.1 hP 0 (rfl) rfl 21 (by decide) (C.2.2.2.2.2.1 _ tw_477) (fun _ h9 => h9) rfl dX4_next_26 ?_
    refine lv_iconst (v := nI 1) C.1 C.2.1 dX4_next_29 (by decide +kernel) ?_
    refine lv_iadd C.1 C.2.1 dX4_next_30 ?_
    refine va_put (ci := 4) (C := RX4) (T := TX4) (N := 34) (ty := .int) C.1 C.2.1 C.2.2.2.2.2.1 ui_X4 tyX4 tyX4_ok nmX4 C.2.2.2.2.1 C.2.2.2.2.2.2.2.1 hP hD hS 0 (rfl) rfl 21 (by decide) (C.2.2.2.2.2.1 _ tw_477) (fun _ h9 => h9) rfl (by decide +kernel) rfl rfl (Nat.le_of_ble_eq_true rfl) dX4_next_31 (fun H locs hP hD hS => ?_)
    have hP : va_P D vwCl (mw ad cI cZ X (va_up (flsh (I, A) t).1 21 ((flsh (I, A) t).1 21 + nI 1)) (va_up (flsh (I, A) t).2 22 (upd ((flsh (I, A) t).2 22) 0 what))) H := hP
    have hD : va_D (cm_A (mw ad cI cZ X I A)) (mw ad cI cZ X (va_up (flsh (I, A) t).1 21 ((flsh (I, A) t).1 21 + nI 1)) (va_up (flsh (I, A) t).2 22 (upd ((flsh (I, A) t).2 22) 0 what))) := hD
    refine lv_aload_n C.1 C.2.1 dX4_next_34 rfl (lv_at hl 1 rfl) ?_
    refine lv_dup C.1 C.2.1 dX4_next_35 rfl ?_
    refine va_get (v := .int (nI 0)) (ci := 4) (C := RX4) (T := TX4) (N := 34) C.1 C.2.1 C.2.2.2.2.2.1 ui_X4 C.2.2.2.2.1 C.2.2.2.2.2.2.2.1 hP 0 (rfl) rfl 20 (by decide) (C.2.2.2.2.2.1 _ tw_476) (fun _ h9 => h9) rfl dX4_next_36 ?_
    refine lv_iconst (v := nI 1) C.1 C.2.1 dX4_next_39 (by decide +kernel) ?_
    refine lv_iadd C.1 C.2.1 dX4_next_40 ?_
    rw [nI_add]
    refine va_put (ci := 4) (C := RX4) (T := TX4) (N := 34) (ty := .int) C.1 C.2.1 C.2.2.2.2.2.1 ui_X4 tyX4 tyX4_ok nmX4 C.2.2.2.2.1 C.2.2.2.2.2.2.2.1 hP hD hS 0 (rfl) rfl 20 (by decide) (C.2.2.2.2.2.1 _ tw_476) (fun _ h9 => h9) rfl (by decide +kernel) rfl rfl (Nat.le_of_ble_eq_true rfl) dX4_next_41 (fun H locs hP hD hS => ?_)
    have hP : va_P D vwCl (mw ad cI cZ X (va_up (va_up (flsh (I, A) t).1 21 ((flsh (I, A) t).1 21 + nI 1)) 20 (nI (0 + 1))) (va_up (flsh (I, A) t).2 22 (upd ((flsh (I, A) t).2 22) 0 what))) H := hP
    have hD : va_D (cm_A (mw ad cI cZ X I A)) (mw ad cI cZ X (va_up (va_up (flsh (I, A) t).1 21 ((flsh (I, A) t).1 21 + nI 1)) 20 (nI (0 + 1))) (va_up (flsh (I, A) t).2 22 (upd ((flsh (I, A) t).2 22) 0 what))) := hD
    refine lv_aload_n C.1 C.2.1 dX4_next_44 rfl (lv_at hl 1 rfl) ?_
    refine va_get (v := .int (nI (0 + 1))) (ci := 4) (C := RX4) (T := TX4) (N := 34) C.1 C.2.1 C.2.2.2.2.2.1 ui_X4 C.2.2.2.2.1 C.2.2.2.2.2.2.2.1 hP 0 (rfl) rfl 20 (by decide) (C.2.2.2.2.2.1 _ tw_476) (fun _ h9 => h9) rfl dX4_next_45 ?_
    refine lv_iconst (v := nI 1) C.1 C.2.1 dX4_next_48 (by decide +kernel) ?_
    refine lv_isub C.1 C.2.1 dX4_next_49 ?_
    rw [pk_sub (by omega), Nat.add_sub_cancel]
    exact cm_iret C hP hD hS dX4_next_50 (by unfold t0; rw [if_neg h40]) (by rw [show nxt what t (I, A) = _ from if_neg h40])
set_option maxHeartbeats 4000000 in
set_option maxRecDepth 100000 in
/-- writePage -/
theorem k_X4_writePage (l : Launch) (D : va_G) (cI cZ cJ : ClassId) (ad : Nat → Nat) (X : va_W) (I : Nat → Int32) (A : Nat → Nat → Int32) (t : Nat) (ht : t ≤ 40) (h20 : I 20 = nI t) (hk : ∀ j, j < t → wKnd A j) (r : Nat) (hr : r < 18) : CM l D (cm_T cI cZ cJ) yX4_writePage cX4_writePage 5 none (cm_rm 3 67) [.ref (ad 0), .int (nI r)] (mw ad cI cZ X I A) none (mw ad cI cZ X (wPg r t (I, A)).1 (wPg r t (I, A)).2) := by
  refine CM.of (by decide) (Nat.le_of_ble_eq_true rfl) ?_
  intro p e s m below meth c ls H locs C hl hP hD hS
  have ht0 : t0 t < 40 := by unfold t0; split <;> omega
  refine lv_aload_n C.1 C.2.1 dX4_writePage_0 rfl (lv_at hl 0 rfl) ?_
  refine lv_iconst (v := nI 0) C.1 C.2.1 dX4_writePage_1 (by decide +kernel) ?_
  refine cm_cV1 (q0 := 0) 1 C (k_X4_next l D cI cZ cJ ad X I A t ht h20 hk (nI 0)) tw_596 tw_598 ts_16 tw_5 tw_599 rfl rfl (rfl) rfl (by decide +kernel) ⟨Nat.le_of_ble_eq_true rfl, Nat.le_of_ble_eq_true rfl⟩ ⟨Nat.zero_le _, Nat.zero_le _⟩ hP hD hS hl.1 rfl rfl (Nat.le_of_ble_eq_true rfl) dX4_writePage_2 (fun H locs hP hD hS => ?_)
  refine lv_istore_n (lv' := [(2, _), (0, _), (1, _)]) C.1 C.2.1 dX4_writePage_5 rfl hl (by decide) rfl (fun ls hl => ?_)
  refine lv_aload_n C.1 C.2.1 dX4_writePage_6 rfl (lv_at hl 1 rfl) ?_
  refine va_get (ci := 4) (C := RX4) (T := TX4) (N := 34) C.1 C.2.1 C.2.2.2.2.2.1 ui_X4 C.2.2.2.2.1 C.2.2.2.2.2.2.2.1 hP 0 (rfl) rfl 23 (by decide) (C.2.2.2.2.2.1 _ tw_479) (fun _ h9 => h9) rfl dX4_writePage_7 ?_
  refine lv_iload_n C.1 C.2.1 dX4_writePage_10 rfl (lv_at hl 0 rfl) ?_
  refine lv_iload_n C.1 C.2.1 dX4_writePage_11 rfl (lv_at hl 2 rfl) ?_
  refine va_iast (f := (nxt (nI 0) t (I, A)).2 23) C.1 C.2.1 C.2.2.2.2.2.2.2.1 hP hD hS 15 0 (rfl) rfl (vp_in_nI (by omega) (by decide)) dX4_writePage_12 (fun H locs hP hD hS => ?_)
  rw [nI_clamp (by omega)] at hP hD
  have hP : va_P D vwCl (mw ad cI cZ X (nxt (nI 0) t (I, A)).1 (va_up (nxt (nI 0) t (I, A)).2 23 (upd ((nxt (nI 0) t (I, A)).2 23) (t0 t) (nI r)))) H := hP
  have hD : va_D (cm_A (mw ad cI cZ X I A)) (mw ad cI cZ X (nxt (nI 0) t (I, A)).1 (va_up (nxt (nI 0) t (I, A)).2 23 (upd ((nxt (nI 0) t (I, A)).2 23) (t0 t) (nI r)))) := hD
  refine lv_iconst (v := nI 0) C.1 C.2.1 dX4_writePage_13 (by decide +kernel) ?_
  refine lv_istore_n (lv' := [(3, _), (2, _), (0, _), (1, _)]) C.1 C.2.1 dX4_writePage_14 rfl hl (by decide) rfl (fun ls hl => ?_)
  have hs : (va_up (nxt (nI 0) t (I, A)).2 23 (upd ((nxt (nI 0) t (I, A)).2 23) (t0 t) (nI r))) = (va_up (va_up (va_up (va_up (nxt (nI 0) t (I, A)).2 23 (upd ((nxt (nI 0) t (I, A)).2 23) (t0 t) (nI r))) 25 (va_cpy (nz ((nxt (nI 0) t (I, A)).2 1)) ((nxt (nI 0) t (I, A)).2 25) (4 * r) (8 * t0 t) 0)) 27 (va_cpy ((nxt (nI 0) t (I, A)).2 2) ((nxt (nI 0) t (I, A)).2 27) (4 * r) (8 * t0 t) 0)) 28 (va_cpy ((nxt (nI 0) t (I, A)).2 3) ((nxt (nI 0) t (I, A)).2 28) (4 * r) (8 * t0 t) 0)) := by simp only [cpy_0]; funext k9; by_cases h28 : k9 = 28 <;> by_cases h27 : k9 = 27 <;> by_cases h25 : k9 = 25 <;> by_cases h23 : k9 = 23 <;> simp [va_up, *]
  have loop : ∀ (k j : Nat), j + k = 4 → ∀ (ls : Array Slot) (H : Heap) (locs : List Loc), lv_has ls 5 [(3, .int (nI j)), (2, .int (nI (t0 t))), (0, .ref (ad 0)), (1, .int (nI r))] → va_P D vwCl (mw ad cI cZ X (nxt (nI 0) t (I, A)).1 (va_up (va_up (va_up (va_up (nxt (nI 0) t (I, A)).2 23 (upd ((nxt (nI 0) t (I, A)).2 23) (t0 t) (nI r))) 25 (va_cpy (nz ((nxt (nI 0) t (I, A)).2 1)) ((nxt (nI 0) t (I, A)).2 25) (4 * r) (8 * t0 t) j)) 27 (va_cpy ((nxt (nI 0) t (I, A)).2 2) ((nxt (nI 0) t (I, A)).2 27) (4 * r) (8 * t0 t) j)) 28 (va_cpy ((nxt (nI 0) t (I, A)).2 3) ((nxt (nI 0) t (I, A)).2 28) (4 * r) (8 * t0 t) j))) H → va_D (cm_A (mw ad cI cZ X I A)) (mw ad cI cZ X (nxt (nI 0) t (I, A)).1 (va_up (va_up (va_up (va_up (nxt (nI 0) t (I, A)).2 23 (upd ((nxt (nI 0) t (I, A)).2 23) (t0 t) (nI r))) 25 (va_cpy (nz ((nxt (nI 0) t (I, A)).2 1)) ((nxt (nI 0) t (I, A)).2 25) (4 * r) (8 * t0 t) j)) 27 (va_cpy ((nxt (nI 0) t (I, A)).2 2) ((nxt (nI 0) t (I, A)).2 27) (4 * r) (8 * t0 t) j)) 28 (va_cpy ((nxt (nI 0) t (I, A)).2 3) ((nxt (nI 0) t (I, A)).2 28) (4 * r) (8 * t0 t) j))) → va_S (cm_A (mw ad cI cZ X I A)) s.heap H locs → W p l e (cm_rm 3 67) s m ([.ref (ad 0), .int (nI r)] : List Value).toArray below meth c H locs 0 0 (cm_Q below D [.ref (ad 0), .int (nI r)] s (mw ad cI cZ X I A) none (mw ad cI cZ X (wPg r t (I, A)).1 (wPg r t (I, A)).2)) (F0 m 15 ls []) := by
    intro k
    induction k with
    | zero =>
      intro j hj ls H locs hl hP hD hS
      refine lv_iload_n C.1 C.2.1 dX4_writePage_15 rfl (lv_at hl 0 rfl) ?_
      refine lv_iconst (v := nI 4) C.1 C.2.1 dX4_writePage_16 (by decide +kernel) ?_
      refine lv_icmp_ge (tgt := 87) C.1 C.2.1 dX4_writePage_17 (by decide) (fun _ => ?_) (fun h => absurd (nI_le (by omega) (by omega)) h)
      obtain rfl : j = 4 := by omega
      exact cm_vret C hP hD hS dX4_writePage_87 rfl
    | succ k ih =>
      intro j hj ls H locs hl hP hD hS
      refine lv_iload_n C.1 C.2.1 dX4_writePage_15 rfl (lv_at hl 0 rfl) ?_
      refine lv_iconst (v := nI 4) C.1 C.2.1 dX4_writePage_16 (by decide +kernel) ?_
      refine lv_icmp_ge (tgt := 87) C.1 C.2.1 dX4_writePage_17 (by decide) (fun h => absurd h (nI_ge (by omega) (by decide))) (fun _ => ?_)
      refine lv_iconst (v := nI 4) C.1 C.2.1 dX4_writePage_20 (by decide +kernel) ?_
      refine lv_iload_n C.1 C.2.1 dX4_writePage_21 rfl (lv_at hl 3 rfl) ?_
      refine lv_imul C.1 C.2.1 dX4_writePage_22 ?_
      rw [pk_mul]
      refine lv_iload_n C.1 C.2.1 dX4_writePage_23 rfl (lv_at hl 0 rfl) ?_
      refine lv_iadd C.1 C.2.1 dX4_writePage_24 ?_
      rw [nI_add]
      refine lv_istore (lv' := [(4, _), (3, _), (2, _), (0, _), (1, _)]) C.1 C.2.1 dX4_writePage_25 hl (by decide) rfl (fun ls hl => ?_)
      refine lv_aload_n C.1 C.2.1 dX4_writePage_27 rfl (lv_at hl 3 rfl) ?_
      refine va_get (ci := 4) (C := RX4) (T := TX4) (N := 34) C.1 C.2.1 C.2.2.2.2.2.1 ui_X4 C.2.2.2.2.1 C.2.2.2.2.2.2.2.1 hP 0 (rfl) rfl 25 (by decide) (C.2.2.2.2.2.1 _ tw_481) (fun _ h9 => h9) rfl dX4_writePage_28 ?_
      refine lv_bipush (v := nI 8) C.1 C.2.1 dX4_writePage_31 (by decide +kernel) ?_
      refine lv_iload_n C.1 C.2.1 dX4_writePage_33 rfl (lv_at hl 2 rfl) ?_
      refine lv_imul C.1 C.2.1 dX4_writePage_34 ?_
      rw [pk_mul]
      refine lv_iload_n C.1 C.2.1 dX4_writePage_35 rfl (lv_at hl 1 rfl) ?_
      refine lv_iadd C.1 C.2.1 dX4_writePage_36 ?_
      rw [nI_add]
      refine lv_aload_n C.1 C.2.1 dX4_writePage_37 rfl (lv_at hl 3 rfl) ?_
      refine va_get (ci := 4) (C := RX4) (T := TX4) (N := 34) C.1 C.2.1 C.2.2.2.2.2.1 ui_X4 C.2.2.2.2.1 C.2.2.2.2.2.2.2.1 hP 0 (rfl) rfl 1 (by decide) (C.2.2.2.2.2.1 _ tw_457) (fun _ h9 => h9) rfl dX4_writePage_38 ?_
      refine lv_iload C.1 C.2.1 dX4_writePage_41 (lv_at hl 0 rfl) ?_
      refine va_zald (f := (nxt (nI 0) t (I, A)).2 1) C.1 C.2.1 C.2.2.2.2.2.2.2.1 hP 1 1 (rfl) rfl (vp_in_nI (by omega) (by decide)) dX4_writePage_43 ?_
      rw [nI_clamp (by omega)]
      refine va_zast (f := va_cpy (nz ((nxt (nI 0) t (I, A)).2 1)) ((nxt (nI 0) t (I, A)).2 25) (4 * r) (8 * t0 t) j) C.1 C.2.1 C.2.2.2.2.2.2.2.1 hP hD hS 17 1 (rfl) rfl (vp_in_nI (by omega) (by decide)) dX4_writePage_44 (fun H locs hP hD hS => ?_)
      rw [nI_clamp (by omega), show vp_nar .boolean ((nxt (nI 0) t (I, A)).2 1 (4 * r + j)) = nz ((nxt (nI 0) t (I, A)).2 1) (4 * r + j) from rfl, cpy_u] at hP hD
      have hP : va_P D vwCl (mw ad cI cZ X (nxt (nI 0) t (I, A)).1 (va_up (va_up (va_up (va_up (nxt (nI 0) t (I, A)).2 23 (upd ((nxt (nI 0) t (I, A)).2 23) (t0 t) (nI r))) 25 (va_cpy (nz ((nxt (nI 0) t (I, A)).2 1)) ((nxt (nI 0) t (I, A)).2 25) (4 * r) (8 * t0 t) (j + 1))) 27 (va_cpy ((nxt (nI 0) t (I, A)).2 2) ((nxt (nI 0) t (I, A)).2 27) (4 * r) (8 * t0 t) j)) 28 (va_cpy ((nxt (nI 0) t (I, A)).2 3) ((nxt (nI 0) t (I, A)).2 28) (4 * r) (8 * t0 t) j))) H := hP
      have hD : va_D (cm_A (mw ad cI cZ X I A)) (mw ad cI cZ X (nxt (nI 0) t (I, A)).1 (va_up (va_up (va_up (va_up (nxt (nI 0) t (I, A)).2 23 (upd ((nxt (nI 0) t (I, A)).2 23) (t0 t) (nI r))) 25 (va_cpy (nz ((nxt (nI 0) t (I, A)).2 1)) ((nxt (nI 0) t (I, A)).2 25) (4 * r) (8 * t0 t) (j + 1))) 27 (va_cpy ((nxt (nI 0) t (I, A)).2 2) ((nxt (nI 0) t (I, A)).2 27) (4 * r) (8 * t0 t) j)) 28 (va_cpy ((nxt (nI 0) t (I, A)).2 3) ((nxt (nI 0) t (I, A)).2 28) (4 * r) (8 * t0 t) j))) := hD
      refine lv_aload_n C.1 C.2.1 dX4_writePage_45 rfl (lv_at hl 3 rfl) ?_
      refine va_get (ci := 4) (C := RX4) (T := TX4) (N := 34) C.1 C.2.1 C.2.2.2.2.2.1 ui_X4 C.2.2.2.2.1 C.2.2.2.2.2.2.2.1 hP 0 (rfl) rfl 27 (by decide) (C.2.2.2.2.2.1 _ tw_483) (fun _ h9 => h9) rfl dX4_writePage_46 ?_
      refine lv_bipush (v := nI 8) C.1 C.2.1 dX4_writePage_49 (by decide +kernel) ?_
      refine lv_iload_n C.1 C.2.1 dX4_writePage_51 rfl (lv_at hl 2 rfl) ?_
      refine lv_imul C.1 C.2.1 dX4_writePage_52 ?_
      rw [pk_mul]
      refine lv_iload_n C.1 C.2.1 dX4_writePage_53 rfl (lv_at hl 1 rfl) ?_
      refine lv_iadd C.1 C.2.1 dX4_writePage_54 ?_
      rw [nI_add]
      refine lv_aload_n C.1 C.2.1 dX4_writePage_55 rfl (lv_at hl 3 rfl) ?_
      refine va_get (ci := 4) (C := RX4) (T := TX4) (N := 34) C.1 C.2.1 C.2.2.2.2.2.1 ui_X4 C.2.2.2.2.1 C.2.2.2.2.2.2.2.1 hP 0 (rfl) rfl 2 (by decide) (C.2.2.2.2.2.1 _ tw_458) (fun _ h9 => h9) rfl dX4_writePage_56 ?_
      refine lv_iload C.1 C.2.1 dX4_writePage_59 (lv_at hl 0 rfl) ?_
      refine va_iald (f := (nxt (nI 0) t (I, A)).2 2) C.1 C.2.1 C.2.2.2.2.2.2.2.1 hP 2 0 (rfl) rfl (vp_in_nI (by omega) (by decide)) dX4_writePage_61 ?_
      rw [nI_clamp (by omega)]
      refine va_iast (f := va_cpy ((nxt (nI 0) t (I, A)).2 2) ((nxt (nI 0) t (I, A)).2 27) (4 * r) (8 * t0 t) j) C.1 C.2.1 C.2.2.2.2.2.2.2.1 hP hD hS 19 0 (rfl) rfl (vp_in_nI (by omega) (by decide)) dX4_writePage_62 (fun H locs hP hD hS => ?_)
      rw [nI_clamp (by omega), cpy_u] at hP hD
      have hP : va_P D vwCl (mw ad cI cZ X (nxt (nI 0) t (I, A)).1 (va_up (va_up (va_up (va_up (nxt (nI 0) t (I, A)).2 23 (upd ((nxt (nI 0) t (I, A)).2 23) (t0 t) (nI r))) 25 (va_cpy (nz ((nxt (nI 0) t (I, A)).2 1)) ((nxt (nI 0) t (I, A)).2 25) (4 * r) (8 * t0 t) (j + 1))) 27 (va_cpy ((nxt (nI 0) t (I, A)).2 2) ((nxt (nI 0) t (I, A)).2 27) (4 * r) (8 * t0 t) (j + 1))) 28 (va_cpy ((nxt (nI 0) t (I, A)).2 3) ((nxt (nI 0) t (I, A)).2 28) (4 * r) (8 * t0 t) j))) H := hP
      have hD : va_D (cm_A (mw ad cI cZ X I A)) (mw ad cI cZ X (nxt (nI 0) t (I, A)).1 (va_up (va_up (va_up (va_up (nxt (nI 0) t (I, A)).2 23 (upd ((nxt (nI 0) t (I, A)).2 23) (t0 t) (nI r))) 25 (va_cpy (nz ((nxt (nI 0) t (I, A)).2 1)) ((nxt (nI 0) t (I, A)).2 25) (4 * r) (8 * t0 t) (j + 1))) 27 (va_cpy ((nxt (nI 0) t (I, A)).2 2) ((nxt (nI 0) t (I, A)).2 27) (4 * r) (8 * t0 t) (j + 1))) 28 (va_cpy ((nxt (nI 0) t (I, A)).2 3) ((nxt (nI 0) t (I, A)).2 28) (4 * r) (8 * t0 t) j))) := hD
      refine lv_aload_n C.1 C.2.1 dX4_writePage_63 rfl (lv_at hl 3 rfl) ?_
      refine va_get (ci := 4) (C := RX4) (T := TX4) (N := 34) C.1 C.2.1 C.2.2.2.2.2.1 ui_X4 C.2.2.2.2.1 C.2.2.2.2.2.2.2.1 hP 0 (rfl) rfl 28 (by decide) (C.2.2.2.2.2.1 _ tw_484) (fun _ h9 => h9) rfl dX4_writePage_64 ?_
      refine lv_bipush (v := nI 8) C.1 C.2.1 dX4_writePage_67 (by decide +kernel) ?_
      refine lv_iload_n C.1 C.2.1 dX4_writePage_69 rfl (lv_at hl 2 rfl) ?_
      refine lv_imul C.1 C.2.1 dX4_writePage_70 ?_
      rw [pk_mul]
      refine lv_iload_n C.1 C.2.1 dX4_writePage_71 rfl (lv_at hl 1 rfl) ?_
      refine lv_iadd C.1 C.2.1 dX4_writePage_72 ?_
      rw [nI_add]
      refine lv_aload_n C.1 C.2.1 dX4_writePage_73 rfl (lv_at hl 3 rfl) ?_
      refine va_get (ci := 4) (C := RX4) (T := TX4) (N := 34) C.1 C.2.1 C.2.2.2.2.2.1 ui_X4 C.2.2.2.2.1 C.2.2.2.2.2.2.2.1 hP 0 (rfl) rfl 3 (by decide) (C.2.2.2.2.2.1 _ tw_459) (fun _ h9 => h9) rfl dX4_writePage_74 ?_
      refine lv_iload C.1 C.2.1 dX4_writePage_77 (lv_at hl 0 rfl) ?_
      refine va_iald (f := (nxt (nI 0) t (I, A)).2 3) C.1 C.2.1 C.2.2.2.2.2.2.2.1 hP 3 0 (rfl) rfl (vp_in_nI (by omega) (by decide)) dX4_writePage_79 ?_
      rw [nI_clamp (by omega)]
      refine va_iast (f := va_cpy ((nxt (nI 0) t (I, A)).2 3) ((nxt (nI 0) t (I, A)).2 28) (4 * r) (8 * t0 t) j) C.1 C.2.1 C.2.2.2.2.2.2.2.1 hP hD hS 20 0 (rfl) rfl (vp_in_nI (by omega) (by decide)) dX4_writePage_80 (fun H locs hP hD hS => ?_)
      rw [nI_clamp (by omega), cpy_u] at hP hD
      have hP : va_P D vwCl (mw ad cI cZ X (nxt (nI 0) t (I, A)).1 (va_up (va_up (va_up (va_up (nxt (nI 0) t (I, A)).2 23 (upd ((nxt (nI 0) t (I, A)).2 23) (t0 t) (nI r))) 25 (va_cpy (nz ((nxt (nI 0) t (I, A)).2 1)) ((nxt (nI 0) t (I, A)).2 25) (4 * r) (8 * t0 t) (j + 1))) 27 (va_cpy ((nxt (nI 0) t (I, A)).2 2) ((nxt (nI 0) t (I, A)).2 27) (4 * r) (8 * t0 t) (j + 1))) 28 (va_cpy ((nxt (nI 0) t (I, A)).2 3) ((nxt (nI 0) t (I, A)).2 28) (4 * r) (8 * t0 t) (j + 1)))) H := hP
      have hD : va_D (cm_A (mw ad cI cZ X I A)) (mw ad cI cZ X (nxt (nI 0) t (I, A)).1 (va_up (va_up (va_up (va_up (nxt (nI 0) t (I, A)).2 23 (upd ((nxt (nI 0) t (I, A)).2 23) (t0 t) (nI r))) 25 (va_cpy (nz ((nxt (nI 0) t (I, A)).2 1)) ((nxt (nI 0) t (I, A)).2 25) (4 * r) (8 * t0 t) (j + 1))) 27 (va_cpy ((nxt (nI 0) t (I, A)).2 2) ((nxt (nI 0) t (I, A)).2 27) (4 * r) (8 * t0 t) (j + 1))) 28 (va_cpy ((nxt (nI 0) t (I, A)).2 3) ((nxt (nI 0) t (I, A)).2 28) (4 * r) (8 * t0 t) (j + 1)))) := hD
      refine lv_iinc (v := nI (j + 1)) (lv' := [(3, _), (4, _), (2, _), (0, _), (1, _)]) C.1 C.2.1 dX4_writePage_81 hl (k := 1) rfl (nI_1 j) (by decide) rfl (fun ls hl => ?_)
      refine lv_goto (tgt := 15) C.1 C.2.1 dX4_writePage_84 (by decide) ?_
      exact ih (j + 1) (by omega) ls H locs (lv_sub hl [0, 2, 3, 4] rfl) hP hD hS
  exact loop 4 0 rfl ls H locs hl (by rw [← hs]; exact hP) (by rw [← hs]; exact hD) hS
set_option maxHeartbeats 4000000 in
set_option maxRecDepth 100000 in
/-- writeJournal -/
theorem k_X4_writeJournal (l : Launch) (D : va_G) (cI cZ cJ : ClassId) (ad : Nat → Nat) (X : va_W) (I : Nat → Int32) (A : Nat → Nat → Int32) (t : Nat) (ht : t ≤ 40) (h20 : I 20 = nI t) (hk : ∀ j, j < t → wKnd A j) (n : Nat) (hn0 : n ≤ 7) (hn : I 7 = nI n) : CM l D (cm_T cI cZ cJ) yX4_writeJournal cX4_writeJournal 3 none (cm_rm 3 67) [.ref (ad 0)] (mw ad cI cZ X I A) none (mw ad cI cZ X (wJn n t (I, A)).1 (wJn n t (I, A)).2) := by
  refine CM.of (by decide) (Nat.le_of_ble_eq_true rfl) ?_
  intro p e s m below meth c ls H locs C hl hP hD hS
  have ht0 : t0 t < 40 := by unfold t0; split <;> omega
  have h7 : (nxt (nI 2) t (I, A)).1 7 = nI n := nxt_I 7 (by decide) hn
  refine lv_aload_n C.1 C.2.1 dX4_writeJournal_0 rfl (lv_at hl 0 rfl) ?_
  refine lv_iconst (v := nI 2) C.1 C.2.1 dX4_writeJournal_1 (by decide +kernel) ?_
  refine cm_cV1 (q0 := 0) 1 C (k_X4_next l D cI cZ cJ ad X I A t ht h20 hk (nI 2)) tw_596 tw_598 ts_16 tw_5 tw_599 rfl rfl (rfl) rfl (by decide +kernel) ⟨Nat.le_of_ble_eq_true rfl, Nat.le_of_ble_eq_true rfl⟩ ⟨Nat.zero_le _, Nat.zero_le _⟩ hP hD hS hl.1 rfl rfl (Nat.le_of_ble_eq_true rfl) dX4_writeJournal_2 (fun H locs hP hD hS => ?_)
  refine lv_istore_n (lv' := [(1, _), (0, _)]) C.1 C.2.1 dX4_writeJournal_5 rfl hl (by decide) rfl (fun ls hl => ?_)
  refine lv_aload_n C.1 C.2.1 dX4_writeJournal_6 rfl (lv_at hl 1 rfl) ?_
  refine va_get (ci := 4) (C := RX4) (T := TX4) (N := 34) C.1 C.2.1 C.2.2.2.2.2.1 ui_X4 C.2.2.2.2.1 C.2.2.2.2.2.2.2.1 hP 0 (rfl) rfl 24 (by decide) (C.2.2.2.2.2.1 _ tw_480) (fun _ h9 => h9) rfl dX4_writeJournal_7 ?_
  refine lv_iload_n C.1 C.2.1 dX4_writeJournal_10 rfl (lv_at hl 0 rfl) ?_
  refine lv_aload_n C.1 C.2.1 dX4_writeJournal_11 rfl (lv_at hl 1 rfl) ?_
  refine va_get (ci := 4) (C := RX4) (T := TX4) (N := 34) C.1 C.2.1 C.2.2.2.2.2.1 ui_X4 C.2.2.2.2.1 C.2.2.2.2.2.2.2.1 hP 0 (rfl) rfl 7 (by decide) (C.2.2.2.2.2.1 _ tw_463) (fun _ h9 => h9) rfl dX4_writeJournal_12 ?_
  refine va_iast (f := (nxt (nI 2) t (I, A)).2 24) C.1 C.2.1 C.2.2.2.2.2.2.2.1 hP hD hS 16 0 (rfl) rfl (vp_in_nI (by omega) (by decide)) dX4_writeJournal_15 (fun H locs hP hD hS => ?_)
  rw [nI_clamp (by omega), h7] at hP hD
  have hP : va_P D vwCl (mw ad cI cZ X (nxt (nI 2) t (I, A)).1 (va_up (nxt (nI 2) t (I, A)).2 24 (upd ((nxt (nI 2) t (I, A)).2 24) (t0 t) (nI n)))) H := hP
  have hD : va_D (cm_A (mw ad cI cZ X I A)) (mw ad cI cZ X (nxt (nI 2) t (I, A)).1 (va_up (nxt (nI 2) t (I, A)).2 24 (upd ((nxt (nI 2) t (I, A)).2 24) (t0 t) (nI n)))) := hD
  refine lv_iconst (v := nI 0) C.1 C.2.1 dX4_writeJournal_16 (by decide +kernel) ?_
  refine lv_istore_n (lv' := [(2, _), (1, _), (0, _)]) C.1 C.2.1 dX4_writeJournal_17 rfl hl (by decide) rfl (fun ls hl => ?_)
  have hs : (va_up (nxt (nI 2) t (I, A)).2 24 (upd ((nxt (nI 2) t (I, A)).2 24) (t0 t) (nI n))) = (va_up (va_up (va_up (va_up (nxt (nI 2) t (I, A)).2 24 (upd ((nxt (nI 2) t (I, A)).2 24) (t0 t) (nI n))) 26 (va_cpy ((nxt (nI 2) t (I, A)).2 8) ((nxt (nI 2) t (I, A)).2 26) 0 (8 * t0 t) 0)) 27 (va_cpy ((nxt (nI 2) t (I, A)).2 9) ((nxt (nI 2) t (I, A)).2 27) 0 (8 * t0 t) 0)) 28 (va_cpy ((nxt (nI 2) t (I, A)).2 10) ((nxt (nI 2) t (I, A)).2 28) 0 (8 * t0 t) 0)) := by simp only [cpy_0]; funext k9; by_cases h28 : k9 = 28 <;> by_cases h27 : k9 = 27 <;> by_cases h26 : k9 = 26 <;> by_cases h24 : k9 = 24 <;> simp [va_up, *]
  have loop : ∀ (k j : Nat), j + k = n → ∀ (ls : Array Slot) (H : Heap) (locs : List Loc), lv_has ls 3 [(2, .int (nI j)), (1, .int (nI (t0 t))), (0, .ref (ad 0))] → va_P D vwCl (mw ad cI cZ X (nxt (nI 2) t (I, A)).1 (va_up (va_up (va_up (va_up (nxt (nI 2) t (I, A)).2 24 (upd ((nxt (nI 2) t (I, A)).2 24) (t0 t) (nI n))) 26 (va_cpy ((nxt (nI 2) t (I, A)).2 8) ((nxt (nI 2) t (I, A)).2 26) 0 (8 * t0 t) j)) 27 (va_cpy ((nxt (nI 2) t (I, A)).2 9) ((nxt (nI 2) t (I, A)).2 27) 0 (8 * t0 t) j)) 28 (va_cpy ((nxt (nI 2) t (I, A)).2 10) ((nxt (nI 2) t (I, A)).2 28) 0 (8 * t0 t) j))) H → va_D (cm_A (mw ad cI cZ X I A)) (mw ad cI cZ X (nxt (nI 2) t (I, A)).1 (va_up (va_up (va_up (va_up (nxt (nI 2) t (I, A)).2 24 (upd ((nxt (nI 2) t (I, A)).2 24) (t0 t) (nI n))) 26 (va_cpy ((nxt (nI 2) t (I, A)).2 8) ((nxt (nI 2) t (I, A)).2 26) 0 (8 * t0 t) j)) 27 (va_cpy ((nxt (nI 2) t (I, A)).2 9) ((nxt (nI 2) t (I, A)).2 27) 0 (8 * t0 t) j)) 28 (va_cpy ((nxt (nI 2) t (I, A)).2 10) ((nxt (nI 2) t (I, A)).2 28) 0 (8 * t0 t) j))) → va_S (cm_A (mw ad cI cZ X I A)) s.heap H locs → W p l e (cm_rm 3 67) s m ([.ref (ad 0)] : List Value).toArray below meth c H locs 0 0 (cm_Q below D [.ref (ad 0)] s (mw ad cI cZ X I A) none (mw ad cI cZ X (wJn n t (I, A)).1 (wJn n t (I, A)).2)) (F0 m 18 ls []) := by
    intro k
    induction k with
    | zero =>
      intro j hj ls H locs hl hP hD hS
      refine lv_iload_n C.1 C.2.1 dX4_writeJournal_18 rfl (lv_at hl 0 rfl) ?_
      refine lv_aload_n C.1 C.2.1 dX4_writeJournal_19 rfl (lv_at hl 2 rfl) ?_
      refine va_get (v := .int ((nxt (nI 2) t (I, A)).1 7)) (ci := 4) (C := RX4) (T := TX4) (N := 34) C.1 C.2.1 C.2.2.2.2.2.1 ui_X4 C.2.2.2.2.1 C.2.2.2.2.2.2.2.1 hP 0 (rfl) rfl 7 (by decide) (C.2.2.2.2.2.1 _ tw_463) (fun _ h9 => h9) rfl dX4_writeJournal_20 ?_
      rw [h7]
      refine lv_icmp_ge (tgt := 83) C.1 C.2.1 dX4_writeJournal_23 (by decide) (fun _ => ?_) (fun h => absurd (nI_le (by omega) (by omega)) h)
      obtain rfl : j = n := by omega
      exact cm_vret C hP hD hS dX4_writeJournal_83 rfl
    | succ k ih =>
      intro j hj ls H locs hl hP hD hS
      refine lv_iload_n C.1 C.2.1 dX4_writeJournal_18 rfl (lv_at hl 0 rfl) ?_
      refine lv_aload_n C.1 C.2.1 dX4_writeJournal_19 rfl (lv_at hl 2 rfl) ?_
      refine va_get (v := .int ((nxt (nI 2) t (I, A)).1 7)) (ci := 4) (C := RX4) (T := TX4) (N := 34) C.1 C.2.1 C.2.2.2.2.2.1 ui_X4 C.2.2.2.2.1 C.2.2.2.2.2.2.2.1 hP 0 (rfl) rfl 7 (by decide) (C.2.2.2.2.2.1 _ tw_463) (fun _ h9 => h9) rfl dX4_writeJournal_20 ?_
      rw [h7]
      refine lv_icmp_ge (tgt := 83) C.1 C.2.1 dX4_writeJournal_23 (by decide) (fun h => absurd h (nI_ge (by omega) (by omega))) (fun _ => ?_)
      refine lv_aload_n C.1 C.2.1 dX4_writeJournal_26 rfl (lv_at hl 2 rfl) ?_
      refine va_get (ci := 4) (C := RX4) (T := TX4) (N := 34) C.1 C.2.1 C.2.2.2.2.2.1 ui_X4 C.2.2.2.2.1 C.2.2.2.2.2.2.2.1 hP 0 (rfl) rfl 26 (by decide) (C.2.2.2.2.2.1 _ tw_482) (fun _ h9 => h9) rfl dX4_writeJournal_27 ?_
      refine lv_bipush (v := nI 8) C.1 C.2.1 dX4_writeJournal_30 (by decide +kernel) ?_
      refine lv_iload_n C.1 C.2.1 dX4_writeJournal_32 rfl (lv_at hl 1 rfl) ?_
      refine lv_imul C.1 C.2.1 dX4_writeJournal_33 ?_
      rw [pk_mul]
      refine lv_iload_n C.1 C.2.1 dX4_writeJournal_34 rfl (lv_at hl 0 rfl) ?_
      refine lv_iadd C.1 C.2.1 dX4_writeJournal_35 ?_
      rw [nI_add]
      refine lv_aload_n C.1 C.2.1 dX4_writeJournal_36 rfl (lv_at hl 2 rfl) ?_
      refine va_get (ci := 4) (C := RX4) (T := TX4) (N := 34) C.1 C.2.1 C.2.2.2.2.2.1 ui_X4 C.2.2.2.2.1 C.2.2.2.2.2.2.2.1 hP 0 (rfl) rfl 8 (by decide) (C.2.2.2.2.2.1 _ tw_464) (fun _ h9 => h9) rfl dX4_writeJournal_37 ?_
      refine lv_iload_n C.1 C.2.1 dX4_writeJournal_40 rfl (lv_at hl 0 rfl) ?_
      refine va_iald (f := (nxt (nI 2) t (I, A)).2 8) C.1 C.2.1 C.2.2.2.2.2.2.2.1 hP 5 0 (rfl) rfl (vp_in_nI (by omega) (by decide)) dX4_writeJournal_41 ?_
      rw [nI_clamp (by omega)]
      refine va_iast (f := va_cpy ((nxt (nI 2) t (I, A)).2 8) ((nxt (nI 2) t (I, A)).2 26) 0 (8 * t0 t) j) C.1 C.2.1 C.2.2.2.2.2.2.2.1 hP hD hS 18 0 (rfl) rfl (vp_in_nI (by omega) (by decide)) dX4_writeJournal_42 (fun H locs hP hD hS => ?_)
      rw [nI_clamp (by omega), cpy_v0] at hP hD
      have hP : va_P D vwCl (mw ad cI cZ X (nxt (nI 2) t (I, A)).1 (va_up (va_up (va_up (va_up (nxt (nI 2) t (I, A)).2 24 (upd ((nxt (nI 2) t (I, A)).2 24) (t0 t) (nI n))) 26 (va_cpy ((nxt (nI 2) t (I, A)).2 8) ((nxt (nI 2) t (I, A)).2 26) 0 (8 * t0 t) (j + 1))) 27 (va_cpy ((nxt (nI 2) t (I, A)).2 9) ((nxt (nI 2) t (I, A)).2 27) 0 (8 * t0 t) j)) 28 (va_cpy ((nxt (nI 2) t (I, A)).2 10) ((nxt (nI 2) t (I, A)).2 28) 0 (8 * t0 t) j))) H := hP
      have hD : va_D (cm_A (mw ad cI cZ X I A)) (mw ad cI cZ X (nxt (nI 2) t (I, A)).1 (va_up (va_up (va_up (va_up (nxt (nI 2) t (I, A)).2 24 (upd ((nxt (nI 2) t (I, A)).2 24) (t0 t) (nI n))) 26 (va_cpy ((nxt (nI 2) t (I, A)).2 8) ((nxt (nI 2) t (I, A)).2 26) 0 (8 * t0 t) (j + 1))) 27 (va_cpy ((nxt (nI 2) t (I, A)).2 9) ((nxt (nI 2) t (I, A)).2 27) 0 (8 * t0 t) j)) 28 (va_cpy ((nxt (nI 2) t (I, A)).2 10) ((nxt (nI 2) t (I, A)).2 28) 0 (8 * t0 t) j))) := hD
      refine lv_aload_n C.1 C.2.1 dX4_writeJournal_43 rfl (lv_at hl 2 rfl) ?_
      refine va_get (ci := 4) (C := RX4) (T := TX4) (N := 34) C.1 C.2.1 C.2.2.2.2.2.1 ui_X4 C.2.2.2.2.1 C.2.2.2.2.2.2.2.1 hP 0 (rfl) rfl 27 (by decide) (C.2.2.2.2.2.1 _ tw_483) (fun _ h9 => h9) rfl dX4_writeJournal_44 ?_
      refine lv_bipush (v := nI 8) C.1 C.2.1 dX4_writeJournal_47 (by decide +kernel) ?_
      refine lv_iload_n C.1 C.2.1 dX4_writeJournal_49 rfl (lv_at hl 1 rfl) ?_
      refine lv_imul C.1 C.2.1 dX4_writeJournal_50 ?_
      rw [pk_mul]
      refine lv_iload_n C.1 C.2.1 dX4_writeJournal_51 rfl (lv_at hl 0 rfl) ?_
      refine lv_iadd C.1 C.2.1 dX4_writeJournal_52 ?_
      rw [nI_add]
      refine lv_aload_n C.1 C.2.1 dX4_writeJournal_53 rfl (lv_at hl 2 rfl) ?_
      refine va_get (ci := 4) (C := RX4) (T := TX4) (N := 34) C.1 C.2.1 C.2.2.2.2.2.1 ui_X4 C.2.2.2.2.1 C.2.2.2.2.2.2.2.1 hP 0 (rfl) rfl 9 (by decide) (C.2.2.2.2.2.1 _ tw_465) (fun _ h9 => h9) rfl dX4_writeJournal_54 ?_
      refine lv_iload_n C.1 C.2.1 dX4_writeJournal_57 rfl (lv_at hl 0 rfl) ?_
      refine va_iald (f := (nxt (nI 2) t (I, A)).2 9) C.1 C.2.1 C.2.2.2.2.2.2.2.1 hP 6 0 (rfl) rfl (vp_in_nI (by omega) (by decide)) dX4_writeJournal_58 ?_
      rw [nI_clamp (by omega)]
      refine va_iast (f := va_cpy ((nxt (nI 2) t (I, A)).2 9) ((nxt (nI 2) t (I, A)).2 27) 0 (8 * t0 t) j) C.1 C.2.1 C.2.2.2.2.2.2.2.1 hP hD hS 19 0 (rfl) rfl (vp_in_nI (by omega) (by decide)) dX4_writeJournal_59 (fun H locs hP hD hS => ?_)
      rw [nI_clamp (by omega), cpy_v0] at hP hD
      have hP : va_P D vwCl (mw ad cI cZ X (nxt (nI 2) t (I, A)).1 (va_up (va_up (va_up (va_up (nxt (nI 2) t (I, A)).2 24 (upd ((nxt (nI 2) t (I, A)).2 24) (t0 t) (nI n))) 26 (va_cpy ((nxt (nI 2) t (I, A)).2 8) ((nxt (nI 2) t (I, A)).2 26) 0 (8 * t0 t) (j + 1))) 27 (va_cpy ((nxt (nI 2) t (I, A)).2 9) ((nxt (nI 2) t (I, A)).2 27) 0 (8 * t0 t) (j + 1))) 28 (va_cpy ((nxt (nI 2) t (I, A)).2 10) ((nxt (nI 2) t (I, A)).2 28) 0 (8 * t0 t) j))) H := hP
      have hD : va_D (cm_A (mw ad cI cZ X I A)) (mw ad cI cZ X (nxt (nI 2) t (I, A)).1 (va_up (va_up (va_up (va_up (nxt (nI 2) t (I, A)).2 24 (upd ((nxt (nI 2) t (I, A)).2 24) (t0 t) (nI n))) 26 (va_cpy ((nxt (nI 2) t (I, A)).2 8) ((nxt (nI 2) t (I, A)).2 26) 0 (8 * t0 t) (j + 1))) 27 (va_cpy ((nxt (nI 2) t (I, A)).2 9) ((nxt (nI 2) t (I, A)).2 27) 0 (8 * t0 t) (j + 1))) 28 (va_cpy ((nxt (nI 2) t (I, A)).2 10) ((nxt (nI 2) t (I, A)).2 28) 0 (8 * t0 t) j))) := hD
      refine lv_aload_n C.1 C.2.1 dX4_writeJournal_60 rfl (lv_at hl 2 rfl) ?_
      refine va_get (ci := 4) (C := RX4) (T := TX4) (N := 34) C.1 C.2.1 C.2.2.2.2.2.1 ui_X4 C.2.2.2.2.1 C.2.2.2.2.2.2.2.1 hP 0 (rfl) rfl 28 (by decide) (C.2.2.2.2.2.1 _ tw_484) (fun _ h9 => h9) rfl dX4_writeJournal_61 ?_
      refine lv_bipush (v := nI 8) C.1 C.2.1 dX4_writeJournal_64 (by decide +kernel) ?_
      refine lv_iload_n C.1 C.2.1 dX4_writeJournal_66 rfl (lv_at hl 1 rfl) ?_
      refine lv_imul C.1 C.2.1 dX4_writeJournal_67 ?_
      rw [pk_mul]
      refine lv_iload_n C.1 C.2.1 dX4_writeJournal_68 rfl (lv_at hl 0 rfl) ?_
      refine lv_iadd C.1 C.2.1 dX4_writeJournal_69 ?_
      rw [nI_add]
      refine lv_aload_n C.1 C.2.1 dX4_writeJournal_70 rfl (lv_at hl 2 rfl) ?_
      refine va_get (ci := 4) (C := RX4) (T := TX4) (N := 34) C.1 C.2.1 C.2.2.2.2.2.1 ui_X4 C.2.2.2.2.1 C.2.2.2.2.2.2.2.1 hP 0 (rfl) rfl 10 (by decide) (C.2.2.2.2.2.1 _ tw_466) (fun _ h9 => h9) rfl dX4_writeJournal_71 ?_
      refine lv_iload_n C.1 C.2.1 dX4_writeJournal_74 rfl (lv_at hl 0 rfl) ?_
      refine va_iald (f := (nxt (nI 2) t (I, A)).2 10) C.1 C.2.1 C.2.2.2.2.2.2.2.1 hP 7 0 (rfl) rfl (vp_in_nI (by omega) (by decide)) dX4_writeJournal_75 ?_
      rw [nI_clamp (by omega)]
      refine va_iast (f := va_cpy ((nxt (nI 2) t (I, A)).2 10) ((nxt (nI 2) t (I, A)).2 28) 0 (8 * t0 t) j) C.1 C.2.1 C.2.2.2.2.2.2.2.1 hP hD hS 20 0 (rfl) rfl (vp_in_nI (by omega) (by decide)) dX4_writeJournal_76 (fun H locs hP hD hS => ?_)
      rw [nI_clamp (by omega), cpy_v0] at hP hD
      have hP : va_P D vwCl (mw ad cI cZ X (nxt (nI 2) t (I, A)).1 (va_up (va_up (va_up (va_up (nxt (nI 2) t (I, A)).2 24 (upd ((nxt (nI 2) t (I, A)).2 24) (t0 t) (nI n))) 26 (va_cpy ((nxt (nI 2) t (I, A)).2 8) ((nxt (nI 2) t (I, A)).2 26) 0 (8 * t0 t) (j + 1))) 27 (va_cpy ((nxt (nI 2) t (I, A)).2 9) ((nxt (nI 2) t (I, A)).2 27) 0 (8 * t0 t) (j + 1))) 28 (va_cpy ((nxt (nI 2) t (I, A)).2 10) ((nxt (nI 2) t (I, A)).2 28) 0 (8 * t0 t) (j + 1)))) H := hP
      have hD : va_D (cm_A (mw ad cI cZ X I A)) (mw ad cI cZ X (nxt (nI 2) t (I, A)).1 (va_up (va_up (va_up (va_up (nxt (nI 2) t (I, A)).2 24 (upd ((nxt (nI 2) t (I, A)).2 24) (t0 t) (nI n))) 26 (va_cpy ((nxt (nI 2) t (I, A)).2 8) ((nxt (nI 2) t (I, A)).2 26) 0 (8 * t0 t) (j + 1))) 27 (va_cpy ((nxt (nI 2) t (I, A)).2 9) ((nxt (nI 2) t (I, A)).2 27) 0 (8 * t0 t) (j + 1))) 28 (va_cpy ((nxt (nI 2) t (I, A)).2 10) ((nxt (nI 2) t (I, A)).2 28) 0 (8 * t0 t) (j + 1)))) := hD
      refine lv_iinc (v := nI (j + 1)) (lv' := [(2, _), (1, _), (0, _)]) C.1 C.2.1 dX4_writeJournal_77 hl (k := 0) rfl (nI_1 j) (by decide) rfl (fun ls hl => ?_)
      refine lv_goto (tgt := 18) C.1 C.2.1 dX4_writeJournal_80 (by decide) ?_
      exact ih (j + 1) (by omega) ls H locs hl hP hD hS
  exact loop n 0 (Nat.zero_add n) ls H locs hl (by rw [← hs]; exact hP) (by rw [← hs]; exact hD) hS
set_option maxHeartbeats 4000000 in
set_option maxRecDepth 100000 in
/-- writeRoot -/
theorem k_X4_writeRoot (l : Launch) (D : va_G) (cI cZ cJ : ClassId) (ad : Nat → Nat) (X : va_W) (I : Nat → Int32) (A : Nat → Nat → Int32) (t : Nat) (ht : t ≤ 40) (h20 : I 20 = nI t) (hk : ∀ j, j < t → wKnd A j) : CM l D (cm_T cI cZ cJ) yX4_writeRoot cX4_writeRoot 2 none (cm_rm 3 67) [.ref (ad 0)] (mw ad cI cZ X I A) none (mw ad cI cZ X (wRt t (I, A)).1 (wRt t (I, A)).2) := by
  refine CM.of (by decide) (Nat.le_of_ble_eq_true rfl) ?_
  intro p e s m below meth c ls H locs C hl hP hD hS
  have ht0 : t0 t < 40 := by unfold t0; split <;> omega
  refine lv_aload_n C.1 C.2.1 dX4_writeRoot_0 rfl (lv_at hl 0 rfl) ?_
  refine lv_iconst (v := nI 1) C.1 C.2.1 dX4_writeRoot_1 (by decide +kernel) ?_
  refine cm_cV1 (q0 := 0) 1 C (k_X4_next l D cI cZ cJ ad X I A t ht h20 hk (nI 1)) tw_596 tw_598 ts_16 tw_5 tw_599 rfl rfl (rfl) rfl (by decide +kernel) ⟨Nat.le_of_ble_eq_true rfl, Nat.le_of_ble_eq_true rfl⟩ ⟨Nat.zero_le _, Nat.zero_le _⟩ hP hD hS hl.1 rfl rfl (Nat.le_of_ble_eq_true rfl) dX4_writeRoot_2 (fun H locs hP hD hS => ?_)
  refine lv_istore_n (lv' := [(1, _), (0, _)]) C.1 C.2.1 dX4_writeRoot_5 rfl hl (by decide) rfl (fun ls hl => ?_)
  refine lv_aload_n C.1 C.2.1 dX4_writeRoot_6 rfl (lv_at hl 1 rfl) ?_
  refine va_get (ci := 4) (C := RX4) (T := TX4) (N := 34) C.1 C.2.1 C.2.2.2.2.2.1 ui_X4 C.2.2.2.2.1 C.2.2.2.2.2.2.2.1 hP 0 (rfl) rfl 23 (by decide) (C.2.2.2.2.2.1 _ tw_479) (fun _ h9 => h9) rfl dX4_writeRoot_7 ?_
  refine lv_iload_n C.1 C.2.1 dX4_writeRoot_10 rfl (lv_at hl 0 rfl) ?_
  refine lv_aload_n C.1 C.2.1 dX4_writeRoot_11 rfl (lv_at hl 1 rfl) ?_
  refine va_get (ci := 4) (C := RX4) (T := TX4) (N := 34) C.1 C.2.1 C.2.2.2.2.2.1 ui_X4 C.2.2.2.2.1 C.2.2.2.2.2.2.2.1 hP 0 (rfl) rfl 5 (by decide) (C.2.2.2.2.2.1 _ tw_461) (fun _ h9 => h9) rfl dX4_writeRoot_12 ?_
  refine va_iast (f := (nxt (nI 1) t (I, A)).2 23) C.1 C.2.1 C.2.2.2.2.2.2.2.1 hP hD hS 15 0 (rfl) rfl (vp_in_nI (by omega) (by decide)) dX4_writeRoot_15 (fun H locs hP hD hS => ?_)
  rw [nI_clamp (by omega)] at hP hD
  have hP : va_P D vwCl (mw ad cI cZ X (nxt (nI 1) t (I, A)).1 (va_up (nxt (nI 1) t (I, A)).2 23 (upd ((nxt (nI 1) t (I, A)).2 23) (t0 t) ((nxt (nI 1) t (I, A)).1 5)))) H := hP
  have hD : va_D (cm_A (mw ad cI cZ X I A)) (mw ad cI cZ X (nxt (nI 1) t (I, A)).1 (va_up (nxt (nI 1) t (I, A)).2 23 (upd ((nxt (nI 1) t (I, A)).2 23) (t0 t) ((nxt (nI 1) t (I, A)).1 5)))) := hD
  refine lv_aload_n C.1 C.2.1 dX4_writeRoot_16 rfl (lv_at hl 1 rfl) ?_
  refine va_get (ci := 4) (C := RX4) (T := TX4) (N := 34) C.1 C.2.1 C.2.2.2.2.2.1 ui_X4 C.2.2.2.2.1 C.2.2.2.2.2.2.2.1 hP 0 (rfl) rfl 24 (by decide) (C.2.2.2.2.2.1 _ tw_480) (fun _ h9 => h9) rfl dX4_writeRoot_17 ?_
  refine lv_iload_n C.1 C.2.1 dX4_writeRoot_20 rfl (lv_at hl 0 rfl) ?_
  refine lv_aload_n C.1 C.2.1 dX4_writeRoot_21 rfl (lv_at hl 1 rfl) ?_
  refine va_get (ci := 4) (C := RX4) (T := TX4) (N := 34) C.1 C.2.1 C.2.2.2.2.2.1 ui_X4 C.2.2.2.2.1 C.2.2.2.2.2.2.2.1 hP 0 (rfl) rfl 6 (by decide) (C.2.2.2.2.2.1 _ tw_462) (fun _ h9 => h9) rfl dX4_writeRoot_22 ?_
  refine va_iast (f := (nxt (nI 1) t (I, A)).2 24) C.1 C.2.1 C.2.2.2.2.2.2.2.1 hP hD hS 16 0 (rfl) rfl (vp_in_nI (by omega) (by decide)) dX4_writeRoot_25 (fun H locs hP hD hS => ?_)
  rw [nI_clamp (by omega)] at hP hD
  have hP : va_P D vwCl (mw ad cI cZ X (nxt (nI 1) t (I, A)).1 (va_up (va_up (nxt (nI 1) t (I, A)).2 23 (upd ((nxt (nI 1) t (I, A)).2 23) (t0 t) ((nxt (nI 1) t (I, A)).1 5))) 24 (upd ((nxt (nI 1) t (I, A)).2 24) (t0 t) ((nxt (nI 1) t (I, A)).1 6)))) H := hP
  have hD : va_D (cm_A (mw ad cI cZ X I A)) (mw ad cI cZ X (nxt (nI 1) t (I, A)).1 (va_up (va_up (nxt (nI 1) t (I, A)).2 23 (upd ((nxt (nI 1) t (I, A)).2 23) (t0 t) ((nxt (nI 1) t (I, A)).1 5))) 24 (upd ((nxt (nI 1) t (I, A)).2 24) (t0 t) ((nxt (nI 1) t (I, A)).1 6)))) := hD
  exact cm_vret C hP hD hS dX4_writeRoot_26 rfl
def flA (p0 : Nat) (k v : Int32) (A : Nat → Nat → Int32) : Nat → Nat → Int32 := va_up (va_up (va_up A 1 (upd (A 1) p0 (nI 1))) 2 (upd (A 2) p0 k)) 3 (upd (A 3) p0 v)
set_option maxHeartbeats 4000000 in
set_option maxRecDepth 100000 in
/-- fill, on trial -/
theorem k_X4_fill0 (l : Launch) (D : va_G) (cI cZ cJ : ClassId) (ad : Nat → Nat) (X : va_W) (I : Nat → Int32) (A : Nat → Nat → Int32) (p0 : Nat) (hp0 : p0 < 108) (k0 v0 : Int32) : CM l D (cm_T cI cZ cJ) yX4_fill cX4_fill 5 none (cm_rm 4 91) [.ref (ad 0), .int (nI p0), .int k0, .int v0, .int (nI 0)] (mw ad cI cZ X I A) none (mw ad cI cZ X I (flA p0 k0 v0 A)) := by
  refine CM.of (by decide) (Nat.le_of_ble_eq_true rfl) ?_
  intro p e s m below meth c ls H locs C hl hP hD hS
  refine lv_aload_n C.1 C.2.1 dX4_fill_0 rfl (lv_at hl 0 rfl) ?_
  refine va_get (ci := 4) (C := RX4) (T := TX4) (N := 34) C.1 C.2.1 C.2.2.2.2.2.1 ui_X4 C.2.2.2.2.1 C.2.2.2.2.2.2.2.1 hP 0 (rfl) rfl 1 (by decide) (C.2.2.2.2.2.1 _ tw_457) (fun _ h9 => h9) rfl dX4_fill_1 ?_
  refine lv_iload_n C.1 C.2.1 dX4_fill_4 rfl (lv_at hl 1 rfl) ?_
  refine lv_iconst (v := nI 1) C.1 C.2.1 dX4_fill_5 (by decide +kernel) ?_
  refine va_zast (f := A 1) C.1 C.2.1 C.2.2.2.2.2.2.2.1 hP hD hS 1 1 (rfl) rfl (vp_in_nI (by omega) (by decide)) dX4_fill_6 (fun H locs hP hD hS => ?_)
  rw [nI_clamp (by omega), show vp_nar .boolean (nI 1) = nI 1 by decide +kernel] at hP hD
  have hP : va_P D vwCl (mw ad cI cZ X I (va_up A 1 (upd (A 1) p0 (nI 1)))) H := hP
  have hD : va_D (cm_A (mw ad cI cZ X I A)) (mw ad cI cZ X I (va_up A 1 (upd (A 1) p0 (nI 1)))) := hD
  refine lv_aload_n C.1 C.2.1 dX4_fill_7 rfl (lv_at hl 0 rfl) ?_
  refine va_get (ci := 4) (C := RX4) (T := TX4) (N := 34) C.1 C.2.1 C.2.2.2.2.2.1 ui_X4 C.2.2.2.2.1 C.2.2.2.2.2.2.2.1 hP 0 (rfl) rfl 2 (by decide) (C.2.2.2.2.2.1 _ tw_458) (fun _ h9 => h9) rfl dX4_fill_8 ?_
  refine lv_iload_n C.1 C.2.1 dX4_fill_11 rfl (lv_at hl 1 rfl) ?_
  refine lv_iload_n C.1 C.2.1 dX4_fill_12 rfl (lv_at hl 2 rfl) ?_
  refine va_iast (f := A 2) C.1 C.2.1 C.2.2.2.2.2.2.2.1 hP hD hS 2 0 (rfl) rfl (vp_in_nI (by omega) (by decide)) dX4_fill_13 (fun H locs hP hD hS => ?_)
  rw [nI_clamp (by omega)] at hP hD
  have hP : va_P D vwCl (mw ad cI cZ X I (va_up (va_up A 1 (upd (A 1) p0 (nI 1))) 2 (upd (A 2) p0 k0))) H := hP
  have hD : va_D (cm_A (mw ad cI cZ X I A)) (mw ad cI cZ X I (va_up (va_up A 1 (upd (A 1) p0 (nI 1))) 2 (upd (A 2) p0 k0))) := hD
  refine lv_aload_n C.1 C.2.1 dX4_fill_14 rfl (lv_at hl 0 rfl) ?_
  refine va_get (ci := 4) (C := RX4) (T := TX4) (N := 34) C.1 C.2.1 C.2.2.2.2.2.1 ui_X4 C.2.2.2.2.1 C.2.2.2.2.2.2.2.1 hP 0 (rfl) rfl 3 (by decide) (C.2.2.2.2.2.1 _ tw_459) (fun _ h9 => h9) rfl dX4_fill_15 ?_
  refine lv_iload_n C.1 C.2.1 dX4_fill_18 rfl (lv_at hl 1 rfl) ?_
  refine lv_iload_n C.1 C.2.1 dX4_fill_19 rfl (lv_at hl 3 rfl) ?_
  refine va_iast (f := A 3) C.1 C.2.1 C.2.2.2.2.2.2.2.1 hP hD hS 3 0 (rfl) rfl (vp_in_nI (by omega) (by decide)) dX4_fill_20 (fun H locs hP hD hS => ?_)
  rw [nI_clamp (by omega)] at hP hD
  have hP : va_P D vwCl (mw ad cI cZ X I (flA p0 k0 v0 A)) H := hP
  have hD : va_D (cm_A (mw ad cI cZ X I A)) (mw ad cI cZ X I (flA p0 k0 v0 A)) := hD
  refine lv_iload C.1 C.2.1 dX4_fill_21 (lv_at hl 4 rfl) ?_
  refine lv_if_eq (tgt := 33) C.1 C.2.1 dX4_fill_23 (by decide) (fun _ => ?_) (fun h => absurd (by decide) h)
  exact cm_vret C hP hD hS dX4_fill_33 rfl
set_option maxHeartbeats 4000000 in
set_option maxRecDepth 100000 in
/-- fill, written -/
theorem k_X4_fill1 (l : Launch) (D : va_G) (cI cZ cJ : ClassId) (ad : Nat → Nat) (X : va_W) (I : Nat → Int32) (A : Nat → Nat → Int32) (t : Nat) (ht : t ≤ 40) (h20 : I 20 = nI t) (hk : ∀ j, j < t → wKnd A j) (p0 : Nat) (hp0 : p0 < 72) (k0 v0 : Int32) : CM l D (cm_T cI cZ cJ) yX4_fill cX4_fill 5 none (cm_rm 4 91) [.ref (ad 0), .int (nI p0), .int k0, .int v0, .int (nI 1)] (mw ad cI cZ X I A) none (mw ad cI cZ X (wPg (p0 / 4) t (I, (flA p0 k0 v0 A))).1 (wPg (p0 / 4) t (I, (flA p0 k0 v0 A))).2) := by
  refine CM.of (by decide) (Nat.le_of_ble_eq_true rfl) ?_
  intro p e s m below meth c ls H locs C hl hP hD hS
  refine lv_aload_n C.1 C.2.1 dX4_fill_0 rfl (lv_at hl 0 rfl) ?_
  refine va_get (ci := 4) (C := RX4) (T := TX4) (N := 34) C.1 C.2.1 C.2.2.2.2.2.1 ui_X4 C.2.2.2.2.1 C.2.2.2.2.2.2.2.1 hP 0 (rfl) rfl 1 (by decide) (C.2.2.2.2.2.1 _ tw_457) (fun _ h9 => h9) rfl dX4_fill_1 ?_
  refine lv_iload_n C.1 C.2.1 dX4_fill_4 rfl (lv_at hl 1 rfl) ?_
  refine lv_iconst (v := nI 1) C.1 C.2.1 dX4_fill_5 (by decide +kernel) ?_
  refine va_zast (f := A 1) C.1 C.2.1 C.2.2.2.2.2.2.2.1 hP hD hS 1 1 (rfl) rfl (vp_in_nI (by omega) (by decide)) dX4_fill_6 (fun H locs hP hD hS => ?_)
  rw [nI_clamp (by omega), show vp_nar .boolean (nI 1) = nI 1 by decide +kernel] at hP hD
  have hP : va_P D vwCl (mw ad cI cZ X I (va_up A 1 (upd (A 1) p0 (nI 1)))) H := hP
  have hD : va_D (cm_A (mw ad cI cZ X I A)) (mw ad cI cZ X I (va_up A 1 (upd (A 1) p0 (nI 1)))) := hD
  refine lv_aload_n C.1 C.2.1 dX4_fill_7 rfl (lv_at hl 0 rfl) ?_
  refine va_get (ci := 4) (C := RX4) (T := TX4) (N := 34) C.1 C.2.1 C.2.2.2.2.2.1 ui_X4 C.2.2.2.2.1 C.2.2.2.2.2.2.2.1 hP 0 (rfl) rfl 2 (by decide) (C.2.2.2.2.2.1 _ tw_458) (fun _ h9 => h9) rfl dX4_fill_8 ?_
  refine lv_iload_n C.1 C.2.1 dX4_fill_11 rfl (lv_at hl 1 rfl) ?_
  refine lv_iload_n C.1 C.2.1 dX4_fill_12 rfl (lv_at hl 2 rfl) ?_
  refine va_iast (f := A 2) C.1 C.2.1 C.2.2.2.2.2.2.2.1 hP hD hS 2 0 (rfl) rfl (vp_in_nI (by omega) (by decide)) dX4_fill_13 (fun H locs hP hD hS => ?_)
  rw [nI_clamp (by omega)] at hP hD
  have hP : va_P D vwCl (mw ad cI cZ X I (va_up (va_up A 1 (upd (A 1) p0 (nI 1))) 2 (upd (A 2) p0 k0))) H := hP
  have hD : va_D (cm_A (mw ad cI cZ X I A)) (mw ad cI cZ X I (va_up (va_up A 1 (upd (A 1) p0 (nI 1))) 2 (upd (A 2) p0 k0))) := hD
  refine lv_aload_n C.1 C.2.1 dX4_fill_14 rfl (lv_at hl 0 rfl) ?_
  refine va_get (ci := 4) (C := RX4) (T := TX4) (N := 34) C.1 C.2.1 C.2.2.2.2.2.1 ui_X4 C.2.2.2.2.1 C.2.2.2.2.2.2.2.1 hP 0 (rfl) rfl 3 (by decide) (C.2.2.2.2.2.1 _ tw_459) (fun _ h9 => h9) rfl dX4_fill_15 ?_
  refine lv_iload_n C.1 C.2.1 dX4_fill_18 rfl (lv_at hl 1 rfl) ?_
  refine lv_iload_n C.1 C.2.1 dX4_fill_19 rfl (lv_at hl 3 rfl) ?_
  refine va_iast (f := A 3) C.1 C.2.1 C.2.2.2.2.2.2.2.1 hP hD hS 3 0 (rfl) rfl (vp_in_nI (by omega) (by decide)) dX4_fill_20 (fun H locs hP hD hS => ?_)
  rw [nI_clamp (by omega)] at hP hD
  have hP : va_P D vwCl (mw ad cI cZ X I (flA p0 k0 v0 A)) H := hP
  have hD : va_D (cm_A (mw ad cI cZ X I A)) (mw ad cI cZ X I (flA p0 k0 v0 A)) := hD
  refine lv_iload C.1 C.2.1 dX4_fill_21 (lv_at hl 4 rfl) ?_
  refine lv_if_eq (tgt := 33) C.1 C.2.1 dX4_fill_23 (by decide) (fun h => absurd h (by decide)) (fun _ => ?_)
  refine lv_aload_n C.1 C.2.1 dX4_fill_26 rfl (lv_at hl 0 rfl) ?_
  refine lv_iload_n C.1 C.2.1 dX4_fill_27 rfl (lv_at hl 1 rfl) ?_
  refine lv_iconst (v := nI 4) C.1 C.2.1 dX4_fill_28 (by decide +kernel) ?_
  refine lv_idiv C.1 C.2.1 dX4_fill_29 (by decide) ?_
  rw [pk_div (by omega) (by decide) (by decide)]
  refine cm_cV0 (q0 := 0) 1 C (k_X4_writePage l D cI cZ cJ ad X I (flA p0 k0 v0 A) t ht h20 hk (p0 / 4) (by omega)) tw_592 tw_594 ts_15 tw_5 tw_595 rfl rfl (rfl) rfl (by decide +kernel) ⟨Nat.le_of_ble_eq_true rfl, Nat.le_of_ble_eq_true rfl⟩ ⟨Nat.zero_le _, Nat.zero_le _⟩ hP hD hS hl.1 rfl rfl (Nat.le_of_ble_eq_true rfl) dX4_fill_30 (fun H locs hP hD hS => ?_)
  exact cm_vret C hP hD hS dX4_fill_33 rfl
