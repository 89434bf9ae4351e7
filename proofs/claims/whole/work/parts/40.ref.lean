/-! ===== the reference: its world, and what only reads ===== -/
abbrev mw (ad : Nat → Nat) (cI cZ : ClassId) (X : va_W) (I : Nat → Int32) (A : Nat → Nat → Int32) : va_W :=
  (ad 0, .inr (4, [.int (I 0), .ref (ad 1), .ref (ad 2), .ref (ad 3), .ref (ad 4), .int (I 5), .int (I 6), .int (I 7), .ref (ad 8), .ref (ad 9), .ref (ad 10), .ref (ad 11), .ref (ad 12), .ref (ad 13), .int (I 14), .int (I 15), .int (I 16), .ref (ad 17), .ref (ad 18), .ref (ad 19), .int (I 20), .int (I 21), .ref (ad 22), .ref (ad 23), .ref (ad 24), .ref (ad 25), .ref (ad 26), .ref (ad 27), .ref (ad 28), .int (I 29), .ref (ad 30), .int (I 31), .int (I 32), .int (I 33)])) ::
  (ad 1, .inl (cZ, 108, .inl (A 1))) :: (ad 2, .inl (cI, 108, .inl (A 2))) :: (ad 3, .inl (cI, 108, .inl (A 3))) :: (ad 4, .inl (cI, 4, .inl (A 4))) :: (ad 8, .inl (cI, 8, .inl (A 8))) :: (ad 9, .inl (cI, 8, .inl (A 9))) :: (ad 10, .inl (cI, 8, .inl (A 10))) :: (ad 11, .inl (cZ, 72, .inl (A 11))) :: (ad 12, .inl (cI, 72, .inl (A 12))) :: (ad 13, .inl (cI, 72, .inl (A 13))) :: (ad 17, .inl (cI, 8, .inl (A 17))) :: (ad 18, .inl (cI, 8, .inl (A 18))) :: (ad 19, .inl (cI, 8, .inl (A 19))) :: (ad 22, .inl (cI, 40, .inl (A 22))) :: (ad 23, .inl (cI, 40, .inl (A 23))) :: (ad 24, .inl (cI, 40, .inl (A 24))) :: (ad 25, .inl (cZ, 320, .inl (A 25))) :: (ad 26, .inl (cI, 320, .inl (A 26))) :: (ad 27, .inl (cI, 320, .inl (A 27))) :: (ad 28, .inl (cI, 320, .inl (A 28))) :: (ad 30, .inl (cI, 8, .inl (A 30))) :: X
def uM (A : Nat → Nat → Int32) (w i : Nat) : Bool := decide (¬ A 1 (36 * w + i) = 0)
def kM (A : Nat → Nat → Int32) (w i : Nat) : Int32 := A 2 (36 * w + i)
def vM (A : Nat → Nat → Int32) (w i : Nat) : Int32 := A 3 (36 * w + i)
theorem optA_ge (w i : Nat) (h : 36 * w + i < 2 ^ 31) : 0 ≤ optA w (some i) := nI_pos' h
theorem cntG (P : Nat → Bool) : ∀ (k j : Nat), cnt P j (k + 1) = (if P j = true then 1 else 0) + cnt P (j + 1) k := fun _ _ => rfl
set_option maxHeartbeats 4000000 in
set_option maxRecDepth 100000 in
/-- slotOf -/
theorem k_X4_slotOf (l : Launch) (D : va_G) (cI cZ cJ : ClassId) (ws : va_W) (w b j : Nat) : CM l D (cm_T cI cZ cJ) yX4_slotOf cX4_slotOf 3 (some .int) (cm_rm 0 0) [.int (nI w), .int (nI b), .int (nI j)] ws (some (.int (nI (36 * w + (4 * b + j))))) ws := by
  refine CM.of (by decide) (Nat.le_of_ble_eq_true rfl) ?_
  intro p e s m below meth c ls H locs C hl hP hD hS
  refine lv_iconst (v := nI 4) C.1 C.2.1 dX4_slotOf_0 (by decide +kernel) ?_
  refine lv_bipush (v := nI 9) C.1 C.2.1 dX4_slotOf_1 (by decide +kernel) ?_
  refine lv_iload_n C.1 C.2.1 dX4_slotOf_3 rfl (lv_at hl 0 rfl) ?_
  refine lv_imul C.1 C.2.1 dX4_slotOf_4 ?_
  rw [pk_mul]
  refine lv_iload_n C.1 C.2.1 dX4_slotOf_5 rfl (lv_at hl 1 rfl) ?_
  refine lv_iadd C.1 C.2.1 dX4_slotOf_6 ?_
  rw [nI_add]
  refine lv_imul C.1 C.2.1 dX4_slotOf_7 ?_
  rw [pk_mul]
  refine lv_iload_n C.1 C.2.1 dX4_slotOf_8 rfl (lv_at hl 2 rfl) ?_
  refine lv_iadd C.1 C.2.1 dX4_slotOf_9 ?_
  rw [nI_add]
  exact cm_iret C hP hD hS dX4_slotOf_10 (by rw [show 4 * (9 * w + b) + j = 36 * w + (4 * b + j) by omega]) rfl
set_option maxHeartbeats 4000000 in
set_option maxRecDepth 100000 in
/-- homeOf -/
theorem k_X4_homeOf0 (l : Launch) (D : va_G) (cI cZ cJ : ClassId) (ws : va_W) (k0 s0 : Int32) : CM l D (cm_T cI cZ cJ) yX4_homeOf cX4_homeOf 4 (some .int) (cm_rm 0 0) [.int k0, .int s0, .int (nI 0)] ws (some (.int (nI (hm s0 k0 (-2048144789))))) ws := by
  refine CM.of (by decide) (Nat.le_of_ble_eq_true rfl) ?_
  intro p e s m below meth c ls H locs C hl hP hD hS
  refine lv_ldc C.1 C.2.1 C.2.2.2.2.1 (C.2.2.2.2.2.1 _ tw_578) dX4_homeOf_0 ?_
  refine lv_iload_n C.1 C.2.1 dX4_homeOf_2 rfl (lv_at hl 0 rfl) ?_
  refine lv_imul C.1 C.2.1 dX4_homeOf_3 ?_
  refine lv_iload_n C.1 C.2.1 dX4_homeOf_4 rfl (lv_at hl 1 rfl) ?_
  refine lv_iadd C.1 C.2.1 dX4_homeOf_5 ?_
  refine lv_istore_n (lv' := [(3, _), (0, _), (1, _), (2, _)]) C.1 C.2.1 dX4_homeOf_6 rfl hl (by decide) rfl (fun ls hl => ?_)
  refine lv_iload_n C.1 C.2.1 dX4_homeOf_7 rfl (lv_at hl 0 rfl) ?_
  refine lv_iload_n C.1 C.2.1 dX4_homeOf_8 rfl (lv_at hl 0 rfl) ?_
  refine lv_bipush (v := nI 15) C.1 C.2.1 dX4_homeOf_9 (by decide +kernel) ?_
  refine lv_iushr (v := us _ 15) C.1 C.2.1 dX4_homeOf_11 rfl ?_
  refine lv_ixor C.1 C.2.1 dX4_homeOf_12 ?_
  refine lv_istore_n (lv' := [(3, _), (0, _), (1, _), (2, _)]) C.1 C.2.1 dX4_homeOf_13 rfl hl (by decide) rfl (fun ls hl => ?_)
  refine lv_iload_n C.1 C.2.1 dX4_homeOf_14 rfl (lv_at hl 3 rfl) ?_
  refine lv_if_eq (tgt := 25) C.1 C.2.1 dX4_homeOf_15 (by decide) (fun _ => ?_) (fun h => absurd (by decide) h)
  refine lv_iload_n C.1 C.2.1 dX4_homeOf_25 rfl (lv_at hl 0 rfl) ?_
  refine lv_ldc C.1 C.2.1 C.2.2.2.2.1 (C.2.2.2.2.2.1 _ tw_580) dX4_homeOf_26 ?_
  refine lv_imul C.1 C.2.1 dX4_homeOf_28 ?_
  refine lv_istore_n (lv' := [(3, _), (0, _), (1, _), (2, _)]) C.1 C.2.1 dX4_homeOf_29 rfl hl (by decide) rfl (fun ls hl => ?_)
  refine lv_iload_n C.1 C.2.1 dX4_homeOf_30 rfl (lv_at hl 0 rfl) ?_
  refine lv_iload_n C.1 C.2.1 dX4_homeOf_31 rfl (lv_at hl 0 rfl) ?_
  refine lv_bipush (v := nI 13) C.1 C.2.1 dX4_homeOf_32 (by decide +kernel) ?_
  refine lv_iushr (v := us _ 13) C.1 C.2.1 dX4_homeOf_34 rfl ?_
  refine lv_ixor C.1 C.2.1 dX4_homeOf_35 ?_
  refine lv_bipush (v := nI 7) C.1 C.2.1 dX4_homeOf_36 (by decide +kernel) ?_
  refine lv_iand C.1 C.2.1 dX4_homeOf_38 ?_
  rw [hm_and]
  exact cm_iret C hP hD hS dX4_homeOf_39 rfl rfl
set_option maxHeartbeats 4000000 in
set_option maxRecDepth 100000 in
/-- homeOf -/
theorem k_X4_homeOf1 (l : Launch) (D : va_G) (cI cZ cJ : ClassId) (ws : va_W) (k0 s0 : Int32) : CM l D (cm_T cI cZ cJ) yX4_homeOf cX4_homeOf 4 (some .int) (cm_rm 0 0) [.int k0, .int s0, .int (nI 1)] ws (some (.int (nI (hm s0 k0 (-1028477387))))) ws := by
  refine CM.of (by decide) (Nat.le_of_ble_eq_true rfl) ?_
  intro p e s m below meth c ls H locs C hl hP hD hS
  refine lv_ldc C.1 C.2.1 C.2.2.2.2.1 (C.2.2.2.2.2.1 _ tw_578) dX4_homeOf_0 ?_
  refine lv_iload_n C.1 C.2.1 dX4_homeOf_2 rfl (lv_at hl 0 rfl) ?_
  refine lv_imul C.1 C.2.1 dX4_homeOf_3 ?_
  refine lv_iload_n C.1 C.2.1 dX4_homeOf_4 rfl (lv_at hl 1 rfl) ?_
  refine lv_iadd C.1 C.2.1 dX4_homeOf_5 ?_
  refine lv_istore_n (lv' := [(3, _), (0, _), (1, _), (2, _)]) C.1 C.2.1 dX4_homeOf_6 rfl hl (by decide) rfl (fun ls hl => ?_)
  refine lv_iload_n C.1 C.2.1 dX4_homeOf_7 rfl (lv_at hl 0 rfl) ?_
  refine lv_iload_n C.1 C.2.1 dX4_homeOf_8 rfl (lv_at hl 0 rfl) ?_
  refine lv_bipush (v := nI 15) C.1 C.2.1 dX4_homeOf_9 (by decide +kernel) ?_
  refine lv_iushr (v := us _ 15) C.1 C.2.1 dX4_homeOf_11 rfl ?_
  refine lv_ixor C.1 C.2.1 dX4_homeOf_12 ?_
  refine lv_istore_n (lv' := [(3, _), (0, _), (1, _), (2, _)]) C.1 C.2.1 dX4_homeOf_13 rfl hl (by decide) rfl (fun ls hl => ?_)
  refine lv_iload_n C.1 C.2.1 dX4_homeOf_14 rfl (lv_at hl 3 rfl) ?_
  refine lv_if_eq (tgt := 25) C.1 C.2.1 dX4_homeOf_15 (by decide) (fun h => absurd h (by decide)) (fun _ => ?_)
  refine lv_iload_n C.1 C.2.1 dX4_homeOf_18 rfl (lv_at hl 0 rfl) ?_
  refine lv_ldc C.1 C.2.1 C.2.2.2.2.1 (C.2.2.2.2.2.1 _ tw_579) dX4_homeOf_19 ?_
  refine lv_imul C.1 C.2.1 dX4_homeOf_21 ?_
  refine lv_goto (tgt := 29) C.1 C.2.1 dX4_homeOf_22 (by decide) ?_
  refine lv_istore_n (lv' := [(3, _), (0, _), (1, _), (2, _)]) C.1 C.2.1 dX4_homeOf_29 rfl hl (by decide) rfl (fun ls hl => ?_)
  refine lv_iload_n C.1 C.2.1 dX4_homeOf_30 rfl (lv_at hl 0 rfl) ?_
  refine lv_iload_n C.1 C.2.1 dX4_homeOf_31 rfl (lv_at hl 0 rfl) ?_
  refine lv_bipush (v := nI 13) C.1 C.2.1 dX4_homeOf_32 (by decide +kernel) ?_
  refine lv_iushr (v := us _ 13) C.1 C.2.1 dX4_homeOf_34 rfl ?_
  refine lv_ixor C.1 C.2.1 dX4_homeOf_35 ?_
  refine lv_bipush (v := nI 7) C.1 C.2.1 dX4_homeOf_36 (by decide +kernel) ?_
  refine lv_iand C.1 C.2.1 dX4_homeOf_38 ?_
  rw [hm_and]
  exact cm_iret C hP hD hS dX4_homeOf_39 rfl rfl
set_option maxHeartbeats 4000000 in
set_option maxRecDepth 100000 in
/-- homeBy -/
theorem k_X4_homeBy1 (l : Launch) (D : va_G) (cI cZ cJ : ClassId) (ws : va_W) (k0 s0 : Int32) : CM l D (cm_T cI cZ cJ) yX4_homeBy cX4_homeBy 5 (some .int) (cm_rm 1 23) [.int k0, .int s0, .int (nI 0)] ws (some (.int (nI (hm1 s0 k0)))) ws := by
  refine CM.of (by decide) (Nat.le_of_ble_eq_true rfl) ?_
  intro p e s m below meth c ls H locs C hl hP hD hS
  refine lv_iload_n C.1 C.2.1 dX4_homeBy_0 rfl (lv_at hl 0 rfl) ?_
  refine lv_iload_n C.1 C.2.1 dX4_homeBy_1 rfl (lv_at hl 1 rfl) ?_
  refine lv_iconst (v := nI 0) C.1 C.2.1 dX4_homeBy_2 (by decide +kernel) ?_
  refine cm_cS1 3 C (k_X4_homeOf0 l D cI cZ cJ _ k0 s0) tw_575 tw_576 tw_5 tw_577 rfl rfl (by decide +kernel) ⟨Nat.le_of_ble_eq_true rfl, Nat.le_of_ble_eq_true rfl⟩ ⟨Nat.zero_le _, Nat.zero_le _⟩ hP hD hS hl.1 rfl rfl (Nat.le_of_ble_eq_true rfl) dX4_homeBy_3 (fun H locs hP hD hS => ?_)
  refine lv_istore_n (lv' := [(3, _), (0, _), (1, _), (2, _)]) C.1 C.2.1 dX4_homeBy_6 rfl hl (by decide) rfl (fun ls hl => ?_)
  refine lv_iload_n C.1 C.2.1 dX4_homeBy_7 rfl (lv_at hl 3 rfl) ?_
  refine lv_if_ne (tgt := 13) C.1 C.2.1 dX4_homeBy_8 (by decide) (fun h => absurd (by decide) h) (fun _ => ?_)
  refine lv_iload_n C.1 C.2.1 dX4_homeBy_11 rfl (lv_at hl 0 rfl) ?_
  exact cm_iret C hP hD hS dX4_homeBy_12 rfl rfl
set_option maxHeartbeats 4000000 in
set_option maxRecDepth 100000 in
/-- homeBy -/
theorem k_X4_homeBy2 (l : Launch) (D : va_G) (cI cZ cJ : ClassId) (ws : va_W) (k0 s0 : Int32) : CM l D (cm_T cI cZ cJ) yX4_homeBy cX4_homeBy 5 (some .int) (cm_rm 1 23) [.int k0, .int s0, .int (nI 1)] ws (some (.int (nI (hm2 s0 k0)))) ws := by
  refine CM.of (by decide) (Nat.le_of_ble_eq_true rfl) ?_
  intro p e s m below meth c ls H locs C hl hP hD hS
  have q1 := hm_lt s0 k0 (-2048144789)
  have q2 := hm_lt s0 k0 (-1028477387)
  refine lv_iload_n C.1 C.2.1 dX4_homeBy_0 rfl (lv_at hl 0 rfl) ?_
  refine lv_iload_n C.1 C.2.1 dX4_homeBy_1 rfl (lv_at hl 1 rfl) ?_
  refine lv_iconst (v := nI 0) C.1 C.2.1 dX4_homeBy_2 (by decide +kernel) ?_
  refine cm_cS1 3 C (k_X4_homeOf0 l D cI cZ cJ _ k0 s0) tw_575 tw_576 tw_5 tw_577 rfl rfl (by decide +kernel) ⟨Nat.le_of_ble_eq_true rfl, Nat.le_of_ble_eq_true rfl⟩ ⟨Nat.zero_le _, Nat.zero_le _⟩ hP hD hS hl.1 rfl rfl (Nat.le_of_ble_eq_true rfl) dX4_homeBy_3 (fun H locs hP hD hS => ?_)
  refine lv_istore_n (lv' := [(3, _), (0, _), (1, _), (2, _)]) C.1 C.2.1 dX4_homeBy_6 rfl hl (by decide) rfl (fun ls hl => ?_)
  refine lv_iload_n C.1 C.2.1 dX4_homeBy_7 rfl (lv_at hl 3 rfl) ?_
  refine lv_if_ne (tgt := 13) C.1 C.2.1 dX4_homeBy_8 (by decide) (fun _ => ?_) (fun h => absurd h (by decide))
  refine lv_iload_n C.1 C.2.1 dX4_homeBy_13 rfl (lv_at hl 1 rfl) ?_
  refine lv_iload_n C.1 C.2.1 dX4_homeBy_14 rfl (lv_at hl 2 rfl) ?_
  refine lv_iconst (v := nI 1) C.1 C.2.1 dX4_homeBy_15 (by decide +kernel) ?_
  refine cm_cS1 3 C (k_X4_homeOf1 l D cI cZ cJ _ k0 s0) tw_575 tw_576 tw_5 tw_577 rfl rfl (by decide +kernel) ⟨Nat.le_of_ble_eq_true rfl, Nat.le_of_ble_eq_true rfl⟩ ⟨Nat.zero_le _, Nat.zero_le _⟩ hP hD hS hl.1 rfl rfl (Nat.le_of_ble_eq_true rfl) dX4_homeBy_16 (fun H locs hP hD hS => ?_)
  refine lv_istore (lv' := [(4, _), (3, _), (0, _), (1, _), (2, _)]) C.1 C.2.1 dX4_homeBy_19 hl (by decide) rfl (fun ls hl => ?_)
  refine lv_iload C.1 C.2.1 dX4_homeBy_21 (lv_at hl 0 rfl) ?_
  refine lv_iload_n C.1 C.2.1 dX4_homeBy_23 rfl (lv_at hl 1 rfl) ?_
  refine lv_icmp_ne (tgt := 37) C.1 C.2.1 dX4_homeBy_24 (by decide) (fun h24 => ?_) (fun h24 => ?_)
  · refine lv_iload C.1 C.2.1 dX4_homeBy_37 (lv_at hl 0 rfl) ?_
    exact cm_iret C hP hD hS dX4_homeBy_39 (by unfold hm2 hm1; rw [if_neg (fun q => h24 (by rw [q]))]) rfl
  · refine lv_iload C.1 C.2.1 dX4_homeBy_27 (lv_at hl 0 rfl) ?_
    refine lv_iconst (v := nI 1) C.1 C.2.1 dX4_homeBy_29 (by decide +kernel) ?_
    refine lv_iadd C.1 C.2.1 dX4_homeBy_30 ?_
    rw [nI_add]
    refine lv_bipush (v := nI 8) C.1 C.2.1 dX4_homeBy_31 (by decide +kernel) ?_
    refine lv_irem C.1 C.2.1 dX4_homeBy_33 (by decide) ?_
    rw [pk_rem (by omega) (by decide) (by decide)]
    refine lv_goto (tgt := 39) C.1 C.2.1 dX4_homeBy_34 (by decide) ?_
    have h24 : hm s0 k0 (-1028477387) = hm s0 k0 (-2048144789) := (nI_eq (by omega) (by omega)).mp h24
    exact cm_iret C hP hD hS dX4_homeBy_39 (by unfold hm2 hm1; rw [if_pos h24, h24]) rfl
set_option maxHeartbeats 4000000 in
set_option maxRecDepth 100000 in
/-- find -/
theorem k_X4_find (l : Launch) (D : va_G) (cI cZ cJ : ClassId) (ad : Nat → Nat) (X : va_W) (I : Nat → Int32) (A : Nat → Nat → Int32) (w b : Nat) (hw0 : w < 3) (hb0 : b < 9) (key : Int32) : CM l D (cm_T cI cZ cJ) yX4_find cX4_find 6 (some .int) (cm_rm 1 22) [.ref (ad 0), .int (nI w), .int (nI b), .int key] (mw ad cI cZ X I A) (some (.int (optA w (atS (uM A w) (kM A w) key b)))) (mw ad cI cZ X I A) := by
  refine CM.of (by decide) (Nat.le_of_ble_eq_true rfl) ?_
  intro p e s m below meth c ls H locs C hl hP hD hS
  refine lv_iconst (v := nI 0) C.1 C.2.1 dX4_find_0 (by decide +kernel) ?_
  refine lv_istore (lv' := [(4, _), (0, _), (1, _), (2, _), (3, _)]) C.1 C.2.1 dX4_find_1 hl (by decide) rfl (fun ls hl => ?_)
  have loop : ∀ (k j : Nat), j + k = 4 → ∀ (ls : Array Slot) (H : Heap) (locs : List Loc), lv_has ls 6 [(4, .int (nI j)), (0, .ref (ad 0)), (1, .int (nI w)), (2, .int (nI b)), (3, .int key)] → va_P D vwCl (mw ad cI cZ X I A) H → va_D (cm_A (mw ad cI cZ X I A)) (mw ad cI cZ X I A) → va_S (cm_A (mw ad cI cZ X I A)) s.heap H locs → W p l e (cm_rm 1 22) s m ([.ref (ad 0), .int (nI w), .int (nI b), .int key] : List Value).toArray below meth c H locs 0 0 (cm_Q below D [.ref (ad 0), .int (nI w), .int (nI b), .int key] s (mw ad cI cZ X I A) (some (.int (optA w (scan (fun i => uM A w (4 * b + i) && decide (kM A w (4 * b + i) = key)) (4 * b) j k)))) (mw ad cI cZ X I A)) (F0 m 3 ls []) := by
    intro k
    induction k with
    | zero =>
      intro j hj ls H locs hl hP hD hS
      refine lv_iload C.1 C.2.1 dX4_find_3 (lv_at hl 0 rfl) ?_
      refine lv_iconst (v := nI 4) C.1 C.2.1 dX4_find_5 (by decide +kernel) ?_
      refine lv_icmp_ge (tgt := 48) C.1 C.2.1 dX4_find_6 (by decide) (fun _ => ?_) (fun h => absurd (nI_le (by omega) (by omega)) h)
      refine lv_iconst (v := (-1)) C.1 C.2.1 dX4_find_48 (by decide +kernel) ?_
      exact cm_iret C hP hD hS dX4_find_49 rfl rfl
    | succ k ih =>
      intro j hj ls H locs hl hP hD hS
      refine lv_iload C.1 C.2.1 dX4_find_3 (lv_at hl 0 rfl) ?_
      refine lv_iconst (v := nI 4) C.1 C.2.1 dX4_find_5 (by decide +kernel) ?_
      refine lv_icmp_ge (tgt := 48) C.1 C.2.1 dX4_find_6 (by decide) (fun h => absurd h (nI_ge (by omega) (by decide))) (fun _ => ?_)
      refine lv_iload_n C.1 C.2.1 dX4_find_9 rfl (lv_at hl 2 rfl) ?_
      refine lv_iload_n C.1 C.2.1 dX4_find_10 rfl (lv_at hl 3 rfl) ?_
      refine lv_iload C.1 C.2.1 dX4_find_11 (lv_at hl 0 rfl) ?_
      refine cm_cS1 3 C (k_X4_slotOf l D cI cZ cJ (mw ad cI cZ X I A) w b j) tw_585 tw_586 tw_5 tw_587 rfl rfl (by decide +kernel) ⟨Nat.le_of_ble_eq_true rfl, Nat.le_of_ble_eq_true rfl⟩ ⟨Nat.zero_le _, Nat.zero_le _⟩ hP hD hS hl.1 rfl rfl (Nat.le_of_ble_eq_true rfl) dX4_find_13 (fun H locs hP hD hS => ?_)
      refine lv_istore (lv' := [(5, _), (4, _), (0, _), (1, _), (2, _), (3, _)]) C.1 C.2.1 dX4_find_16 hl (by decide) rfl (fun ls hl => ?_)
      refine lv_aload_n C.1 C.2.1 dX4_find_18 rfl (lv_at hl 2 rfl) ?_
      refine va_get (ci := 4) (C := RX4) (T := TX4) (N := 34) C.1 C.2.1 C.2.2.2.2.2.1 ui_X4 C.2.2.2.2.1 C.2.2.2.2.2.2.2.1 hP 0 (rfl) rfl 1 (by decide) (C.2.2.2.2.2.1 _ tw_457) (fun _ h9 => h9) rfl dX4_find_19 ?_
      refine lv_iload C.1 C.2.1 dX4_find_22 (lv_at hl 0 rfl) ?_
      refine va_zald C.1 C.2.1 C.2.2.2.2.2.2.2.1 hP 1 1 (rfl) rfl (vp_in_nI (by omega) (by decide)) dX4_find_24 ?_
      rw [nI_clamp (by omega)]
      refine lv_if_eq (tgt := 42) C.1 C.2.1 dX4_find_25 (by decide) (fun h25 => ?_) (fun h25 => ?_)
      · refine lv_iinc (v := nI (j + 1)) (lv' := [(4, _), (5, _), (0, _), (1, _), (2, _), (3, _)]) C.1 C.2.1 dX4_find_42 hl (k := 1) rfl (nI_1 j) (by decide) rfl (fun ls hl => ?_)
        refine lv_goto (tgt := 3) C.1 C.2.1 dX4_find_45 (by decide) ?_
        rw [show scan (fun i => uM A w (4 * b + i) && decide (kM A w (4 * b + i) = key)) (4 * b) j (k + 1) = scan (fun i => uM A w (4 * b + i) && decide (kM A w (4 * b + i) = key)) (4 * b) (j + 1) k from if_neg (by simp [uM, kM, h25])]
        exact ih (j + 1) (by omega) ls H locs (lv_sub hl [0, 2, 3, 4, 5] rfl) hP hD hS
      · refine lv_aload_n C.1 C.2.1 dX4_find_28 rfl (lv_at hl 2 rfl) ?_
        refine va_get (ci := 4) (C := RX4) (T := TX4) (N := 34) C.1 C.2.1 C.2.2.2.2.2.1 ui_X4 C.2.2.2.2.1 C.2.2.2.2.2.2.2.1 hP 0 (rfl) rfl 2 (by decide) (C.2.2.2.2.2.1 _ tw_458) (fun _ h9 => h9) rfl dX4_find_29 ?_
        refine lv_iload C.1 C.2.1 dX4_find_32 (lv_at hl 0 rfl) ?_
        refine va_iald C.1 C.2.1 C.2.2.2.2.2.2.2.1 hP 2 0 (rfl) rfl (vp_in_nI (by omega) (by decide)) dX4_find_34 ?_
        rw [nI_clamp (by omega)]
        refine lv_iload_n C.1 C.2.1 dX4_find_35 rfl (lv_at hl 5 rfl) ?_
        refine lv_icmp_ne (tgt := 42) C.1 C.2.1 dX4_find_36 (by decide) (fun h36 => ?_) (fun h36 => ?_)
        · refine lv_iinc (v := nI (j + 1)) (lv' := [(4, _), (5, _), (0, _), (1, _), (2, _), (3, _)]) C.1 C.2.1 dX4_find_42 hl (k := 1) rfl (nI_1 j) (by decide) rfl (fun ls hl => ?_)
          refine lv_goto (tgt := 3) C.1 C.2.1 dX4_find_45 (by decide) ?_
          rw [show scan (fun i => uM A w (4 * b + i) && decide (kM A w (4 * b + i) = key)) (4 * b) j (k + 1) = scan (fun i => uM A w (4 * b + i) && decide (kM A w (4 * b + i) = key)) (4 * b) (j + 1) k from if_neg (by simp [uM, kM, h25, h36])]
          exact ih (j + 1) (by omega) ls H locs (lv_sub hl [0, 2, 3, 4, 5] rfl) hP hD hS
        · refine lv_iload C.1 C.2.1 dX4_find_39 (lv_at hl 0 rfl) ?_
          exact cm_iret C hP hD hS dX4_find_41 (by rw [show scan (fun i => uM A w (4 * b + i) && decide (kM A w (4 * b + i) = key)) (4 * b) j (k + 1) = some (4 * b + j) from if_pos (by simp [uM, kM, h25, h36])]; rfl) rfl
  exact loop 4 0 rfl ls H locs hl hP hD hS
set_option maxHeartbeats 4000000 in
set_option maxRecDepth 100000 in
/-- empty -/
theorem k_X4_empty (l : Launch) (D : va_G) (cI cZ cJ : ClassId) (ad : Nat → Nat) (X : va_W) (I : Nat → Int32) (A : Nat → Nat → Int32) (w b : Nat) (hw0 : w < 3) (hb0 : b < 9) : CM l D (cm_T cI cZ cJ) yX4_empty cX4_empty 4 (some .int) (cm_rm 1 22) [.ref (ad 0), .int (nI w), .int (nI b)] (mw ad cI cZ X I A) (some (.int (optA w (emS (uM A w) b)))) (mw ad cI cZ X I A) := by
  refine CM.of (by decide) (Nat.le_of_ble_eq_true rfl) ?_
  intro p e s m below meth c ls H locs C hl hP hD hS
  refine lv_iconst (v := nI 0) C.1 C.2.1 dX4_empty_0 (by decide +kernel) ?_
  refine lv_istore_n (lv' := [(3, _), (0, _), (1, _), (2, _)]) C.1 C.2.1 dX4_empty_1 rfl hl (by decide) rfl (fun ls hl => ?_)
  have loop : ∀ (k j : Nat), j + k = 4 → ∀ (ls : Array Slot) (H : Heap) (locs : List Loc), lv_has ls 4 [(3, .int (nI j)), (0, .ref (ad 0)), (1, .int (nI w)), (2, .int (nI b))] → va_P D vwCl (mw ad cI cZ X I A) H → va_D (cm_A (mw ad cI cZ X I A)) (mw ad cI cZ X I A) → va_S (cm_A (mw ad cI cZ X I A)) s.heap H locs → W p l e (cm_rm 1 22) s m ([.ref (ad 0), .int (nI w), .int (nI b)] : List Value).toArray below meth c H locs 0 0 (cm_Q below D [.ref (ad 0), .int (nI w), .int (nI b)] s (mw ad cI cZ X I A) (some (.int (optA w (scan (fun i => !uM A w (4 * b + i)) (4 * b) j k)))) (mw ad cI cZ X I A)) (F0 m 2 ls []) := by
    intro k
    induction k with
    | zero =>
      intro j hj ls H locs hl hP hD hS
      refine lv_iload_n C.1 C.2.1 dX4_empty_2 rfl (lv_at hl 0 rfl) ?_
      refine lv_iconst (v := nI 4) C.1 C.2.1 dX4_empty_3 (by decide +kernel) ?_
      refine lv_icmp_ge (tgt := 34) C.1 C.2.1 dX4_empty_4 (by decide) (fun _ => ?_) (fun h => absurd (nI_le (by omega) (by omega)) h)
      refine lv_iconst (v := (-1)) C.1 C.2.1 dX4_empty_34 (by decide +kernel) ?_
      exact cm_iret C hP hD hS dX4_empty_35 rfl rfl
    | succ k ih =>
      intro j hj ls H locs hl hP hD hS
      refine lv_iload_n C.1 C.2.1 dX4_empty_2 rfl (lv_at hl 0 rfl) ?_
      refine lv_iconst (v := nI 4) C.1 C.2.1 dX4_empty_3 (by decide +kernel) ?_
      refine lv_icmp_ge (tgt := 34) C.1 C.2.1 dX4_empty_4 (by decide) (fun h => absurd h (nI_ge (by omega) (by decide))) (fun _ => ?_)
      refine lv_aload_n C.1 C.2.1 dX4_empty_7 rfl (lv_at hl 1 rfl) ?_
      refine va_get (ci := 4) (C := RX4) (T := TX4) (N := 34) C.1 C.2.1 C.2.2.2.2.2.1 ui_X4 C.2.2.2.2.1 C.2.2.2.2.2.2.2.1 hP 0 (rfl) rfl 1 (by decide) (C.2.2.2.2.2.1 _ tw_457) (fun _ h9 => h9) rfl dX4_empty_8 ?_
      refine lv_iload_n C.1 C.2.1 dX4_empty_11 rfl (lv_at hl 2 rfl) ?_
      refine lv_iload_n C.1 C.2.1 dX4_empty_12 rfl (lv_at hl 3 rfl) ?_
      refine lv_iload_n C.1 C.2.1 dX4_empty_13 rfl (lv_at hl 0 rfl) ?_
      refine cm_cS1 3 C (k_X4_slotOf l D cI cZ cJ (mw ad cI cZ X I A) w b j) tw_585 tw_586 tw_5 tw_587 rfl rfl (by decide +kernel) ⟨Nat.le_of_ble_eq_true rfl, Nat.le_of_ble_eq_true rfl⟩ ⟨Nat.zero_le _, Nat.zero_le _⟩ hP hD hS hl.1 rfl rfl (Nat.le_of_ble_eq_true rfl) dX4_empty_14 (fun H locs hP hD hS => ?_)
      refine va_zald C.1 C.2.1 C.2.2.2.2.2.2.2.1 hP 1 1 (rfl) rfl (vp_in_nI (by omega) (by decide)) dX4_empty_17 ?_
      rw [nI_clamp (by omega)]
      refine lv_if_ne (tgt := 28) C.1 C.2.1 dX4_empty_18 (by decide) (fun h18 => ?_) (fun h18 => ?_)
      · refine lv_iinc (v := nI (j + 1)) (lv' := [(3, _), (0, _), (1, _), (2, _)]) C.1 C.2.1 dX4_empty_28 hl (k := 0) rfl (nI_1 j) (by decide) rfl (fun ls hl => ?_)
        refine lv_goto (tgt := 2) C.1 C.2.1 dX4_empty_31 (by decide) ?_
        rw [show scan (fun i => !uM A w (4 * b + i)) (4 * b) j (k + 1) = scan (fun i => !uM A w (4 * b + i)) (4 * b) (j + 1) k from if_neg (by simp [uM, h18])]
        exact ih (j + 1) (by omega) ls H locs hl hP hD hS
      · refine lv_iload_n C.1 C.2.1 dX4_empty_21 rfl (lv_at hl 2 rfl) ?_
        refine lv_iload_n C.1 C.2.1 dX4_empty_22 rfl (lv_at hl 3 rfl) ?_
        refine lv_iload_n C.1 C.2.1 dX4_empty_23 rfl (lv_at hl 0 rfl) ?_
        refine cm_cS1 3 C (k_X4_slotOf l D cI cZ cJ (mw ad cI cZ X I A) w b j) tw_585 tw_586 tw_5 tw_587 rfl rfl (by decide +kernel) ⟨Nat.le_of_ble_eq_true rfl, Nat.le_of_ble_eq_true rfl⟩ ⟨Nat.zero_le _, Nat.zero_le _⟩ hP hD hS hl.1 rfl rfl (Nat.le_of_ble_eq_true rfl) dX4_empty_24 (fun H locs hP hD hS => ?_)
        exact cm_iret C hP hD hS dX4_empty_27 (by rw [show scan (fun i => !uM A w (4 * b + i)) (4 * b) j (k + 1) = some (4 * b + j) from if_pos (by simp [uM, h18])]; rfl) rfl
  exact loop 4 0 rfl ls H locs hl hP hD hS
set_option maxHeartbeats 4000000 in
set_option maxRecDepth 100000 in
/-- place -/
theorem k_X4_place (l : Launch) (D : va_G) (cI cZ cJ : ClassId) (ad : Nat → Nat) (X : va_W) (I : Nat → Int32) (A : Nat → Nat → Int32) (w : Nat) (hw0 : w < 3) (s0 key : Int32) : CM l D (cm_T cI cZ cJ) yX4_place cX4_place 5 (some .int) (cm_rm 2 47) [.ref (ad 0), .int (nI w), .int s0, .int key] (mw ad cI cZ X I A) (some (.int (optA w (findS (uM A w) (kM A w) s0 key)))) (mw ad cI cZ X I A) := by
  refine CM.of (by decide) (Nat.le_of_ble_eq_true rfl) ?_
  intro p e s m below meth c ls H locs C hl hP hD hS
  have q1 := hm1_lt s0 key
  have q2 := hm2_lt s0 key
  cases e1 : atS (uM A w) (kM A w) key (hm1 s0 key) with
  | some i =>
    have q3 := (atS_lt e1 (by omega)).1
    refine lv_aload_n C.1 C.2.1 dX4_place_0 rfl (lv_at hl 0 rfl) ?_
    refine lv_iload_n C.1 C.2.1 dX4_place_1 rfl (lv_at hl 1 rfl) ?_
    refine lv_iload_n C.1 C.2.1 dX4_place_2 rfl (lv_at hl 3 rfl) ?_
    refine lv_iload_n C.1 C.2.1 dX4_place_3 rfl (lv_at hl 2 rfl) ?_
    refine lv_iconst (v := nI 0) C.1 C.2.1 dX4_place_4 (by decide +kernel) ?_
    refine cm_cS1 3 C (k_X4_homeBy1 l D cI cZ cJ (mw ad cI cZ X I A) key s0) tw_572 tw_573 tw_5 tw_574 rfl rfl (by decide +kernel) ⟨Nat.le_of_ble_eq_true rfl, Nat.le_of_ble_eq_true rfl⟩ ⟨Nat.zero_le _, Nat.zero_le _⟩ hP hD hS hl.1 rfl rfl (Nat.le_of_ble_eq_true rfl) dX4_place_5 (fun H locs hP hD hS => ?_)
    refine lv_iload_n C.1 C.2.1 dX4_place_8 rfl (lv_at hl 3 rfl) ?_
    refine cm_cV1 (q0 := 0) 3 C (k_X4_find l D cI cZ cJ ad X I A w (hm1 s0 key) hw0 (by omega) key) tw_581 tw_583 ts_13 tw_5 tw_584 rfl rfl (rfl) rfl (by decide +kernel) ⟨Nat.le_of_ble_eq_true rfl, Nat.le_of_ble_eq_true rfl⟩ ⟨Nat.zero_le _, Nat.zero_le _⟩ hP hD hS hl.1 rfl rfl (Nat.le_of_ble_eq_true rfl) dX4_place_9 (fun H locs hP hD hS => ?_)
    rw [e1, optA_some]
    refine lv_istore (lv' := [(4, _), (0, _), (1, _), (2, _), (3, _)]) C.1 C.2.1 dX4_place_12 hl (by decide) rfl (fun ls hl => ?_)
    refine lv_iload C.1 C.2.1 dX4_place_14 (lv_at hl 0 rfl) ?_
    refine lv_if_ge (tgt := 34) C.1 C.2.1 dX4_place_16 (by decide) (fun _ => ?_) (fun h => absurd (nI_pos' (by omega)) h)
    refine lv_iload C.1 C.2.1 dX4_place_34 (lv_at hl 0 rfl) ?_
    refine lv_istore (lv' := [(4, _), (0, _), (1, _), (2, _), (3, _)]) C.1 C.2.1 dX4_place_36 hl (by decide) rfl (fun ls hl => ?_)
    refine lv_iload C.1 C.2.1 dX4_place_38 (lv_at hl 0 rfl) ?_
    refine lv_if_ge (tgt := 54) C.1 C.2.1 dX4_place_40 (by decide) (fun _ => ?_) (fun h => absurd (nI_pos' (by omega)) h)
    refine lv_iload C.1 C.2.1 dX4_place_54 (lv_at hl 0 rfl) ?_
    exact cm_iret C hP hD hS dX4_place_56 (by unfold findS; rw [e1]; rfl) rfl
  | none =>
    cases e2 : atS (uM A w) (kM A w) key (hm2 s0 key) with
    | some i =>
      have q3 := (atS_lt e2 (by omega)).1
      refine lv_aload_n C.1 C.2.1 dX4_place_0 rfl (lv_at hl 0 rfl) ?_
      refine lv_iload_n C.1 C.2.1 dX4_place_1 rfl (lv_at hl 1 rfl) ?_
      refine lv_iload_n C.1 C.2.1 dX4_place_2 rfl (lv_at hl 3 rfl) ?_
      refine lv_iload_n C.1 C.2.1 dX4_place_3 rfl (lv_at hl 2 rfl) ?_
      refine lv_iconst (v := nI 0) C.1 C.2.1 dX4_place_4 (by decide +kernel) ?_
      refine cm_cS1 3 C (k_X4_homeBy1 l D cI cZ cJ (mw ad cI cZ X I A) key s0) tw_572 tw_573 tw_5 tw_574 rfl rfl (by decide +kernel) ⟨Nat.le_of_ble_eq_true rfl, Nat.le_of_ble_eq_true rfl⟩ ⟨Nat.zero_le _, Nat.zero_le _⟩ hP hD hS hl.1 rfl rfl (Nat.le_of_ble_eq_true rfl) dX4_place_5 (fun H locs hP hD hS => ?_)
      refine lv_iload_n C.1 C.2.1 dX4_place_8 rfl (lv_at hl 3 rfl) ?_
      refine cm_cV1 (q0 := 0) 3 C (k_X4_find l D cI cZ cJ ad X I A w (hm1 s0 key) hw0 (by omega) key) tw_581 tw_583 ts_13 tw_5 tw_584 rfl rfl (rfl) rfl (by decide +kernel) ⟨Nat.le_of_ble_eq_true rfl, Nat.le_of_ble_eq_true rfl⟩ ⟨Nat.zero_le _, Nat.zero_le _⟩ hP hD hS hl.1 rfl rfl (Nat.le_of_ble_eq_true rfl) dX4_place_9 (fun H locs hP hD hS => ?_)
      rw [e1, optA_none]
      refine lv_istore (lv' := [(4, _), (0, _), (1, _), (2, _), (3, _)]) C.1 C.2.1 dX4_place_12 hl (by decide) rfl (fun ls hl => ?_)
      refine lv_iload C.1 C.2.1 dX4_place_14 (lv_at hl 0 rfl) ?_
      refine lv_if_ge (tgt := 34) C.1 C.2.1 dX4_place_16 (by decide) (fun h => absurd h (by decide)) (fun _ => ?_)
      refine lv_aload_n C.1 C.2.1 dX4_place_19 rfl (lv_at hl 1 rfl) ?_
      refine lv_iload_n C.1 C.2.1 dX4_place_20 rfl (lv_at hl 2 rfl) ?_
      refine lv_iload_n C.1 C.2.1 dX4_place_21 rfl (lv_at hl 4 rfl) ?_
      refine lv_iload_n C.1 C.2.1 dX4_place_22 rfl (lv_at hl 3 rfl) ?_
      refine lv_iconst (v := nI 1) C.1 C.2.1 dX4_place_23 (by decide +kernel) ?_
      refine cm_cS1 3 C (k_X4_homeBy2 l D cI cZ cJ (mw ad cI cZ X I A) key s0) tw_572 tw_573 tw_5 tw_574 rfl rfl (by decide +kernel) ⟨Nat.le_of_ble_eq_true rfl, Nat.le_of_ble_eq_true rfl⟩ ⟨Nat.zero_le _, Nat.zero_le _⟩ hP hD hS hl.1 rfl rfl (Nat.le_of_ble_eq_true rfl) dX4_place_24 (fun H locs hP hD hS => ?_)
      refine lv_iload_n C.1 C.2.1 dX4_place_27 rfl (lv_at hl 4 rfl) ?_
      refine cm_cV1 (q0 := 0) 3 C (k_X4_find l D cI cZ cJ ad X I A w (hm2 s0 key) hw0 (by omega) key) tw_581 tw_583 ts_13 tw_5 tw_584 rfl rfl (rfl) rfl (by decide +kernel) ⟨Nat.le_of_ble_eq_true rfl, Nat.le_of_ble_eq_true rfl⟩ ⟨Nat.zero_le _, Nat.zero_le _⟩ hP hD hS hl.1 rfl rfl (Nat.le_of_ble_eq_true rfl) dX4_place_28 (fun H locs hP hD hS => ?_)
      rw [e2, optA_some]
      refine lv_goto (tgt := 36) C.1 C.2.1 dX4_place_31 (by decide) ?_
      refine lv_istore (lv' := [(4, _), (0, _), (1, _), (2, _), (3, _)]) C.1 C.2.1 dX4_place_36 hl (by decide) rfl (fun ls hl => ?_)
      refine lv_iload C.1 C.2.1 dX4_place_38 (lv_at hl 0 rfl) ?_
      refine lv_if_ge (tgt := 54) C.1 C.2.1 dX4_place_40 (by decide) (fun _ => ?_) (fun h => absurd (nI_pos' (by omega)) h)
      refine lv_iload C.1 C.2.1 dX4_place_54 (lv_at hl 0 rfl) ?_
      exact cm_iret C hP hD hS dX4_place_56 (by unfold findS; rw [e1, e2]; rfl) rfl
    | none =>
      refine lv_aload_n C.1 C.2.1 dX4_place_0 rfl (lv_at hl 0 rfl) ?_
      refine lv_iload_n C.1 C.2.1 dX4_place_1 rfl (lv_at hl 1 rfl) ?_
      refine lv_iload_n C.1 C.2.1 dX4_place_2 rfl (lv_at hl 3 rfl) ?_
      refine lv_iload_n C.1 C.2.1 dX4_place_3 rfl (lv_at hl 2 rfl) ?_
      refine lv_iconst (v := nI 0) C.1 C.2.1 dX4_place_4 (by decide +kernel) ?_
      refine cm_cS1 3 C (k_X4_homeBy1 l D cI cZ cJ (mw ad cI cZ X I A) key s0) tw_572 tw_573 tw_5 tw_574 rfl rfl (by decide +kernel) ⟨Nat.le_of_ble_eq_true rfl, Nat.le_of_ble_eq_true rfl⟩ ⟨Nat.zero_le _, Nat.zero_le _⟩ hP hD hS hl.1 rfl rfl (Nat.le_of_ble_eq_true rfl) dX4_place_5 (fun H locs hP hD hS => ?_)
      refine lv_iload_n C.1 C.2.1 dX4_place_8 rfl (lv_at hl 3 rfl) ?_
      refine cm_cV1 (q0 := 0) 3 C (k_X4_find l D cI cZ cJ ad X I A w (hm1 s0 key) hw0 (by omega) key) tw_581 tw_583 ts_13 tw_5 tw_584 rfl rfl (rfl) rfl (by decide +kernel) ⟨Nat.le_of_ble_eq_true rfl, Nat.le_of_ble_eq_true rfl⟩ ⟨Nat.zero_le _, Nat.zero_le _⟩ hP hD hS hl.1 rfl rfl (Nat.le_of_ble_eq_true rfl) dX4_place_9 (fun H locs hP hD hS => ?_)
      rw [e1, optA_none]
      refine lv_istore (lv' := [(4, _), (0, _), (1, _), (2, _), (3, _)]) C.1 C.2.1 dX4_place_12 hl (by decide) rfl (fun ls hl => ?_)
      refine lv_iload C.1 C.2.1 dX4_place_14 (lv_at hl 0 rfl) ?_
      refine lv_if_ge (tgt := 34) C.1 C.2.1 dX4_place_16 (by decide) (fun h => absurd h (by decide)) (fun _ => ?_)
      refine lv_aload_n C.1 C.2.1 dX4_place_19 rfl (lv_at hl 1 rfl) ?_
      refine lv_iload_n C.1 C.2.1 dX4_place_20 rfl (lv_at hl 2 rfl) ?_
      refine lv_iload_n C.1 C.2.1 dX4_place_21 rfl (lv_at hl 4 rfl) ?_
      refine lv_iload_n C.1 C.2.1 dX4_place_22 rfl (lv_at hl 3 rfl) ?_
      refine lv_iconst (v := nI 1) C.1 C.2.1 dX4_place_23 (by decide +kernel) ?_
      refine cm_cS1 3 C (k_X4_homeBy2 l D cI cZ cJ (mw ad cI cZ X I A) key s0) tw_572 tw_573 tw_5 tw_574 rfl rfl (by decide +kernel) ⟨Nat.le_of_ble_eq_true rfl, Nat.le_of_ble_eq_true rfl⟩ ⟨Nat.zero_le _, Nat.zero_le _⟩ hP hD hS hl.1 rfl rfl (Nat.le_of_ble_eq_true rfl) dX4_place_24 (fun H locs hP hD hS => ?_)
      refine lv_iload_n C.1 C.2.1 dX4_place_27 rfl (lv_at hl 4 rfl) ?_
      refine cm_cV1 (q0 := 0) 3 C (k_X4_find l D cI cZ cJ ad X I A w (hm2 s0 key) hw0 (by omega) key) tw_581 tw_583 ts_13 tw_5 tw_584 rfl rfl (rfl) rfl (by decide +kernel) ⟨Nat.le_of_ble_eq_true rfl, Nat.le_of_ble_eq_true rfl⟩ ⟨Nat.zero_le _, Nat.zero_le _⟩ hP hD hS hl.1 rfl rfl (Nat.le_of_ble_eq_true rfl) dX4_place_28 (fun H locs hP hD hS => ?_)
      rw [e2, optA_none]
      refine lv_goto (tgt := 36) C.1 C.2.1 dX4_place_31 (by decide) ?_
      refine lv_istore (lv' := [(4, _), (0, _), (1, _), (2, _), (3, _)]) C.1 C.2.1 dX4_place_36 hl (by decide) rfl (fun ls hl => ?_)
      refine lv_iload C.1 C.2.1 dX4_place_38 (lv_at hl 0 rfl) ?_
      refine lv_if_ge (tgt := 54) C.1 C.2.1 dX4_place_40 (by decide) (fun h => absurd h (by decide)) (fun _ => ?_)
      refine lv_aload_n C.1 C.2.1 dX4_place_43 rfl (lv_at hl 1 rfl) ?_
      refine lv_iload_n C.1 C.2.1 dX4_place_44 rfl (lv_at hl 2 rfl) ?_
      refine lv_bipush (v := nI 8) C.1 C.2.1 dX4_place_45 (by decide +kernel) ?_
      refine lv_iload_n C.1 C.2.1 dX4_place_47 rfl (lv_at hl 4 rfl) ?_
      refine cm_cV1 (q0 := 0) 3 C (k_X4_find l D cI cZ cJ ad X I A w (8) hw0 (by omega) key) tw_581 tw_583 ts_13 tw_5 tw_584 rfl rfl (rfl) rfl (by decide +kernel) ⟨Nat.le_of_ble_eq_true rfl, Nat.le_of_ble_eq_true rfl⟩ ⟨Nat.zero_le _, Nat.zero_le _⟩ hP hD hS hl.1 rfl rfl (Nat.le_of_ble_eq_true rfl) dX4_place_48 (fun H locs hP hD hS => ?_)
      skip
      refine lv_goto (tgt := 56) C.1 C.2.1 dX4_place_51 (by decide) ?_
      exact cm_iret C hP hD hS dX4_place_56 (by unfold findS; rw [e1, e2]) rfl
set_option maxHeartbeats 4000000 in
set_option maxRecDepth 100000 in
/-- thrown -/
theorem k_X4_thrown (l : Launch) (D : va_G) (cI cZ cJ : ClassId) (ad : Nat → Nat) (X : va_W) (I : Nat → Int32) (A : Nat → Nat → Int32) : CM l D (cm_T cI cZ cJ) yX4_thrown cX4_thrown 1 (some .int) (cm_rm 0 0) [.ref (ad 0)] (mw ad cI cZ X I A) (some (.int (I 0))) (mw ad cI cZ X I A) := by
  refine CM.of (by decide) (Nat.le_of_ble_eq_true rfl) ?_
  intro p e s m below meth c ls H locs C hl hP hD hS
  refine lv_aload_n C.1 C.2.1 dX4_thrown_0 rfl (lv_at hl 0 rfl) ?_
  refine va_get (ci := 4) (C := RX4) (T := TX4) (N := 34) C.1 C.2.1 C.2.2.2.2.2.1 ui_X4 C.2.2.2.2.1 C.2.2.2.2.2.2.2.1 hP 0 (rfl) rfl 0 (by decide) (C.2.2.2.2.2.1 _ tw_456) (fun _ h9 => h9) rfl dX4_thrown_1 ?_
  exact cm_iret C hP hD hS dX4_thrown_4 rfl rfl
set_option maxHeartbeats 4000000 in
set_option maxRecDepth 100000 in
/-- refused -/
theorem k_X4_refused (l : Launch) (D : va_G) (cI cZ cJ : ClassId) (ad : Nat → Nat) (X : va_W) (I : Nat → Int32) (A : Nat → Nat → Int32) (x : Int32) : CM l D (cm_T cI cZ cJ) yX4_refused cX4_refused 2 (some .boolean) (cm_rm 0 0) [.ref (ad 0), .int x] (mw ad cI cZ X I A) (some (.int (bI (decide (¬ x ≤ 0))))) (mw ad cI cZ X (va_up I 0 x) A) := by
  refine CM.of (by decide) (Nat.le_of_ble_eq_true rfl) ?_
  intro p e s m below meth c ls H locs C hl hP hD hS
  refine lv_aload_n C.1 C.2.1 dX4_refused_0 rfl (lv_at hl 0 rfl) ?_
  refine lv_iload_n C.1 C.2.1 dX4_refused_1 rfl (lv_at hl 1 rfl) ?_
  refine va_put (ci := 4) (C := RX4) (T := TX4) (N := 34) (ty := .int) C.1 C.2.1 C.2.2.2.2.2.1 ui_X4 tyX4 tyX4_ok nmX4 C.2.2.2.2.1 C.2.2.2.2.2.2.2.1 hP hD hS 0 (rfl) rfl 0 (by decide) (C.2.2.2.2.2.1 _ tw_456) (fun _ h9 => h9) rfl (by decide +kernel) rfl rfl (Nat.le_of_ble_eq_true rfl) dX4_refused_2 (fun H locs hP hD hS => ?_)
  refine lv_iload_n C.1 C.2.1 dX4_refused_5 rfl (lv_at hl 1 rfl) ?_
  refine lv_if_le (tgt := 13) C.1 C.2.1 dX4_refused_6 (by decide) (fun h6 => ?_) (fun h6 => ?_)
  · refine lv_iconst (v := nI 0) C.1 C.2.1 dX4_refused_13 (by decide +kernel) ?_
    exact cm_zret C hP hD hS dX4_refused_14 (by decide +kernel) (by simp only [bI]; simp [h6]) rfl
  · refine lv_iconst (v := nI 1) C.1 C.2.1 dX4_refused_9 (by decide +kernel) ?_
    refine lv_goto (tgt := 14) C.1 C.2.1 dX4_refused_10 (by decide) ?_
    exact cm_zret C hP hD hS dX4_refused_14 (by decide +kernel) (by simp only [bI]; simp [h6]) rfl
set_option maxHeartbeats 4000000 in
set_option maxRecDepth 100000 in
/-- usedFrom -/
theorem k_X4_usedFrom (l : Launch) (D : va_G) (cI cZ cJ : ClassId) (ad : Nat → Nat) (X : va_W) (I : Nat → Int32) (A : Nat → Nat → Int32) (a b : Nat) (hab : a ≤ b) (hb0 : b ≤ 108) : CM l D (cm_T cI cZ cJ) yX4_usedFrom cX4_usedFrom 5 (some .int) (cm_rm 0 0) [.ref (ad 0), .int (nI a), .int (nI b)] (mw ad cI cZ X I A) (some (.int (nI (cnt (fun i => decide (¬ A 1 i = 0)) a (b - a))))) (mw ad cI cZ X I A) := by
  refine CM.of (by decide) (Nat.le_of_ble_eq_true rfl) ?_
  intro p e s m below meth c ls H locs C hl hP hD hS
  refine lv_iconst (v := nI 0) C.1 C.2.1 dX4_usedFrom_0 (by decide +kernel) ?_
  refine lv_istore_n (lv' := [(3, _), (0, _), (1, _), (2, _)]) C.1 C.2.1 dX4_usedFrom_1 rfl hl (by decide) rfl (fun ls hl => ?_)
  refine lv_iload_n C.1 C.2.1 dX4_usedFrom_2 rfl (lv_at hl 2 rfl) ?_
  refine lv_istore (lv' := [(4, _), (3, _), (0, _), (1, _), (2, _)]) C.1 C.2.1 dX4_usedFrom_3 hl (by decide) rfl (fun ls hl => ?_)
  have loop : ∀ (k j : Nat) (n : Nat), j + k = b → ∀ (ls : Array Slot) (H : Heap) (locs : List Loc), lv_has ls 5 [(4, .int (nI j)), (3, .int (nI n)), (0, .ref (ad 0)), (1, .int (nI a)), (2, .int (nI b))] → va_P D vwCl (mw ad cI cZ X I A) H → va_D (cm_A (mw ad cI cZ X I A)) (mw ad cI cZ X I A) → va_S (cm_A (mw ad cI cZ X I A)) s.heap H locs → W p l e (cm_rm 0 0) s m ([.ref (ad 0), .int (nI a), .int (nI b)] : List Value).toArray below meth c H locs 0 0 (cm_Q below D [.ref (ad 0), .int (nI a), .int (nI b)] s (mw ad cI cZ X I A) (some (.int (nI (n + cnt (fun i => decide (¬ A 1 i = 0)) j k)))) (mw ad cI cZ X I A)) (F0 m 5 ls []) := by
    intro k
    induction k with
    | zero =>
      intro j n hj ls H locs hl hP hD hS
      refine lv_iload C.1 C.2.1 dX4_usedFrom_5 (lv_at hl 0 rfl) ?_
      refine lv_iload_n C.1 C.2.1 dX4_usedFrom_7 rfl (lv_at hl 4 rfl) ?_
      refine lv_icmp_ge (tgt := 35) C.1 C.2.1 dX4_usedFrom_8 (by decide) (fun _ => ?_) (fun h => absurd (nI_le (by omega) (by omega)) h)
      refine lv_iload_n C.1 C.2.1 dX4_usedFrom_35 rfl (lv_at hl 1 rfl) ?_
      exact cm_iret C hP hD hS dX4_usedFrom_36 rfl rfl
    | succ k ih =>
      intro j n hj ls H locs hl hP hD hS
      refine lv_iload C.1 C.2.1 dX4_usedFrom_5 (lv_at hl 0 rfl) ?_
      refine lv_iload_n C.1 C.2.1 dX4_usedFrom_7 rfl (lv_at hl 4 rfl) ?_
      refine lv_icmp_ge (tgt := 35) C.1 C.2.1 dX4_usedFrom_8 (by decide) (fun h => absurd h (nI_ge (by omega) (by omega))) (fun _ => ?_)
      refine lv_aload_n C.1 C.2.1 dX4_usedFrom_11 rfl (lv_at hl 2 rfl) ?_
      refine va_get (ci := 4) (C := RX4) (T := TX4) (N := 34) C.1 C.2.1 C.2.2.2.2.2.1 ui_X4 C.2.2.2.2.1 C.2.2.2.2.2.2.2.1 hP 0 (rfl) rfl 1 (by decide) (C.2.2.2.2.2.1 _ tw_457) (fun _ h9 => h9) rfl dX4_usedFrom_12 ?_
      refine lv_iload C.1 C.2.1 dX4_usedFrom_15 (lv_at hl 0 rfl) ?_
      refine va_zald C.1 C.2.1 C.2.2.2.2.2.2.2.1 hP 1 1 (rfl) rfl (vp_in_nI (by omega) (by decide)) dX4_usedFrom_17 ?_
      rw [nI_clamp (by omega)]
      refine lv_if_eq (tgt := 27) C.1 C.2.1 dX4_usedFrom_18 (by decide) (fun h18 => ?_) (fun h18 => ?_)
      · refine lv_iload_n C.1 C.2.1 dX4_usedFrom_27 rfl (lv_at hl 1 rfl) ?_
        refine lv_istore_n (lv' := [(3, _), (4, _), (0, _), (1, _), (2, _)]) C.1 C.2.1 dX4_usedFrom_28 rfl hl (by decide) rfl (fun ls hl => ?_)
        refine lv_iinc (v := nI (j + 1)) (lv' := [(4, _), (3, _), (0, _), (1, _), (2, _)]) C.1 C.2.1 dX4_usedFrom_29 hl (k := 1) rfl (nI_1 j) (by decide) rfl (fun ls hl => ?_)
        refine lv_goto (tgt := 5) C.1 C.2.1 dX4_usedFrom_32 (by decide) ?_
        rw [show n + cnt (fun i => decide (¬ A 1 i = 0)) j (k + 1) = n + cnt (fun i => decide (¬ A 1 i = 0)) (j + 1) k by rw [cntG]; simp [h18]]
        exact ih (j + 1) n (by omega) ls H locs hl hP hD hS
      · refine lv_iload_n C.1 C.2.1 dX4_usedFrom_21 rfl (lv_at hl 1 rfl) ?_
        refine lv_iconst (v := nI 1) C.1 C.2.1 dX4_usedFrom_22 (by decide +kernel) ?_
        refine lv_iadd C.1 C.2.1 dX4_usedFrom_23 ?_
        rw [nI_add]
        refine lv_goto (tgt := 28) C.1 C.2.1 dX4_usedFrom_24 (by decide) ?_
        refine lv_istore_n (lv' := [(3, _), (4, _), (0, _), (1, _), (2, _)]) C.1 C.2.1 dX4_usedFrom_28 rfl hl (by decide) rfl (fun ls hl => ?_)
        refine lv_iinc (v := nI (j + 1)) (lv' := [(4, _), (3, _), (0, _), (1, _), (2, _)]) C.1 C.2.1 dX4_usedFrom_29 hl (k := 1) rfl (nI_1 j) (by decide) rfl (fun ls hl => ?_)
        refine lv_goto (tgt := 5) C.1 C.2.1 dX4_usedFrom_32 (by decide) ?_
        rw [show n + cnt (fun i => decide (¬ A 1 i = 0)) j (k + 1) = (n + 1) + cnt (fun i => decide (¬ A 1 i = 0)) (j + 1) k by rw [cntG]; simp [h18]; omega]
        exact ih (j + 1) (n + 1) (by omega) ls H locs hl hP hD hS
  have hfin := loop (b - a) a 0 (by omega) ls H locs hl hP hD hS
  rw [Nat.zero_add] at hfin
  exact hfin
