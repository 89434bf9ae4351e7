/-! ===== Image's loops, Moves, Waiting ===== -/
/-- all before j is 0 -/
def zeroTo (f : Nat → Int32) (j : Nat) : Nat → Int32 := fun i => if i < j then nI 0 else f i
theorem zeroTo_0 (f : Nat → Int32) : zeroTo f 0 = f := by funext i; simp [zeroTo]
theorem zeroTo_s (f : Nat → Int32) (j : Nat) : upd (zeroTo f j) j (nI 0) = zeroTo f (j + 1) := by
  funext i
  by_cases h : i = j
  · subst h; simp [upd, zeroTo]
  · by_cases h2 : i < j
    · simp [upd, zeroTo, h, h2, Nat.lt_succ_of_lt h2]
    · have : ¬ i < j + 1 := by omega
      simp [upd, zeroTo, h, h2, this]
/-- the moves that a row tells: how many, and of each its SLOT, KEY and VALUE -/
def mP (fm : Nat → Int32) (j : Nat) : Nat := (fm (1 + j * 3)).toNatClampNeg
def mOk (fm : Nat → Int32) (t : Nat) : Prop := t ≤ 7 ∧ fm 0 = nI t ∧ ∀ j, j < t → fm (1 + j * 3) = nI (mP fm j) ∧ mP fm j < 72
def fillN (fm : Nat → Int32) : Nat → Nat → (Nat → Int32) → (Nat → Int32)
  | _, 0, f => f
  | j, k + 1, f => fillN fm (j + 1) k (fillC f (mP fm j) (fm (2 + j * 3)) (fm (3 + j * 3)))
def saysP (fm : Nat → Int32) (x : Int32) (j : Nat) : Bool := decide (fm (1 + j * 3) = x)
/-- the WRITES from j on, k of them, done upon g -/
def doN (fr fw : Nat → Int32) : Nat → Nat → (Nat → Int32) → (Nat → Int32)
  | _, 0, g => g
  | j, k + 1, g => doN fr fw (j + 1) k (va_cpy fw g (j * 22) ((fr j).toNatClampNeg * 22) 22)
def addM (fm : Nat → Int32) (t : Nat) (a k v : Int32) : Nat → Int32 := upd (upd (upd (upd fm (1 + t * 3) a) (2 + t * 3) k) (3 + t * 3) v) 0 (nI (t + 1))
set_option maxHeartbeats 4000000 in
set_option maxRecDepth 100000 in
/-- keysIn -/
theorem k_X0_keysIn (l : Launch) (D : va_G) (cI cZ cJ : ClassId) (ws : va_W) {qI qA im ad : Nat} {f : Nat → Int32} (hI : ws[qI]? = some (im, .inr (0, [.ref ad]))) (hA : ws[qA]? = some (ad, .inl (cI, 440, .inl f))) (r : Nat) (hr : r < 20) : CM l D (cm_T cI cZ cJ) yX0_keysIn cX0_keysIn 4 (some .int) (cm_rm 1 23) [.ref im, .int (nI r)] ws (some (.int (nI (cnt (fun i => !emP f r i) 0 4)))) (ws) := by
  refine CM.of (by decide) (Nat.le_of_ble_eq_true rfl) ?_
  intro p e s m below meth c ls H locs C hl hP hD hS
  refine lv_iconst (v := nI 0) C.1 C.2.1 dX0_keysIn_0 (by decide +kernel) ?_
  refine lv_istore_n (lv' := [(2, _), (0, _), (1, _)]) C.1 C.2.1 dX0_keysIn_1 rfl hl (by decide) rfl (fun ls hl => ?_)
  refine lv_iconst (v := nI 0) C.1 C.2.1 dX0_keysIn_2 (by decide +kernel) ?_
  refine lv_istore_n (lv' := [(3, _), (2, _), (0, _), (1, _)]) C.1 C.2.1 dX0_keysIn_3 rfl hl (by decide) rfl (fun ls hl => ?_)
  have loop : ∀ (k j : Nat) (n : Nat), j + k = 4 → ∀ (ls : Array Slot) (H : Heap) (locs : List Loc), lv_has ls 4 [(3, .int (nI j)), (2, .int (nI n)), (0, .ref im), (1, .int (nI r))] → va_P D vwCl (ws) H → va_D (cm_A ws) (ws) → va_S (cm_A ws) s.heap H locs → W p l e (cm_rm 1 23) s m ([.ref im, .int (nI r)] : List Value).toArray below meth c H locs 0 0 (cm_Q below D [.ref im, .int (nI r)] s ws (some (.int (nI (n + cnt (fun i => !emP f r i) j k)))) (ws)) (F0 m 4 ls []) := by
    intro k
    induction k with
    | zero =>
      intro j n hj ls H locs hl hP hD hS
      refine lv_iload_n C.1 C.2.1 dX0_keysIn_4 rfl (lv_at hl 0 rfl) ?_
      refine lv_iconst (v := nI 4) C.1 C.2.1 dX0_keysIn_5 (by decide +kernel) ?_
      refine lv_icmp_ge (tgt := 32) C.1 C.2.1 dX0_keysIn_6 (by decide) (fun _ => ?_) (fun h => absurd (nI_le (by omega) (by omega)) h)
      refine lv_iload_n C.1 C.2.1 dX0_keysIn_32 rfl (lv_at hl 1 rfl) ?_
      exact cm_iret C hP hD hS dX0_keysIn_33 rfl rfl
    | succ k ih =>
      intro j n hj ls H locs hl hP hD hS
      refine lv_iload_n C.1 C.2.1 dX0_keysIn_4 rfl (lv_at hl 0 rfl) ?_
      refine lv_iconst (v := nI 4) C.1 C.2.1 dX0_keysIn_5 (by decide +kernel) ?_
      refine lv_icmp_ge (tgt := 32) C.1 C.2.1 dX0_keysIn_6 (by decide) (fun h => absurd h (nI_ge (by omega) (by decide))) (fun _ => ?_)
      refine lv_aload_n C.1 C.2.1 dX0_keysIn_9 rfl (lv_at hl 2 rfl) ?_
      refine va_get (ci := 0) (C := RX0) (T := TX0) (N := 1) C.1 C.2.1 C.2.2.2.2.2.1 ui_X0 C.2.2.2.2.1 C.2.2.2.2.2.2.2.1 hP qI (hI) rfl 0 (by decide) (C.2.2.2.2.2.1 _ tw_27) (fun _ h9 => h9) rfl dX0_keysIn_10 ?_
      refine lv_iload_n C.1 C.2.1 dX0_keysIn_13 rfl (lv_at hl 3 rfl) ?_
      refine lv_iload_n C.1 C.2.1 dX0_keysIn_14 rfl (lv_at hl 0 rfl) ?_
      refine lv_iconst (v := nI 3) C.1 C.2.1 dX0_keysIn_15 (by decide +kernel) ?_
      refine lv_imul C.1 C.2.1 dX0_keysIn_16 ?_
      rw [pk_mul]
      refine cm_cN1 (host := RX3) 3 C (c_cellAt l D cI cZ cJ _ hA (by decide) (r) (j * 3) (by omega)) tw_106 rfl rfl (C.2.2.2.2.2.2.2.2.1) tw_1 tw_105 (by decide +kernel) ⟨Nat.le_of_ble_eq_true rfl, Nat.le_of_ble_eq_true rfl⟩ ⟨Nat.zero_le _, Nat.zero_le _⟩ hP hD hS hl.1 rfl rfl (Nat.le_of_ble_eq_true rfl) dX0_keysIn_17 (fun H locs hP hD hS => ?_)
      refine lv_if_eq (tgt := 26) C.1 C.2.1 dX0_keysIn_20 (by decide) (fun h20 => ?_) (fun h20 => ?_)
      · refine lv_iinc (v := nI (j + 1)) (lv' := [(3, _), (2, _), (0, _), (1, _)]) C.1 C.2.1 dX0_keysIn_26 hl (k := 0) rfl (nI_1 j) (by decide) rfl (fun ls hl => ?_)
        refine lv_goto (tgt := 4) C.1 C.2.1 dX0_keysIn_29 (by decide) ?_
        rw [show n + cnt (fun i => !emP f r i) j (k + 1) = n + cnt (fun i => !emP f r i) (j + 1) k by simp [cnt, emP, h20]]
        exact ih (j + 1) n (by omega) ls H locs hl hP hD hS
      · refine lv_iinc (v := nI (n + 1)) (lv' := [(2, _), (3, _), (0, _), (1, _)]) C.1 C.2.1 dX0_keysIn_23 hl (k := 1) rfl (nI_1 n) (by decide) rfl (fun ls hl => ?_)
        refine lv_iinc (v := nI (j + 1)) (lv' := [(3, _), (2, _), (0, _), (1, _)]) C.1 C.2.1 dX0_keysIn_26 hl (k := 1) rfl (nI_1 j) (by decide) rfl (fun ls hl => ?_)
        refine lv_goto (tgt := 4) C.1 C.2.1 dX0_keysIn_29 (by decide) ?_
        rw [show n + cnt (fun i => !emP f r i) j (k + 1) = (n + 1) + cnt (fun i => !emP f r i) (j + 1) k by simp [cnt, emP, h20]; omega]
        exact ih (j + 1) (n + 1) (by omega) ls H locs hl hP hD hS
  have h := loop 4 0 0 rfl ls H locs hl hP hD hS
  rw [Nat.zero_add] at h
  exact h
set_option maxHeartbeats 4000000 in
set_option maxRecDepth 100000 in
/-- emptyAll -/
theorem k_X0_emptyAll (l : Launch) (D : va_G) (cI cZ cJ : ClassId) (ws : va_W) {qI qA im ad : Nat} {f : Nat → Int32} (hI : ws[qI]? = some (im, .inr (0, [.ref ad]))) (hA : ws[qA]? = some (ad, .inl (cI, 440, .inl f))) (hq : qI ≠ qA) : CM l D (cm_T cI cZ cJ) yX0_emptyAll cX0_emptyAll 2 none (cm_rm 0 0) [.ref im] ws none (ws.set qA (ad, .inl (cI, 440, .inl (zeroTo f 440)))) := by
  refine CM.of (by decide) (Nat.le_of_ble_eq_true rfl) ?_
  intro p e s m below meth c ls H locs C hl hP hD hS
  refine lv_iconst (v := nI 0) C.1 C.2.1 dX0_emptyAll_0 (by decide +kernel) ?_
  refine lv_istore_n (lv' := [(1, _), (0, _)]) C.1 C.2.1 dX0_emptyAll_1 rfl hl (by decide) rfl (fun ls hl => ?_)
  have loop : ∀ (k j : Nat), j + k = 440 → ∀ (ls : Array Slot) (H : Heap) (locs : List Loc), lv_has ls 2 [(1, .int (nI j)), (0, .ref im)] → va_P D vwCl (ws.set qA (ad, .inl (cI, 440, .inl (zeroTo f j)))) H → va_D (cm_A ws) (ws.set qA (ad, .inl (cI, 440, .inl (zeroTo f j)))) → va_S (cm_A ws) s.heap H locs → W p l e (cm_rm 0 0) s m ([.ref im] : List Value).toArray below meth c H locs 0 0 (cm_Q below D [.ref im] s ws none (ws.set qA (ad, .inl (cI, 440, .inl (zeroTo f 440))))) (F0 m 2 ls []) := by
    intro k
    induction k with
    | zero =>
      intro j hj ls H locs hl hP hD hS
      refine lv_iload_n C.1 C.2.1 dX0_emptyAll_2 rfl (lv_at hl 0 rfl) ?_
      refine lv_aload_n C.1 C.2.1 dX0_emptyAll_3 rfl (lv_at hl 1 rfl) ?_
      refine va_get (ci := 0) (C := RX0) (T := TX0) (N := 1) C.1 C.2.1 C.2.2.2.2.2.1 ui_X0 C.2.2.2.2.1 C.2.2.2.2.2.2.2.1 hP qI (ws_ne hq hI) rfl 0 (by decide) (C.2.2.2.2.2.1 _ tw_27) (fun _ h9 => h9) rfl dX0_emptyAll_4 ?_
      refine va_alen C.1 C.2.1 C.2.2.2.2.2.2.2.1 hP qA 0 (ws_self hA) rfl (v := nI 440) rfl dX0_emptyAll_7 ?_
      refine lv_icmp_ge (tgt := 24) C.1 C.2.1 dX0_emptyAll_8 (by decide) (fun _ => ?_) (fun h => absurd (nI_le (by omega) (by omega)) h)
      obtain rfl : j = 440 := by omega
      exact cm_vret C hP hD hS dX0_emptyAll_24 rfl
    | succ k ih =>
      intro j hj ls H locs hl hP hD hS
      refine lv_iload_n C.1 C.2.1 dX0_emptyAll_2 rfl (lv_at hl 0 rfl) ?_
      refine lv_aload_n C.1 C.2.1 dX0_emptyAll_3 rfl (lv_at hl 1 rfl) ?_
      refine va_get (ci := 0) (C := RX0) (T := TX0) (N := 1) C.1 C.2.1 C.2.2.2.2.2.1 ui_X0 C.2.2.2.2.1 C.2.2.2.2.2.2.2.1 hP qI (ws_ne hq hI) rfl 0 (by decide) (C.2.2.2.2.2.1 _ tw_27) (fun _ h9 => h9) rfl dX0_emptyAll_4 ?_
      refine va_alen C.1 C.2.1 C.2.2.2.2.2.2.2.1 hP qA 0 (ws_self hA) rfl (v := nI 440) rfl dX0_emptyAll_7 ?_
      refine lv_icmp_ge (tgt := 24) C.1 C.2.1 dX0_emptyAll_8 (by decide) (fun h => absurd h (nI_ge (by omega) (by decide))) (fun _ => ?_)
      refine lv_aload_n C.1 C.2.1 dX0_emptyAll_11 rfl (lv_at hl 1 rfl) ?_
      refine va_get (ci := 0) (C := RX0) (T := TX0) (N := 1) C.1 C.2.1 C.2.2.2.2.2.1 ui_X0 C.2.2.2.2.1 C.2.2.2.2.2.2.2.1 hP qI (ws_ne hq hI) rfl 0 (by decide) (C.2.2.2.2.2.1 _ tw_27) (fun _ h9 => h9) rfl dX0_emptyAll_12 ?_
      refine lv_iload_n C.1 C.2.1 dX0_emptyAll_15 rfl (lv_at hl 0 rfl) ?_
      refine lv_iconst (v := nI 0) C.1 C.2.1 dX0_emptyAll_16 (by decide +kernel) ?_
      refine va_iast C.1 C.2.1 C.2.2.2.2.2.2.2.1 hP hD hS qA 0 (ws_self hA) rfl (vp_in_nI (by omega) (by decide)) dX0_emptyAll_17 (fun H locs hP hD hS => ?_)
      refine lv_iinc (v := nI (j + 1)) (lv' := [(1, _), (0, _)]) C.1 C.2.1 dX0_emptyAll_18 hl (k := 0) rfl (nI_1 j) (by decide) rfl (fun ls hl => ?_)
      refine lv_goto (tgt := 2) C.1 C.2.1 dX0_emptyAll_21 (by decide) ?_
      rw [List.set_set, nI_clamp (by omega), zeroTo_s] at hP hD
      exact ih (j + 1) (by omega) ls H locs hl hP hD hS
  have hs : ws.set qA (ad, .inl (cI, 440, .inl (zeroTo f 0))) = ws := by rw [zeroTo_0]; exact ws_id hA
  exact loop 440 0 rfl ls H locs hl (by rw [hs]; exact hP) (by rw [hs]; exact hD) hS
set_option maxHeartbeats 4000000 in
set_option maxRecDepth 100000 in
/-- size -/
theorem k_X1_size (l : Launch) (D : va_G) (cI cZ cJ : ClassId) (ws : va_W) {qM qN mv an : Nat} {fm : Nat → Int32} (hM : ws[qM]? = some (mv, .inr (1, [.ref an]))) (hN : ws[qN]? = some (an, .inl (cI, 22, .inl fm))) : CM l D (cm_T cI cZ cJ) yX1_size cX1_size 1 (some .int) (cm_rm 1 23) [.ref mv] ws (some (.int (fm 0))) (ws) := by
  refine CM.of (by decide) (Nat.le_of_ble_eq_true rfl) ?_
  intro p e s m below meth c ls H locs C hl hP hD hS
  refine lv_aload_n C.1 C.2.1 dX1_size_0 rfl (lv_at hl 0 rfl) ?_
  refine va_get (ci := 1) (C := RX1) (T := TX1) (N := 1) C.1 C.2.1 C.2.2.2.2.2.1 ui_X1 C.2.2.2.2.1 C.2.2.2.2.2.2.2.1 hP qM (hM) rfl 0 (by decide) (C.2.2.2.2.2.1 _ tw_56) (fun _ h9 => h9) rfl dX1_size_1 ?_
  refine lv_iconst (v := nI 0) C.1 C.2.1 dX1_size_4 (by decide +kernel) ?_
  refine lv_iconst (v := nI 0) C.1 C.2.1 dX1_size_5 (by decide +kernel) ?_
  refine cm_cN1 (host := RX3) 3 C (c_cellAt l D cI cZ cJ _ hN (by decide) (0) (0) (by decide)) tw_106 rfl rfl (C.2.2.2.2.2.2.2.2.2.2.2.2.2.2.1) tw_1 tw_105 (by decide +kernel) ⟨Nat.le_of_ble_eq_true rfl, Nat.le_of_ble_eq_true rfl⟩ ⟨Nat.zero_le _, Nat.zero_le _⟩ hP hD hS hl.1 rfl rfl (Nat.le_of_ble_eq_true rfl) dX1_size_6 (fun H locs hP hD hS => ?_)
  exact cm_iret C hP hD hS dX1_size_9 (rfl) (rfl)
set_option maxHeartbeats 4000000 in
set_option maxRecDepth 100000 in
/-- X1_placeAt -/
theorem k_X1_placeAt (l : Launch) (D : va_G) (cI cZ cJ : ClassId) (ws : va_W) {qM qN mv an : Nat} {fm : Nat → Int32} (hM : ws[qM]? = some (mv, .inr (1, [.ref an]))) (hN : ws[qN]? = some (an, .inl (cI, 22, .inl fm))) (t : Nat) (ht : t < 7) : CM l D (cm_T cI cZ cJ) yX1_placeAt cX1_placeAt 2 (some .int) (cm_rm 1 23) [.ref mv, .int (nI t)] ws (some (.int (fm (1 + t * 3)))) (ws) := by
  refine CM.of (by decide) (Nat.le_of_ble_eq_true rfl) ?_
  intro p e s m below meth c ls H locs C hl hP hD hS
  refine lv_aload_n C.1 C.2.1 dX1_placeAt_0 rfl (lv_at hl 0 rfl) ?_
  refine va_get (ci := 1) (C := RX1) (T := TX1) (N := 1) C.1 C.2.1 C.2.2.2.2.2.1 ui_X1 C.2.2.2.2.1 C.2.2.2.2.2.2.2.1 hP qM (hM) rfl 0 (by decide) (C.2.2.2.2.2.1 _ tw_56) (fun _ h9 => h9) rfl dX1_placeAt_1 ?_
  refine lv_iconst (v := nI 0) C.1 C.2.1 dX1_placeAt_4 (by decide +kernel) ?_
  refine lv_iconst (v := nI 1) C.1 C.2.1 dX1_placeAt_5 (by decide +kernel) ?_
  refine lv_iload_n C.1 C.2.1 dX1_placeAt_6 rfl (lv_at hl 1 rfl) ?_
  refine lv_iconst (v := nI 3) C.1 C.2.1 dX1_placeAt_7 (by decide +kernel) ?_
  refine lv_imul C.1 C.2.1 dX1_placeAt_8 ?_
  rw [pk_mul]
  refine lv_iadd C.1 C.2.1 dX1_placeAt_9 ?_
  rw [nI_add]
  refine cm_cN1 (host := RX3) 3 C (c_cellAt l D cI cZ cJ _ hN (by decide) (0) (1 + t * 3) (by omega)) tw_106 rfl rfl (C.2.2.2.2.2.2.2.2.2.2.2.2.2.2.1) tw_1 tw_105 (by decide +kernel) ⟨Nat.le_of_ble_eq_true rfl, Nat.le_of_ble_eq_true rfl⟩ ⟨Nat.zero_le _, Nat.zero_le _⟩ hP hD hS hl.1 rfl rfl (Nat.le_of_ble_eq_true rfl) dX1_placeAt_10 (fun H locs hP hD hS => ?_)
  exact cm_iret C hP hD hS dX1_placeAt_13 (by rw [Nat.zero_mul, Nat.zero_add]) (rfl)
set_option maxHeartbeats 4000000 in
set_option maxRecDepth 100000 in
/-- X1_keyAt -/
theorem k_X1_keyAt (l : Launch) (D : va_G) (cI cZ cJ : ClassId) (ws : va_W) {qM qN mv an : Nat} {fm : Nat → Int32} (hM : ws[qM]? = some (mv, .inr (1, [.ref an]))) (hN : ws[qN]? = some (an, .inl (cI, 22, .inl fm))) (t : Nat) (ht : t < 7) : CM l D (cm_T cI cZ cJ) yX1_keyAt cX1_keyAt 2 (some .int) (cm_rm 1 23) [.ref mv, .int (nI t)] ws (some (.int (fm (2 + t * 3)))) (ws) := by
  refine CM.of (by decide) (Nat.le_of_ble_eq_true rfl) ?_
  intro p e s m below meth c ls H locs C hl hP hD hS
  refine lv_aload_n C.1 C.2.1 dX1_keyAt_0 rfl (lv_at hl 0 rfl) ?_
  refine va_get (ci := 1) (C := RX1) (T := TX1) (N := 1) C.1 C.2.1 C.2.2.2.2.2.1 ui_X1 C.2.2.2.2.1 C.2.2.2.2.2.2.2.1 hP qM (hM) rfl 0 (by decide) (C.2.2.2.2.2.1 _ tw_56) (fun _ h9 => h9) rfl dX1_keyAt_1 ?_
  refine lv_iconst (v := nI 0) C.1 C.2.1 dX1_keyAt_4 (by decide +kernel) ?_
  refine lv_iconst (v := nI 2) C.1 C.2.1 dX1_keyAt_5 (by decide +kernel) ?_
  refine lv_iload_n C.1 C.2.1 dX1_keyAt_6 rfl (lv_at hl 1 rfl) ?_
  refine lv_iconst (v := nI 3) C.1 C.2.1 dX1_keyAt_7 (by decide +kernel) ?_
  refine lv_imul C.1 C.2.1 dX1_keyAt_8 ?_
  rw [pk_mul]
  refine lv_iadd C.1 C.2.1 dX1_keyAt_9 ?_
  rw [nI_add]
  refine cm_cN1 (host := RX3) 3 C (c_cellAt l D cI cZ cJ _ hN (by decide) (0) (2 + t * 3) (by omega)) tw_106 rfl rfl (C.2.2.2.2.2.2.2.2.2.2.2.2.2.2.1) tw_1 tw_105 (by decide +kernel) ⟨Nat.le_of_ble_eq_true rfl, Nat.le_of_ble_eq_true rfl⟩ ⟨Nat.zero_le _, Nat.zero_le _⟩ hP hD hS hl.1 rfl rfl (Nat.le_of_ble_eq_true rfl) dX1_keyAt_10 (fun H locs hP hD hS => ?_)
  exact cm_iret C hP hD hS dX1_keyAt_13 (by rw [Nat.zero_mul, Nat.zero_add]) (rfl)
set_option maxHeartbeats 4000000 in
set_option maxRecDepth 100000 in
/-- X1_valueAt -/
theorem k_X1_valueAt (l : Launch) (D : va_G) (cI cZ cJ : ClassId) (ws : va_W) {qM qN mv an : Nat} {fm : Nat → Int32} (hM : ws[qM]? = some (mv, .inr (1, [.ref an]))) (hN : ws[qN]? = some (an, .inl (cI, 22, .inl fm))) (t : Nat) (ht : t < 7) : CM l D (cm_T cI cZ cJ) yX1_valueAt cX1_valueAt 2 (some .int) (cm_rm 1 23) [.ref mv, .int (nI t)] ws (some (.int (fm (3 + t * 3)))) (ws) := by
  refine CM.of (by decide) (Nat.le_of_ble_eq_true rfl) ?_
  intro p e s m below meth c ls H locs C hl hP hD hS
  refine lv_aload_n C.1 C.2.1 dX1_valueAt_0 rfl (lv_at hl 0 rfl) ?_
  refine va_get (ci := 1) (C := RX1) (T := TX1) (N := 1) C.1 C.2.1 C.2.2.2.2.2.1 ui_X1 C.2.2.2.2.1 C.2.2.2.2.2.2.2.1 hP qM (hM) rfl 0 (by decide) (C.2.2.2.2.2.1 _ tw_56) (fun _ h9 => h9) rfl dX1_valueAt_1 ?_
  refine lv_iconst (v := nI 0) C.1 C.2.1 dX1_valueAt_4 (by decide +kernel) ?_
  refine lv_iconst (v := nI 3) C.1 C.2.1 dX1_valueAt_5 (by decide +kernel) ?_
  refine lv_iload_n C.1 C.2.1 dX1_valueAt_6 rfl (lv_at hl 1 rfl) ?_
  refine lv_iconst (v := nI 3) C.1 C.2.1 dX1_valueAt_7 (by decide +kernel) ?_
  refine lv_imul C.1 C.2.1 dX1_valueAt_8 ?_
  rw [pk_mul]
  refine lv_iadd C.1 C.2.1 dX1_valueAt_9 ?_
  rw [nI_add]
  refine cm_cN1 (host := RX3) 3 C (c_cellAt l D cI cZ cJ _ hN (by decide) (0) (3 + t * 3) (by omega)) tw_106 rfl rfl (C.2.2.2.2.2.2.2.2.2.2.2.2.2.2.1) tw_1 tw_105 (by decide +kernel) ⟨Nat.le_of_ble_eq_true rfl, Nat.le_of_ble_eq_true rfl⟩ ⟨Nat.zero_le _, Nat.zero_le _⟩ hP hD hS hl.1 rfl rfl (Nat.le_of_ble_eq_true rfl) dX1_valueAt_10 (fun H locs hP hD hS => ?_)
  exact cm_iret C hP hD hS dX1_valueAt_13 (by rw [Nat.zero_mul, Nat.zero_add]) (rfl)
set_option maxHeartbeats 4000000 in
set_option maxRecDepth 100000 in
/-- tellNothing -/
theorem k_X1_tellNothing (l : Launch) (D : va_G) (cI cZ cJ : ClassId) (ws : va_W) {qM qN mv an : Nat} {fm : Nat → Int32} (hM : ws[qM]? = some (mv, .inr (1, [.ref an]))) (hN : ws[qN]? = some (an, .inl (cI, 22, .inl fm))) : CM l D (cm_T cI cZ cJ) yX1_tellNothing cX1_tellNothing 1 none (cm_rm 1 24) [.ref mv] ws none (ws.set qN (an, .inl (cI, 22, .inl (upd fm 0 (nI 0))))) := by
  refine CM.of (by decide) (Nat.le_of_ble_eq_true rfl) ?_
  intro p e s m below meth c ls H locs C hl hP hD hS
  refine lv_aload_n C.1 C.2.1 dX1_tellNothing_0 rfl (lv_at hl 0 rfl) ?_
  refine va_get (ci := 1) (C := RX1) (T := TX1) (N := 1) C.1 C.2.1 C.2.2.2.2.2.1 ui_X1 C.2.2.2.2.1 C.2.2.2.2.2.2.2.1 hP qM (hM) rfl 0 (by decide) (C.2.2.2.2.2.1 _ tw_56) (fun _ h9 => h9) rfl dX1_tellNothing_1 ?_
  refine lv_iconst (v := nI 0) C.1 C.2.1 dX1_tellNothing_4 (by decide +kernel) ?_
  refine lv_iconst (v := nI 0) C.1 C.2.1 dX1_tellNothing_5 (by decide +kernel) ?_
  refine lv_iconst (v := nI 0) C.1 C.2.1 dX1_tellNothing_6 (by decide +kernel) ?_
  refine cm_cN0 (host := RX3) 4 C (c_tellCell l D cI cZ cJ _ hN (by decide) (0) (0) (nI 0) (by decide)) tw_145 rfl rfl (C.2.2.2.2.2.2.2.2.2.2.2.2.2.2.2.1) tw_1 tw_144 (by decide +kernel) ⟨Nat.le_of_ble_eq_true rfl, Nat.le_of_ble_eq_true rfl⟩ ⟨Nat.zero_le _, Nat.zero_le _⟩ hP hD hS hl.1 rfl rfl (Nat.le_of_ble_eq_true rfl) dX1_tellNothing_7 (fun H locs hP hD hS => ?_)
  exact cm_vret C hP hD hS dX1_tellNothing_10 (rfl)
set_option maxHeartbeats 4000000 in
set_option maxRecDepth 100000 in
/-- add -/
theorem k_X1_add (l : Launch) (D : va_G) (cI cZ cJ : ClassId) (ws : va_W) {qM qN mv an : Nat} {fm : Nat → Int32} (hM : ws[qM]? = some (mv, .inr (1, [.ref an]))) (hN : ws[qN]? = some (an, .inl (cI, 22, .inl fm))) (hqm : qM ≠ qN) (t : Nat) (ht : t < 7) (h0 : fm 0 = nI t) (a k v : Int32) : CM l D (cm_T cI cZ cJ) yX1_add cX1_add 5 none (cm_rm 2 43) [.ref mv, .int a, .int k, .int v] ws none (ws.set qN (an, .inl (cI, 22, .inl (addM fm t a k v)))) := by
  refine CM.of (by decide) (Nat.le_of_ble_eq_true rfl) ?_
  intro p e s m below meth c ls H locs C hl hP hD hS
  refine lv_aload_n C.1 C.2.1 dX1_add_0 rfl (lv_at hl 0 rfl) ?_
  refine cm_cV1 (q0 := qM) 0 C (k_X1_size l D cI cZ cJ _ hM hN) tw_150 tw_151 tw_152 tw_4 tw_153 rfl rfl (hM) rfl (by decide +kernel) ⟨Nat.le_of_ble_eq_true rfl, Nat.le_of_ble_eq_true rfl⟩ ⟨Nat.zero_le _, Nat.zero_le _⟩ hP hD hS hl.1 rfl rfl (Nat.le_of_ble_eq_true rfl) dX1_add_1 (fun H locs hP hD hS => ?_)
  rw [h0]
  refine lv_istore (lv' := [(4, _), (0, _), (1, _), (2, _), (3, _)]) C.1 C.2.1 dX1_add_4 hl (by decide) rfl (fun ls hl => ?_)
  refine lv_iload C.1 C.2.1 dX1_add_6 (lv_at hl 0 rfl) ?_
  refine lv_bipush (v := nI 7) C.1 C.2.1 dX1_add_8 (by decide +kernel) ?_
  refine lv_icmp_ge (tgt := 71) C.1 C.2.1 dX1_add_10 (by decide) (fun h => absurd h (nI_ge ht (by decide))) (fun _ => ?_)
  refine lv_aload_n C.1 C.2.1 dX1_add_13 rfl (lv_at hl 1 rfl) ?_
  refine va_get (ci := 1) (C := RX1) (T := TX1) (N := 1) C.1 C.2.1 C.2.2.2.2.2.1 ui_X1 C.2.2.2.2.1 C.2.2.2.2.2.2.2.1 hP qM (hM) rfl 0 (by decide) (C.2.2.2.2.2.1 _ tw_56) (fun _ h9 => h9) rfl dX1_add_14 ?_
  refine lv_iconst (v := nI 0) C.1 C.2.1 dX1_add_17 (by decide +kernel) ?_
  refine lv_iconst (v := nI 1) C.1 C.2.1 dX1_add_18 (by decide +kernel) ?_
  refine lv_iload C.1 C.2.1 dX1_add_19 (lv_at hl 0 rfl) ?_
  refine lv_iconst (v := nI 3) C.1 C.2.1 dX1_add_21 (by decide +kernel) ?_
  refine lv_imul C.1 C.2.1 dX1_add_22 ?_
  rw [pk_mul]
  refine lv_iadd C.1 C.2.1 dX1_add_23 ?_
  rw [nI_add]
  refine lv_iload_n C.1 C.2.1 dX1_add_24 rfl (lv_at hl 2 rfl) ?_
  refine cm_cN0 (host := RX3) 4 C (c_tellCell l D cI cZ cJ _ hN (by decide) (0) (1 + t * 3) (a) (by omega)) tw_145 rfl rfl (C.2.2.2.2.2.2.2.2.2.2.2.2.2.2.2.1) tw_1 tw_144 (by decide +kernel) ⟨Nat.le_of_ble_eq_true rfl, Nat.le_of_ble_eq_true rfl⟩ ⟨Nat.zero_le _, Nat.zero_le _⟩ hP hD hS hl.1 rfl rfl (Nat.le_of_ble_eq_true rfl) dX1_add_25 (fun H locs hP hD hS => ?_)
  refine lv_aload_n C.1 C.2.1 dX1_add_28 rfl (lv_at hl 1 rfl) ?_
  refine va_get (ci := 1) (C := RX1) (T := TX1) (N := 1) C.1 C.2.1 C.2.2.2.2.2.1 ui_X1 C.2.2.2.2.1 C.2.2.2.2.2.2.2.1 hP qM (ws_ne hqm hM) rfl 0 (by decide) (C.2.2.2.2.2.1 _ tw_56) (fun _ h9 => h9) rfl dX1_add_29 ?_
  refine lv_iconst (v := nI 0) C.1 C.2.1 dX1_add_32 (by decide +kernel) ?_
  refine lv_iconst (v := nI 2) C.1 C.2.1 dX1_add_33 (by decide +kernel) ?_
  refine lv_iload C.1 C.2.1 dX1_add_34 (lv_at hl 0 rfl) ?_
  refine lv_iconst (v := nI 3) C.1 C.2.1 dX1_add_36 (by decide +kernel) ?_
  refine lv_imul C.1 C.2.1 dX1_add_37 ?_
  rw [pk_mul]
  refine lv_iadd C.1 C.2.1 dX1_add_38 ?_
  rw [nI_add]
  refine lv_iload_n C.1 C.2.1 dX1_add_39 rfl (lv_at hl 3 rfl) ?_
  refine cm_cN0 (host := RX3) 4 C (c_tellCell l D cI cZ cJ _ (ws_self hN) (by decide) (0) (2 + t * 3) (k) (by omega)) tw_145 rfl rfl (C.2.2.2.2.2.2.2.2.2.2.2.2.2.2.2.1) tw_1 tw_144 (by decide +kernel) ⟨Nat.le_of_ble_eq_true rfl, Nat.le_of_ble_eq_true rfl⟩ ⟨Nat.zero_le _, Nat.zero_le _⟩ hP hD hS hl.1 rfl rfl (Nat.le_of_ble_eq_true rfl) dX1_add_40 (fun H locs hP hD hS => ?_)
  rw [List.set_set] at hP hD
  refine lv_aload_n C.1 C.2.1 dX1_add_43 rfl (lv_at hl 1 rfl) ?_
  refine va_get (ci := 1) (C := RX1) (T := TX1) (N := 1) C.1 C.2.1 C.2.2.2.2.2.1 ui_X1 C.2.2.2.2.1 C.2.2.2.2.2.2.2.1 hP qM (ws_ne hqm hM) rfl 0 (by decide) (C.2.2.2.2.2.1 _ tw_56) (fun _ h9 => h9) rfl dX1_add_44 ?_
  refine lv_iconst (v := nI 0) C.1 C.2.1 dX1_add_47 (by decide +kernel) ?_
  refine lv_iconst (v := nI 3) C.1 C.2.1 dX1_add_48 (by decide +kernel) ?_
  refine lv_iload C.1 C.2.1 dX1_add_49 (lv_at hl 0 rfl) ?_
  refine lv_iconst (v := nI 3) C.1 C.2.1 dX1_add_51 (by decide +kernel) ?_
  refine lv_imul C.1 C.2.1 dX1_add_52 ?_
  rw [pk_mul]
  refine lv_iadd C.1 C.2.1 dX1_add_53 ?_
  rw [nI_add]
  refine lv_iload_n C.1 C.2.1 dX1_add_54 rfl (lv_at hl 4 rfl) ?_
  refine cm_cN0 (host := RX3) 4 C (c_tellCell l D cI cZ cJ _ (ws_self hN) (by decide) (0) (3 + t * 3) (v) (by omega)) tw_145 rfl rfl (C.2.2.2.2.2.2.2.2.2.2.2.2.2.2.2.1) tw_1 tw_144 (by decide +kernel) ⟨Nat.le_of_ble_eq_true rfl, Nat.le_of_ble_eq_true rfl⟩ ⟨Nat.zero_le _, Nat.zero_le _⟩ hP hD hS hl.1 rfl rfl (Nat.le_of_ble_eq_true rfl) dX1_add_55 (fun H locs hP hD hS => ?_)
  rw [List.set_set] at hP hD
  refine lv_aload_n C.1 C.2.1 dX1_add_58 rfl (lv_at hl 1 rfl) ?_
  refine va_get (ci := 1) (C := RX1) (T := TX1) (N := 1) C.1 C.2.1 C.2.2.2.2.2.1 ui_X1 C.2.2.2.2.1 C.2.2.2.2.2.2.2.1 hP qM (ws_ne hqm hM) rfl 0 (by decide) (C.2.2.2.2.2.1 _ tw_56) (fun _ h9 => h9) rfl dX1_add_59 ?_
  refine lv_iconst (v := nI 0) C.1 C.2.1 dX1_add_62 (by decide +kernel) ?_
  refine lv_iconst (v := nI 0) C.1 C.2.1 dX1_add_63 (by decide +kernel) ?_
  refine lv_iload C.1 C.2.1 dX1_add_64 (lv_at hl 0 rfl) ?_
  refine lv_iconst (v := nI 1) C.1 C.2.1 dX1_add_66 (by decide +kernel) ?_
  refine lv_iadd C.1 C.2.1 dX1_add_67 ?_
  rw [nI_add]
  refine cm_cN0 (host := RX3) 4 C (c_tellCell l D cI cZ cJ _ (ws_self hN) (by decide) (0) (0) (nI (t + 1)) (by decide)) tw_145 rfl rfl (C.2.2.2.2.2.2.2.2.2.2.2.2.2.2.2.1) tw_1 tw_144 (by decide +kernel) ⟨Nat.le_of_ble_eq_true rfl, Nat.le_of_ble_eq_true rfl⟩ ⟨Nat.zero_le _, Nat.zero_le _⟩ hP hD hS hl.1 rfl rfl (Nat.le_of_ble_eq_true rfl) dX1_add_68 (fun H locs hP hD hS => ?_)
  rw [List.set_set] at hP hD
  exact cm_vret C hP hD hS dX1_add_71 (by simp only [Nat.zero_mul, Nat.zero_add]; rfl)
set_option maxHeartbeats 4000000 in
set_option maxRecDepth 100000 in
/-- tellOne -/
theorem k_X1_tellOne (l : Launch) (D : va_G) (cI cZ cJ : ClassId) (ws : va_W) {qM qN mv an : Nat} {fm : Nat → Int32} (hM : ws[qM]? = some (mv, .inr (1, [.ref an]))) (hN : ws[qN]? = some (an, .inl (cI, 22, .inl fm))) (hqm : qM ≠ qN) (a k v : Int32) : CM l D (cm_T cI cZ cJ) yX1_tellOne cX1_tellOne 4 none (cm_rm 3 67) [.ref mv, .int a, .int k, .int v] ws none (ws.set qN (an, .inl (cI, 22, .inl (addM (upd fm 0 (nI 0)) 0 a k v)))) := by
  refine CM.of (by decide) (Nat.le_of_ble_eq_true rfl) ?_
  intro p e s m below meth c ls H locs C hl hP hD hS
  refine lv_aload_n C.1 C.2.1 dX1_tellOne_0 rfl (lv_at hl 0 rfl) ?_
  refine cm_cV0 (q0 := qM) 0 C (k_X1_tellNothing l D cI cZ cJ _ hM hN) tw_139 tw_140 tw_141 tw_4 tw_142 rfl rfl (hM) rfl (by decide +kernel) ⟨Nat.le_of_ble_eq_true rfl, Nat.le_of_ble_eq_true rfl⟩ ⟨Nat.zero_le _, Nat.zero_le _⟩ hP hD hS hl.1 rfl rfl (Nat.le_of_ble_eq_true rfl) dX1_tellOne_1 (fun H locs hP hD hS => ?_)
  refine lv_aload_n C.1 C.2.1 dX1_tellOne_4 rfl (lv_at hl 0 rfl) ?_
  refine lv_iload_n C.1 C.2.1 dX1_tellOne_5 rfl (lv_at hl 1 rfl) ?_
  refine lv_iload_n C.1 C.2.1 dX1_tellOne_6 rfl (lv_at hl 2 rfl) ?_
  refine lv_iload_n C.1 C.2.1 dX1_tellOne_7 rfl (lv_at hl 3 rfl) ?_
  refine cm_cV0 (q0 := qM) 3 C (k_X1_add l D cI cZ cJ _ (ws_ne hqm hM) (ws_self hN) hqm 0 (by decide) (by simp [upd]) a k v) tw_146 tw_147 tw_148 tw_4 tw_149 rfl rfl (ws_ne hqm hM) rfl (by decide +kernel) ⟨Nat.le_of_ble_eq_true rfl, Nat.le_of_ble_eq_true rfl⟩ ⟨Nat.zero_le _, Nat.zero_le _⟩ hP hD hS hl.1 rfl rfl (Nat.le_of_ble_eq_true rfl) dX1_tellOne_8 (fun H locs hP hD hS => ?_)
  rw [List.set_set] at hP hD
  exact cm_vret C hP hD hS dX1_tellOne_11 (rfl)
set_option maxHeartbeats 4000000 in
set_option maxRecDepth 100000 in
/-- takeJournal -/
theorem k_X1_takeJournal (l : Launch) (D : va_G) (cI cZ cJ : ClassId) (ws : va_W) {qM qN mv an : Nat} {fm : Nat → Int32} (hM : ws[qM]? = some (mv, .inr (1, [.ref an]))) (hN : ws[qN]? = some (an, .inl (cI, 22, .inl fm))) {qI qA im ad : Nat} {f : Nat → Int32} (hI : ws[qI]? = some (im, .inr (0, [.ref ad]))) (hA : ws[qA]? = some (ad, .inl (cI, 440, .inl f))) : CM l D (cm_T cI cZ cJ) yX1_takeJournal cX1_takeJournal 2 none (cm_rm 2 65) [.ref mv, .ref im] ws none (ws.set qN (an, .inl (cI, 22, .inl (va_cpy f fm 418 0 22)))) := by
  refine CM.of (by decide) (Nat.le_of_ble_eq_true rfl) ?_
  intro p e s m below meth c ls H locs C hl hP hD hS
  refine lv_aload_n C.1 C.2.1 dX1_takeJournal_0 rfl (lv_at hl 1 rfl) ?_
  refine va_get (ci := 0) (C := RX0) (T := TX0) (N := 1) C.1 C.2.1 C.2.2.2.2.2.1 ui_X0 C.2.2.2.2.1 C.2.2.2.2.2.2.2.1 hP qI (hI) rfl 0 (by decide) (C.2.2.2.2.2.1 _ tw_29) (fun _ h9 => h9) rfl dX1_takeJournal_1 ?_
  refine lv_bipush (v := nI 19) C.1 C.2.1 dX1_takeJournal_4 (by decide +kernel) ?_
  refine lv_aload_n C.1 C.2.1 dX1_takeJournal_6 rfl (lv_at hl 0 rfl) ?_
  refine va_get (ci := 1) (C := RX1) (T := TX1) (N := 1) C.1 C.2.1 C.2.2.2.2.2.1 ui_X1 C.2.2.2.2.1 C.2.2.2.2.2.2.2.1 hP qM (hM) rfl 0 (by decide) (C.2.2.2.2.2.1 _ tw_56) (fun _ h9 => h9) rfl dX1_takeJournal_7 ?_
  refine lv_iconst (v := nI 0) C.1 C.2.1 dX1_takeJournal_10 (by decide +kernel) ?_
  refine cm_cN0 (host := RX3) 4 C (c_copyRow l D cI cZ cJ _ hA (by decide) hN (by decide) 19 0 (by decide) (by decide)) tw_240 rfl rfl (C.2.2.2.2.2.2.2.2.2.2.2.2.2.2.2.2.1) tw_1 tw_239 (by decide +kernel) ⟨Nat.le_of_ble_eq_true rfl, Nat.le_of_ble_eq_true rfl⟩ ⟨Nat.zero_le _, Nat.zero_le _⟩ hP hD hS hl.1 rfl rfl (Nat.le_of_ble_eq_true rfl) dX1_takeJournal_11 (fun H locs hP hD hS => ?_)
  exact cm_vret C hP hD hS dX1_takeJournal_14 (rfl)
set_option maxHeartbeats 4000000 in
set_option maxRecDepth 100000 in
/-- tellOf -/
theorem k_X1_tellOf (l : Launch) (D : va_G) (cI cZ cJ : ClassId) (ws : va_W) {qM qN mv an : Nat} {fm : Nat → Int32} (hM : ws[qM]? = some (mv, .inr (1, [.ref an]))) (hN : ws[qN]? = some (an, .inl (cI, 22, .inl fm))) (t : Nat) (ht : t ≤ 7) (h0 : fm 0 = nI t) (x : Int32) : CM l D (cm_T cI cZ cJ) yX1_tellOf cX1_tellOf 4 (some .boolean) (cm_rm 1 23) [.ref mv, .int x] ws (some (.int (bI (anyB (saysP fm x) 0 t)))) (ws) := by
  refine CM.of (by decide) (Nat.le_of_ble_eq_true rfl) ?_
  intro p e s m below meth c ls H locs C hl hP hD hS
  refine lv_aload_n C.1 C.2.1 dX1_tellOf_0 rfl (lv_at hl 0 rfl) ?_
  refine va_get (ci := 1) (C := RX1) (T := TX1) (N := 1) C.1 C.2.1 C.2.2.2.2.2.1 ui_X1 C.2.2.2.2.1 C.2.2.2.2.2.2.2.1 hP qM (hM) rfl 0 (by decide) (C.2.2.2.2.2.1 _ tw_56) (fun _ h9 => h9) rfl dX1_tellOf_1 ?_
  refine lv_iconst (v := nI 0) C.1 C.2.1 dX1_tellOf_4 (by decide +kernel) ?_
  refine lv_iconst (v := nI 0) C.1 C.2.1 dX1_tellOf_5 (by decide +kernel) ?_
  refine cm_cN1 (host := RX3) 3 C (c_cellAt l D cI cZ cJ _ hN (by decide) (0) (0) (by decide)) tw_106 rfl rfl (C.2.2.2.2.2.2.2.2.2.2.2.2.2.2.1) tw_1 tw_105 (by decide +kernel) ⟨Nat.le_of_ble_eq_true rfl, Nat.le_of_ble_eq_true rfl⟩ ⟨Nat.zero_le _, Nat.zero_le _⟩ hP hD hS hl.1 rfl rfl (Nat.le_of_ble_eq_true rfl) dX1_tellOf_6 (fun H locs hP hD hS => ?_)
  rw [show fm (0 * 22 + 0) = nI t from h0]
  refine lv_istore_n (lv' := [(2, _), (0, _), (1, _)]) C.1 C.2.1 dX1_tellOf_9 rfl hl (by decide) rfl (fun ls hl => ?_)
  refine lv_iconst (v := nI 0) C.1 C.2.1 dX1_tellOf_10 (by decide +kernel) ?_
  refine lv_istore_n (lv' := [(3, _), (2, _), (0, _), (1, _)]) C.1 C.2.1 dX1_tellOf_11 rfl hl (by decide) rfl (fun ls hl => ?_)
  have loop : ∀ (k j : Nat), j + k = t → ∀ (ls : Array Slot) (H : Heap) (locs : List Loc), lv_has ls 4 [(3, .int (nI j)), (2, .int (nI t)), (0, .ref mv), (1, .int x)] → va_P D vwCl (ws) H → va_D (cm_A ws) (ws) → va_S (cm_A ws) s.heap H locs → W p l e (cm_rm 1 23) s m ([.ref mv, .int x] : List Value).toArray below meth c H locs 0 0 (cm_Q below D [.ref mv, .int x] s ws (some (.int (bI (anyB (saysP fm x) j k)))) (ws)) (F0 m 12 ls []) := by
    intro k
    induction k with
    | zero =>
      intro j hj ls H locs hl hP hD hS
      refine lv_iload_n C.1 C.2.1 dX1_tellOf_12 rfl (lv_at hl 0 rfl) ?_
      refine lv_bipush (v := nI 7) C.1 C.2.1 dX1_tellOf_13 (by decide +kernel) ?_
      refine lv_icmp_ge (tgt := 48) C.1 C.2.1 dX1_tellOf_15 (by decide) (fun h15 => ?_) (fun h15 => ?_)
      · refine lv_iconst (v := nI 0) C.1 C.2.1 dX1_tellOf_48 (by decide +kernel) ?_
        exact cm_zret C hP hD hS dX1_tellOf_49 (by decide +kernel) rfl rfl
      · refine lv_iload_n C.1 C.2.1 dX1_tellOf_18 rfl (lv_at hl 0 rfl) ?_
        refine lv_iload_n C.1 C.2.1 dX1_tellOf_19 rfl (lv_at hl 1 rfl) ?_
        refine lv_icmp_ge (tgt := 48) C.1 C.2.1 dX1_tellOf_20 (by decide) (fun _ => ?_) (fun h => absurd (nI_le (by omega) (by omega)) h)
        refine lv_iconst (v := nI 0) C.1 C.2.1 dX1_tellOf_48 (by decide +kernel) ?_
        exact cm_zret C hP hD hS dX1_tellOf_49 (by decide +kernel) rfl rfl
    | succ k ih =>
      intro j hj ls H locs hl hP hD hS
      refine lv_iload_n C.1 C.2.1 dX1_tellOf_12 rfl (lv_at hl 0 rfl) ?_
      refine lv_bipush (v := nI 7) C.1 C.2.1 dX1_tellOf_13 (by decide +kernel) ?_
      refine lv_icmp_ge (tgt := 48) C.1 C.2.1 dX1_tellOf_15 (by decide) (fun h => absurd h (nI_ge (by omega) (by decide))) (fun _ => ?_)
      refine lv_iload_n C.1 C.2.1 dX1_tellOf_18 rfl (lv_at hl 0 rfl) ?_
      refine lv_iload_n C.1 C.2.1 dX1_tellOf_19 rfl (lv_at hl 1 rfl) ?_
      refine lv_icmp_ge (tgt := 48) C.1 C.2.1 dX1_tellOf_20 (by decide) (fun h => absurd h (nI_ge (by omega) (by omega))) (fun _ => ?_)
      refine lv_aload_n C.1 C.2.1 dX1_tellOf_23 rfl (lv_at hl 2 rfl) ?_
      refine va_get (ci := 1) (C := RX1) (T := TX1) (N := 1) C.1 C.2.1 C.2.2.2.2.2.1 ui_X1 C.2.2.2.2.1 C.2.2.2.2.2.2.2.1 hP qM (hM) rfl 0 (by decide) (C.2.2.2.2.2.1 _ tw_56) (fun _ h9 => h9) rfl dX1_tellOf_24 ?_
      refine lv_iconst (v := nI 0) C.1 C.2.1 dX1_tellOf_27 (by decide +kernel) ?_
      refine lv_iconst (v := nI 1) C.1 C.2.1 dX1_tellOf_28 (by decide +kernel) ?_
      refine lv_iload_n C.1 C.2.1 dX1_tellOf_29 rfl (lv_at hl 0 rfl) ?_
      refine lv_iconst (v := nI 3) C.1 C.2.1 dX1_tellOf_30 (by decide +kernel) ?_
      refine lv_imul C.1 C.2.1 dX1_tellOf_31 ?_
      rw [pk_mul]
      refine lv_iadd C.1 C.2.1 dX1_tellOf_32 ?_
      rw [nI_add]
      refine cm_cN1 (host := RX3) 3 C (c_cellAt l D cI cZ cJ _ hN (by decide) (0) (1 + j * 3) (by omega)) tw_106 rfl rfl (C.2.2.2.2.2.2.2.2.2.2.2.2.2.2.1) tw_1 tw_105 (by decide +kernel) ⟨Nat.le_of_ble_eq_true rfl, Nat.le_of_ble_eq_true rfl⟩ ⟨Nat.zero_le _, Nat.zero_le _⟩ hP hD hS hl.1 rfl rfl (Nat.le_of_ble_eq_true rfl) dX1_tellOf_33 (fun H locs hP hD hS => ?_)
      rw [Nat.zero_mul, Nat.zero_add]
      refine lv_iload_n C.1 C.2.1 dX1_tellOf_36 rfl (lv_at hl 3 rfl) ?_
      refine lv_icmp_ne (tgt := 42) C.1 C.2.1 dX1_tellOf_37 (by decide) (fun h37 => ?_) (fun h37 => ?_)
      · refine lv_iinc (v := nI (j + 1)) (lv' := [(3, _), (2, _), (0, _), (1, _)]) C.1 C.2.1 dX1_tellOf_42 hl (k := 0) rfl (nI_1 j) (by decide) rfl (fun ls hl => ?_)
        refine lv_goto (tgt := 12) C.1 C.2.1 dX1_tellOf_45 (by decide) ?_
        rw [show anyB (saysP fm x) j (k + 1) = anyB (saysP fm x) (j + 1) k by simp [anyB, saysP, h37]]
        exact ih (j + 1) (by omega) ls H locs hl hP hD hS
      · refine lv_iconst (v := nI 1) C.1 C.2.1 dX1_tellOf_40 (by decide +kernel) ?_
        exact cm_zret C hP hD hS dX1_tellOf_41 (by decide +kernel) (by simp [anyB, saysP, h37, bI]) rfl
  exact loop t 0 (Nat.zero_add t) ls H locs hl hP hD hS
set_option maxHeartbeats 4000000 in
set_option maxRecDepth 100000 in
/-- fillAll -/
theorem k_X0_fillAll (l : Launch) (D : va_G) (cI cZ cJ : ClassId) (ws : va_W) {qI qA im ad : Nat} {f : Nat → Int32} (hI : ws[qI]? = some (im, .inr (0, [.ref ad]))) (hA : ws[qA]? = some (ad, .inl (cI, 440, .inl f))) (hq : qI ≠ qA) {qM qN mv an : Nat} {fm : Nat → Int32} (hM : ws[qM]? = some (mv, .inr (1, [.ref an]))) (hN : ws[qN]? = some (an, .inl (cI, 22, .inl fm))) (hqa : qM ≠ qA) (hqb : qN ≠ qA) (t : Nat) (hm : mOk fm t) : CM l D (cm_T cI cZ cJ) yX0_fillAll cX0_fillAll 3 none (cm_rm 2 49) [.ref im, .ref mv] ws none (ws.set qA (ad, .inl (cI, 440, .inl (fillN fm 0 t f)))) := by
  refine CM.of (by decide) (Nat.le_of_ble_eq_true rfl) ?_
  intro p e s m below meth c ls H locs C hl hP hD hS
  refine lv_iconst (v := nI 0) C.1 C.2.1 dX0_fillAll_0 (by decide +kernel) ?_
  refine lv_istore_n (lv' := [(2, _), (0, _), (1, _)]) C.1 C.2.1 dX0_fillAll_1 rfl hl (by decide) rfl (fun ls hl => ?_)
  have loop : ∀ (k j : Nat) (g : Nat → Int32), j + k = t → ∀ (ls : Array Slot) (H : Heap) (locs : List Loc), lv_has ls 3 [(2, .int (nI j)), (0, .ref im), (1, .ref mv)] → va_P D vwCl (ws.set qA (ad, .inl (cI, 440, .inl (g)))) H → va_D (cm_A ws) (ws.set qA (ad, .inl (cI, 440, .inl (g)))) → va_S (cm_A ws) s.heap H locs → W p l e (cm_rm 2 49) s m ([.ref im, .ref mv] : List Value).toArray below meth c H locs 0 0 (cm_Q below D [.ref im, .ref mv] s ws none (ws.set qA (ad, .inl (cI, 440, .inl (fillN fm j k g))))) (F0 m 2 ls []) := by
    intro k
    induction k with
    | zero =>
      intro j g hj ls H locs hl hP hD hS
      have hm1 := hm.1
      refine lv_iload_n C.1 C.2.1 dX0_fillAll_2 rfl (lv_at hl 0 rfl) ?_
      refine lv_bipush (v := nI 7) C.1 C.2.1 dX0_fillAll_3 (by decide +kernel) ?_
      refine lv_icmp_ge (tgt := 41) C.1 C.2.1 dX0_fillAll_5 (by decide) (fun h5 => ?_) (fun h5 => ?_)
      · exact cm_vret C hP hD hS dX0_fillAll_41 rfl
      · refine lv_iload_n C.1 C.2.1 dX0_fillAll_8 rfl (lv_at hl 0 rfl) ?_
        refine lv_aload_n C.1 C.2.1 dX0_fillAll_9 rfl (lv_at hl 2 rfl) ?_
        refine cm_cV1 (q0 := qM) 0 C (k_X1_size l D cI cZ cJ _ (ws_ne hqa hM) (ws_ne hqb hN)) tw_213 tw_151 tw_152 tw_4 tw_153 rfl rfl (ws_ne hqa hM) rfl (by decide +kernel) ⟨Nat.le_of_ble_eq_true rfl, Nat.le_of_ble_eq_true rfl⟩ ⟨Nat.zero_le _, Nat.zero_le _⟩ hP hD hS hl.1 rfl rfl (Nat.le_of_ble_eq_true rfl) dX0_fillAll_10 (fun H locs hP hD hS => ?_)
        rw [hm.2.1]
        refine lv_icmp_ge (tgt := 41) C.1 C.2.1 dX0_fillAll_13 (by decide) (fun _ => ?_) (fun h => absurd (nI_le (by omega) (by omega)) h)
        exact cm_vret C hP hD hS dX0_fillAll_41 rfl
    | succ k ih =>
      intro j g hj ls H locs hl hP hD hS
      have hm1 := hm.1
      refine lv_iload_n C.1 C.2.1 dX0_fillAll_2 rfl (lv_at hl 0 rfl) ?_
      refine lv_bipush (v := nI 7) C.1 C.2.1 dX0_fillAll_3 (by decide +kernel) ?_
      refine lv_icmp_ge (tgt := 41) C.1 C.2.1 dX0_fillAll_5 (by decide) (fun h => absurd h (nI_ge (by omega) (by decide))) (fun _ => ?_)
      refine lv_iload_n C.1 C.2.1 dX0_fillAll_8 rfl (lv_at hl 0 rfl) ?_
      refine lv_aload_n C.1 C.2.1 dX0_fillAll_9 rfl (lv_at hl 2 rfl) ?_
      refine cm_cV1 (q0 := qM) 0 C (k_X1_size l D cI cZ cJ _ (ws_ne hqa hM) (ws_ne hqb hN)) tw_213 tw_151 tw_152 tw_4 tw_153 rfl rfl (ws_ne hqa hM) rfl (by decide +kernel) ⟨Nat.le_of_ble_eq_true rfl, Nat.le_of_ble_eq_true rfl⟩ ⟨Nat.zero_le _, Nat.zero_le _⟩ hP hD hS hl.1 rfl rfl (Nat.le_of_ble_eq_true rfl) dX0_fillAll_10 (fun H locs hP hD hS => ?_)
      rw [hm.2.1]
      refine lv_icmp_ge (tgt := 41) C.1 C.2.1 dX0_fillAll_13 (by decide) (fun h => absurd h (nI_ge (by omega) (by omega))) (fun _ => ?_)
      refine lv_aload_n C.1 C.2.1 dX0_fillAll_16 rfl (lv_at hl 1 rfl) ?_
      refine lv_aload_n C.1 C.2.1 dX0_fillAll_17 rfl (lv_at hl 2 rfl) ?_
      refine lv_iload_n C.1 C.2.1 dX0_fillAll_18 rfl (lv_at hl 0 rfl) ?_
      refine cm_cV1 (q0 := qM) 1 C (k_X1_placeAt l D cI cZ cJ _ (ws_ne hqa hM) (ws_ne hqb hN) j (by omega)) tw_214 tw_215 tw_216 tw_4 tw_217 rfl rfl (ws_ne hqa hM) rfl (by decide +kernel) ⟨Nat.le_of_ble_eq_true rfl, Nat.le_of_ble_eq_true rfl⟩ ⟨Nat.zero_le _, Nat.zero_le _⟩ hP hD hS hl.1 rfl rfl (Nat.le_of_ble_eq_true rfl) dX0_fillAll_19 (fun H locs hP hD hS => ?_)
      rw [(hm.2.2 j (by omega)).1]
      refine lv_aload_n C.1 C.2.1 dX0_fillAll_22 rfl (lv_at hl 2 rfl) ?_
      refine lv_iload_n C.1 C.2.1 dX0_fillAll_23 rfl (lv_at hl 0 rfl) ?_
      refine cm_cV1 (q0 := qM) 1 C (k_X1_keyAt l D cI cZ cJ _ (ws_ne hqa hM) (ws_ne hqb hN) j (by omega)) tw_218 tw_219 tw_220 tw_4 tw_221 rfl rfl (ws_ne hqa hM) rfl (by decide +kernel) ⟨Nat.le_of_ble_eq_true rfl, Nat.le_of_ble_eq_true rfl⟩ ⟨Nat.zero_le _, Nat.zero_le _⟩ hP hD hS hl.1 rfl rfl (Nat.le_of_ble_eq_true rfl) dX0_fillAll_24 (fun H locs hP hD hS => ?_)
      refine lv_aload_n C.1 C.2.1 dX0_fillAll_27 rfl (lv_at hl 2 rfl) ?_
      refine lv_iload_n C.1 C.2.1 dX0_fillAll_28 rfl (lv_at hl 0 rfl) ?_
      refine cm_cV1 (q0 := qM) 1 C (k_X1_valueAt l D cI cZ cJ _ (ws_ne hqa hM) (ws_ne hqb hN) j (by omega)) tw_222 tw_223 tw_224 tw_4 tw_225 rfl rfl (ws_ne hqa hM) rfl (by decide +kernel) ⟨Nat.le_of_ble_eq_true rfl, Nat.le_of_ble_eq_true rfl⟩ ⟨Nat.zero_le _, Nat.zero_le _⟩ hP hD hS hl.1 rfl rfl (Nat.le_of_ble_eq_true rfl) dX0_fillAll_29 (fun H locs hP hD hS => ?_)
      refine cm_cV0 (q0 := qI) 3 C (k_X0_fill l D cI cZ cJ _ (ws_ne hq hI) (ws_self hA) hq (mP fm j) (hm.2.2 j (by omega)).2 _ _) tw_226 tw_227 tw_228 tw_2 tw_229 rfl rfl (ws_ne hq hI) rfl (by decide +kernel) ⟨Nat.le_of_ble_eq_true rfl, Nat.le_of_ble_eq_true rfl⟩ ⟨Nat.zero_le _, Nat.zero_le _⟩ hP hD hS hl.1 rfl rfl (Nat.le_of_ble_eq_true rfl) dX0_fillAll_32 (fun H locs hP hD hS => ?_)
      rw [List.set_set] at hP hD
      refine lv_iinc (v := nI (j + 1)) (lv' := [(2, _), (0, _), (1, _)]) C.1 C.2.1 dX0_fillAll_35 hl (k := 0) rfl (nI_1 j) (by decide) rfl (fun ls hl => ?_)
      refine lv_goto (tgt := 2) C.1 C.2.1 dX0_fillAll_38 (by decide) ?_
      exact ih (j + 1) _ (by omega) ls H locs hl hP hD hS
  have hs : ws.set qA (ad, .inl (cI, 440, .inl f)) = ws := ws_id hA
  exact loop t 0 f (Nat.zero_add t) ls H locs hl (by rw [hs]; exact hP) (by rw [hs]; exact hD) hS
