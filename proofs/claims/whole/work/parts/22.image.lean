/-! ===== Image, Moves, Waiting: what their cells are, and their methods ===== -/
theorem ws_self {ws : va_W} {q : Nat} {y z : Nat × va_E} (h : ws[q]? = some y) : (ws.set q z)[q]? = some z := by
  have hq : q < ws.length := (List.getElem?_eq_some_iff.mp h).1
  simp [hq]
theorem ws_ne {ws : va_W} {q q2 : Nat} {x z : Nat × va_E} (hq : q ≠ q2) (h : ws[q]? = some x) : (ws.set q2 z)[q]? = some x := by
  rw [List.getElem?_set_ne (Ne.symm hq)]; exact h
theorem ws_id {ws : va_W} {q : Nat} {x : Nat × va_E} (h : ws[q]? = some x) : ws.set q x = ws := by
  obtain ⟨hq, rfl⟩ := List.getElem?_eq_some_iff.mp h
  exact List.set_getElem_self hq
/-- the first cell of a SLOT's three -/
def ix (p : Nat) : Nat := p / 4 * 22 + p % 4 * 3
def uC (f : Nat → Int32) (p : Nat) : Int32 := f (ix p)
def kC (f : Nat → Int32) (p : Nat) : Int32 := f (ix p + 1)
def vC (f : Nat → Int32) (p : Nat) : Int32 := f (ix p + 2)
def fillC (f : Nat → Int32) (p : Nat) (k v : Int32) : Nat → Int32 := upd (upd (upd f (ix p) (nI 1)) (ix p + 1) k) (ix p + 2) v
def emptyC (f : Nat → Int32) (p : Nat) : Nat → Int32 := upd f (ix p) (nI 0)
def optI : Option Nat → Int32
  | none => -1
  | some p => nI p
/-- the first of k places from j on that P holds of, told from b on -/
def scan (P : Nat → Bool) (b : Nat) : Nat → Nat → Option Nat
  | _, 0 => none
  | j, k + 1 => if P j = true then some (b + j) else scan P b (j + 1) k
def cnt (P : Nat → Bool) : Nat → Nat → Nat
  | _, 0 => 0
  | j, k + 1 => (if P j = true then 1 else 0) + cnt P (j + 1) k
def anyB (P : Nat → Bool) : Nat → Nat → Bool
  | _, 0 => false
  | j, k + 1 => P j || anyB P (j + 1) k
def bI (b : Bool) : Int32 := if b = true then nI 1 else nI 0
theorem bI_nar (b : Bool) : narrow .boolean (.int (bI b)) = .int (bI b) := by cases b <;> decide +kernel
def emP (f : Nat → Int32) (r : Nat) (j : Nat) : Bool := decide (f (r * 22 + j * 3) = 0)
def atP (f : Nat → Int32) (r : Nat) (key : Int32) (j : Nat) : Bool := decide (¬ f (r * 22 + j * 3) = 0 ∧ f (r * 22 + (j * 3 + 1)) = key)
set_option maxHeartbeats 4000000 in
set_option maxRecDepth 100000 in
/-- setTold -/
theorem k_X0_setTold (l : Launch) (D : va_G) (cI cZ cJ : ClassId) (ws : va_W) {qI qA im ad : Nat} {f : Nat → Int32} (hI : ws[qI]? = some (im, .inr (0, [.ref ad]))) (hA : ws[qA]? = some (ad, .inl (cI, 440, .inl f))) : CM l D (cm_T cI cZ cJ) yX0_setTold cX0_setTold 1 (some .int) (cm_rm 1 23) [.ref im] ws (some (.int (f 396))) (ws) := by
  refine CM.of (by decide) (Nat.le_of_ble_eq_true rfl) ?_
  intro p e s m below meth c ls H locs C hl hP hD hS
  refine lv_aload_n C.1 C.2.1 dX0_setTold_0 rfl (lv_at hl 0 rfl) ?_
  refine va_get (ci := 0) (C := RX0) (T := TX0) (N := 1) C.1 C.2.1 C.2.2.2.2.2.1 ui_X0 C.2.2.2.2.1 C.2.2.2.2.2.2.2.1 hP qI (hI) rfl 0 (by decide) (C.2.2.2.2.2.1 _ tw_27) (fun _ h9 => h9) rfl dX0_setTold_1 ?_
  refine lv_bipush (v := nI 18) C.1 C.2.1 dX0_setTold_4 (by decide +kernel) ?_
  refine lv_iconst (v := nI 0) C.1 C.2.1 dX0_setTold_6 (by decide +kernel) ?_
  refine cm_cN1 (host := RX3) 3 C (c_cellAt l D cI cZ cJ _ hA (by decide) (18) (0) (by decide)) tw_106 rfl rfl (C.2.2.2.2.2.2.2.2.1) tw_1 tw_105 (by decide +kernel) ⟨Nat.le_of_ble_eq_true rfl, Nat.le_of_ble_eq_true rfl⟩ ⟨Nat.zero_le _, Nat.zero_le _⟩ hP hD hS hl.1 rfl rfl (Nat.le_of_ble_eq_true rfl) dX0_setTold_7 (fun H locs hP hD hS => ?_)
  exact cm_iret C hP hD hS dX0_setTold_10 (rfl) (rfl)
set_option maxHeartbeats 4000000 in
set_option maxRecDepth 100000 in
/-- seedTold -/
theorem k_X0_seedTold (l : Launch) (D : va_G) (cI cZ cJ : ClassId) (ws : va_W) {qI qA im ad : Nat} {f : Nat → Int32} (hI : ws[qI]? = some (im, .inr (0, [.ref ad]))) (hA : ws[qA]? = some (ad, .inl (cI, 440, .inl f))) : CM l D (cm_T cI cZ cJ) yX0_seedTold cX0_seedTold 1 (some .int) (cm_rm 1 23) [.ref im] ws (some (.int (f 397))) (ws) := by
  refine CM.of (by decide) (Nat.le_of_ble_eq_true rfl) ?_
  intro p e s m below meth c ls H locs C hl hP hD hS
  refine lv_aload_n C.1 C.2.1 dX0_seedTold_0 rfl (lv_at hl 0 rfl) ?_
  refine va_get (ci := 0) (C := RX0) (T := TX0) (N := 1) C.1 C.2.1 C.2.2.2.2.2.1 ui_X0 C.2.2.2.2.1 C.2.2.2.2.2.2.2.1 hP qI (hI) rfl 0 (by decide) (C.2.2.2.2.2.1 _ tw_27) (fun _ h9 => h9) rfl dX0_seedTold_1 ?_
  refine lv_bipush (v := nI 18) C.1 C.2.1 dX0_seedTold_4 (by decide +kernel) ?_
  refine lv_iconst (v := nI 1) C.1 C.2.1 dX0_seedTold_6 (by decide +kernel) ?_
  refine cm_cN1 (host := RX3) 3 C (c_cellAt l D cI cZ cJ _ hA (by decide) (18) (1) (by decide)) tw_106 rfl rfl (C.2.2.2.2.2.2.2.2.1) tw_1 tw_105 (by decide +kernel) ⟨Nat.le_of_ble_eq_true rfl, Nat.le_of_ble_eq_true rfl⟩ ⟨Nat.zero_le _, Nat.zero_le _⟩ hP hD hS hl.1 rfl rfl (Nat.le_of_ble_eq_true rfl) dX0_seedTold_7 (fun H locs hP hD hS => ?_)
  exact cm_iret C hP hD hS dX0_seedTold_10 (rfl) (rfl)
set_option maxHeartbeats 4000000 in
set_option maxRecDepth 100000 in
/-- rowInUse -/
theorem k_X0_rowInUse (l : Launch) (D : va_G) (cI cZ cJ : ClassId) (ws : va_W) {qI qA im ad : Nat} {f : Nat → Int32} (hI : ws[qI]? = some (im, .inr (0, [.ref ad]))) (hA : ws[qA]? = some (ad, .inl (cI, 440, .inl f))) (z g : Nat) (hz : f 396 = nI z) : CM l D (cm_T cI cZ cJ) yX0_rowInUse cX0_rowInUse 2 (some .int) (cm_rm 2 43) [.ref im, .int (nI g)] ws (some (.int (nI (z * 9 + g)))) (ws) := by
  refine CM.of (by decide) (Nat.le_of_ble_eq_true rfl) ?_
  intro p e s m below meth c ls H locs C hl hP hD hS
  refine lv_aload_n C.1 C.2.1 dX0_rowInUse_0 rfl (lv_at hl 0 rfl) ?_
  refine cm_cV1 (q0 := qI) 0 C (k_X0_setTold l D cI cZ cJ _ hI hA) tw_124 tw_125 tw_126 tw_2 tw_127 rfl rfl (hI) rfl (by decide +kernel) ⟨Nat.le_of_ble_eq_true rfl, Nat.le_of_ble_eq_true rfl⟩ ⟨Nat.zero_le _, Nat.zero_le _⟩ hP hD hS hl.1 rfl rfl (Nat.le_of_ble_eq_true rfl) dX0_rowInUse_1 (fun H locs hP hD hS => ?_)
  rw [hz]
  refine lv_bipush (v := nI 9) C.1 C.2.1 dX0_rowInUse_4 (by decide +kernel) ?_
  refine lv_imul C.1 C.2.1 dX0_rowInUse_6 ?_
  rw [pk_mul]
  refine lv_iload_n C.1 C.2.1 dX0_rowInUse_7 rfl (lv_at hl 1 rfl) ?_
  refine lv_iadd C.1 C.2.1 dX0_rowInUse_8 ?_
  rw [nI_add]
  exact cm_iret C hP hD hS dX0_rowInUse_9 (rfl) (rfl)
set_option maxHeartbeats 4000000 in
set_option maxRecDepth 100000 in
/-- holds -/
theorem k_X0_holds (l : Launch) (D : va_G) (cI cZ cJ : ClassId) (ws : va_W) {qI qA im ad : Nat} {f : Nat → Int32} (hI : ws[qI]? = some (im, .inr (0, [.ref ad]))) (hA : ws[qA]? = some (ad, .inl (cI, 440, .inl f))) (p0 : Nat) (hp0 : p0 < 72) : CM l D (cm_T cI cZ cJ) yX0_holds cX0_holds 2 (some .boolean) (cm_rm 1 23) [.ref im, .int (nI p0)] ws (some (.int (bI (decide (¬ uC f p0 = 0))))) (ws) := by
  refine CM.of (by decide) (Nat.le_of_ble_eq_true rfl) ?_
  intro p e s m below meth c ls H locs C hl hP hD hS
  refine lv_aload_n C.1 C.2.1 dX0_holds_0 rfl (lv_at hl 0 rfl) ?_
  refine va_get (ci := 0) (C := RX0) (T := TX0) (N := 1) C.1 C.2.1 C.2.2.2.2.2.1 ui_X0 C.2.2.2.2.1 C.2.2.2.2.2.2.2.1 hP qI (hI) rfl 0 (by decide) (C.2.2.2.2.2.1 _ tw_27) (fun _ h9 => h9) rfl dX0_holds_1 ?_
  refine lv_iload_n C.1 C.2.1 dX0_holds_4 rfl (lv_at hl 1 rfl) ?_
  refine cm_cN1 (host := RX3) 1 C (c_rowOf l D cI cZ cJ _ p0 (by omega)) tw_180 rfl rfl (C.2.2.2.2.2.2.2.2.2.2.2.1) tw_1 tw_179 (by decide +kernel) ⟨Nat.le_of_ble_eq_true rfl, Nat.le_of_ble_eq_true rfl⟩ ⟨Nat.zero_le _, Nat.zero_le _⟩ hP hD hS hl.1 rfl rfl (Nat.le_of_ble_eq_true rfl) dX0_holds_5 (fun H locs hP hD hS => ?_)
  refine lv_iload_n C.1 C.2.1 dX0_holds_8 rfl (lv_at hl 1 rfl) ?_
  refine cm_cN1 (host := RX3) 1 C (c_columnOf l D cI cZ cJ _ p0 (by omega)) tw_183 rfl rfl (C.2.2.2.2.2.2.2.2.2.2.2.2.1) tw_1 tw_182 (by decide +kernel) ⟨Nat.le_of_ble_eq_true rfl, Nat.le_of_ble_eq_true rfl⟩ ⟨Nat.zero_le _, Nat.zero_le _⟩ hP hD hS hl.1 rfl rfl (Nat.le_of_ble_eq_true rfl) dX0_holds_9 (fun H locs hP hD hS => ?_)
  refine cm_cN1 (host := RX3) 3 C (c_cellAt l D cI cZ cJ _ hA (by decide) (p0 / 4) (p0 % 4 * 3) (by have := Nat.mod_lt p0 (show 4 > 0 by decide); omega)) tw_106 rfl rfl (C.2.2.2.2.2.2.2.2.1) tw_1 tw_105 (by decide +kernel) ⟨Nat.le_of_ble_eq_true rfl, Nat.le_of_ble_eq_true rfl⟩ ⟨Nat.zero_le _, Nat.zero_le _⟩ hP hD hS hl.1 rfl rfl (Nat.le_of_ble_eq_true rfl) dX0_holds_12 (fun H locs hP hD hS => ?_)
  refine lv_if_eq (tgt := 22) C.1 C.2.1 dX0_holds_15 (by decide) (fun h15 => ?_) (fun h15 => ?_)
  · refine lv_iconst (v := nI 0) C.1 C.2.1 dX0_holds_22 (by decide +kernel) ?_
    exact cm_zret C hP hD hS dX0_holds_23 (by decide +kernel) (by unfold bI; simp [uC, ix, h15]) rfl
  · refine lv_iconst (v := nI 1) C.1 C.2.1 dX0_holds_18 (by decide +kernel) ?_
    refine lv_goto (tgt := 23) C.1 C.2.1 dX0_holds_19 (by decide) ?_
    exact cm_zret C hP hD hS dX0_holds_23 (by decide +kernel) (by unfold bI; simp [uC, ix, h15]) rfl
set_option maxHeartbeats 4000000 in
set_option maxRecDepth 100000 in
/-- X0_keyAt -/
theorem k_X0_keyAt (l : Launch) (D : va_G) (cI cZ cJ : ClassId) (ws : va_W) {qI qA im ad : Nat} {f : Nat → Int32} (hI : ws[qI]? = some (im, .inr (0, [.ref ad]))) (hA : ws[qA]? = some (ad, .inl (cI, 440, .inl f))) (p0 : Nat) (hp0 : p0 < 72) : CM l D (cm_T cI cZ cJ) yX0_keyAt cX0_keyAt 2 (some .int) (cm_rm 1 23) [.ref im, .int (nI p0)] ws (some (.int (kC f p0))) (ws) := by
  refine CM.of (by decide) (Nat.le_of_ble_eq_true rfl) ?_
  intro p e s m below meth c ls H locs C hl hP hD hS
  refine lv_aload_n C.1 C.2.1 dX0_keyAt_0 rfl (lv_at hl 0 rfl) ?_
  refine va_get (ci := 0) (C := RX0) (T := TX0) (N := 1) C.1 C.2.1 C.2.2.2.2.2.1 ui_X0 C.2.2.2.2.1 C.2.2.2.2.2.2.2.1 hP qI (hI) rfl 0 (by decide) (C.2.2.2.2.2.1 _ tw_27) (fun _ h9 => h9) rfl dX0_keyAt_1 ?_
  refine lv_iload_n C.1 C.2.1 dX0_keyAt_4 rfl (lv_at hl 1 rfl) ?_
  refine cm_cN1 (host := RX3) 1 C (c_rowOf l D cI cZ cJ _ p0 (by omega)) tw_180 rfl rfl (C.2.2.2.2.2.2.2.2.2.2.2.1) tw_1 tw_179 (by decide +kernel) ⟨Nat.le_of_ble_eq_true rfl, Nat.le_of_ble_eq_true rfl⟩ ⟨Nat.zero_le _, Nat.zero_le _⟩ hP hD hS hl.1 rfl rfl (Nat.le_of_ble_eq_true rfl) dX0_keyAt_5 (fun H locs hP hD hS => ?_)
  refine lv_iload_n C.1 C.2.1 dX0_keyAt_8 rfl (lv_at hl 1 rfl) ?_
  refine cm_cN1 (host := RX3) 1 C (c_columnOf l D cI cZ cJ _ p0 (by omega)) tw_183 rfl rfl (C.2.2.2.2.2.2.2.2.2.2.2.2.1) tw_1 tw_182 (by decide +kernel) ⟨Nat.le_of_ble_eq_true rfl, Nat.le_of_ble_eq_true rfl⟩ ⟨Nat.zero_le _, Nat.zero_le _⟩ hP hD hS hl.1 rfl rfl (Nat.le_of_ble_eq_true rfl) dX0_keyAt_9 (fun H locs hP hD hS => ?_)
  refine lv_iconst (v := nI 1) C.1 C.2.1 dX0_keyAt_12 (by decide +kernel) ?_
  refine lv_iadd C.1 C.2.1 dX0_keyAt_13 ?_
  rw [nI_add]
  refine cm_cN1 (host := RX3) 3 C (c_cellAt l D cI cZ cJ _ hA (by decide) (p0 / 4) (p0 % 4 * 3 + 1) (by have := Nat.mod_lt p0 (show 4 > 0 by decide); omega)) tw_106 rfl rfl (C.2.2.2.2.2.2.2.2.1) tw_1 tw_105 (by decide +kernel) ⟨Nat.le_of_ble_eq_true rfl, Nat.le_of_ble_eq_true rfl⟩ ⟨Nat.zero_le _, Nat.zero_le _⟩ hP hD hS hl.1 rfl rfl (Nat.le_of_ble_eq_true rfl) dX0_keyAt_14 (fun H locs hP hD hS => ?_)
  exact cm_iret C hP hD hS dX0_keyAt_17 (rfl) (rfl)
set_option maxHeartbeats 4000000 in
set_option maxRecDepth 100000 in
/-- X0_valueAt -/
theorem k_X0_valueAt (l : Launch) (D : va_G) (cI cZ cJ : ClassId) (ws : va_W) {qI qA im ad : Nat} {f : Nat → Int32} (hI : ws[qI]? = some (im, .inr (0, [.ref ad]))) (hA : ws[qA]? = some (ad, .inl (cI, 440, .inl f))) (p0 : Nat) (hp0 : p0 < 72) : CM l D (cm_T cI cZ cJ) yX0_valueAt cX0_valueAt 2 (some .int) (cm_rm 1 23) [.ref im, .int (nI p0)] ws (some (.int (vC f p0))) (ws) := by
  refine CM.of (by decide) (Nat.le_of_ble_eq_true rfl) ?_
  intro p e s m below meth c ls H locs C hl hP hD hS
  refine lv_aload_n C.1 C.2.1 dX0_valueAt_0 rfl (lv_at hl 0 rfl) ?_
  refine va_get (ci := 0) (C := RX0) (T := TX0) (N := 1) C.1 C.2.1 C.2.2.2.2.2.1 ui_X0 C.2.2.2.2.1 C.2.2.2.2.2.2.2.1 hP qI (hI) rfl 0 (by decide) (C.2.2.2.2.2.1 _ tw_27) (fun _ h9 => h9) rfl dX0_valueAt_1 ?_
  refine lv_iload_n C.1 C.2.1 dX0_valueAt_4 rfl (lv_at hl 1 rfl) ?_
  refine cm_cN1 (host := RX3) 1 C (c_rowOf l D cI cZ cJ _ p0 (by omega)) tw_180 rfl rfl (C.2.2.2.2.2.2.2.2.2.2.2.1) tw_1 tw_179 (by decide +kernel) ⟨Nat.le_of_ble_eq_true rfl, Nat.le_of_ble_eq_true rfl⟩ ⟨Nat.zero_le _, Nat.zero_le _⟩ hP hD hS hl.1 rfl rfl (Nat.le_of_ble_eq_true rfl) dX0_valueAt_5 (fun H locs hP hD hS => ?_)
  refine lv_iload_n C.1 C.2.1 dX0_valueAt_8 rfl (lv_at hl 1 rfl) ?_
  refine cm_cN1 (host := RX3) 1 C (c_columnOf l D cI cZ cJ _ p0 (by omega)) tw_183 rfl rfl (C.2.2.2.2.2.2.2.2.2.2.2.2.1) tw_1 tw_182 (by decide +kernel) ⟨Nat.le_of_ble_eq_true rfl, Nat.le_of_ble_eq_true rfl⟩ ⟨Nat.zero_le _, Nat.zero_le _⟩ hP hD hS hl.1 rfl rfl (Nat.le_of_ble_eq_true rfl) dX0_valueAt_9 (fun H locs hP hD hS => ?_)
  refine lv_iconst (v := nI 2) C.1 C.2.1 dX0_valueAt_12 (by decide +kernel) ?_
  refine lv_iadd C.1 C.2.1 dX0_valueAt_13 ?_
  rw [nI_add]
  refine cm_cN1 (host := RX3) 3 C (c_cellAt l D cI cZ cJ _ hA (by decide) (p0 / 4) (p0 % 4 * 3 + 2) (by have := Nat.mod_lt p0 (show 4 > 0 by decide); omega)) tw_106 rfl rfl (C.2.2.2.2.2.2.2.2.1) tw_1 tw_105 (by decide +kernel) ⟨Nat.le_of_ble_eq_true rfl, Nat.le_of_ble_eq_true rfl⟩ ⟨Nat.zero_le _, Nat.zero_le _⟩ hP hD hS hl.1 rfl rfl (Nat.le_of_ble_eq_true rfl) dX0_valueAt_14 (fun H locs hP hD hS => ?_)
  exact cm_iret C hP hD hS dX0_valueAt_17 (rfl) (rfl)
set_option maxHeartbeats 4000000 in
set_option maxRecDepth 100000 in
/-- empty -/
theorem k_X0_empty (l : Launch) (D : va_G) (cI cZ cJ : ClassId) (ws : va_W) {qI qA im ad : Nat} {f : Nat → Int32} (hI : ws[qI]? = some (im, .inr (0, [.ref ad]))) (hA : ws[qA]? = some (ad, .inl (cI, 440, .inl f))) (p0 : Nat) (hp0 : p0 < 72) : CM l D (cm_T cI cZ cJ) yX0_empty cX0_empty 2 none (cm_rm 1 24) [.ref im, .int (nI p0)] ws none (ws.set qA (ad, .inl (cI, 440, .inl (emptyC f p0)))) := by
  refine CM.of (by decide) (Nat.le_of_ble_eq_true rfl) ?_
  intro p e s m below meth c ls H locs C hl hP hD hS
  refine lv_aload_n C.1 C.2.1 dX0_empty_0 rfl (lv_at hl 0 rfl) ?_
  refine va_get (ci := 0) (C := RX0) (T := TX0) (N := 1) C.1 C.2.1 C.2.2.2.2.2.1 ui_X0 C.2.2.2.2.1 C.2.2.2.2.2.2.2.1 hP qI (hI) rfl 0 (by decide) (C.2.2.2.2.2.1 _ tw_27) (fun _ h9 => h9) rfl dX0_empty_1 ?_
  refine lv_iload_n C.1 C.2.1 dX0_empty_4 rfl (lv_at hl 1 rfl) ?_
  refine cm_cN1 (host := RX3) 1 C (c_rowOf l D cI cZ cJ _ p0 (by omega)) tw_180 rfl rfl (C.2.2.2.2.2.2.2.2.2.2.2.1) tw_1 tw_179 (by decide +kernel) ⟨Nat.le_of_ble_eq_true rfl, Nat.le_of_ble_eq_true rfl⟩ ⟨Nat.zero_le _, Nat.zero_le _⟩ hP hD hS hl.1 rfl rfl (Nat.le_of_ble_eq_true rfl) dX0_empty_5 (fun H locs hP hD hS => ?_)
  refine lv_iload_n C.1 C.2.1 dX0_empty_8 rfl (lv_at hl 1 rfl) ?_
  refine cm_cN1 (host := RX3) 1 C (c_columnOf l D cI cZ cJ _ p0 (by omega)) tw_183 rfl rfl (C.2.2.2.2.2.2.2.2.2.2.2.2.1) tw_1 tw_182 (by decide +kernel) ⟨Nat.le_of_ble_eq_true rfl, Nat.le_of_ble_eq_true rfl⟩ ⟨Nat.zero_le _, Nat.zero_le _⟩ hP hD hS hl.1 rfl rfl (Nat.le_of_ble_eq_true rfl) dX0_empty_9 (fun H locs hP hD hS => ?_)
  refine lv_iconst (v := nI 0) C.1 C.2.1 dX0_empty_12 (by decide +kernel) ?_
  refine cm_cN0 (host := RX3) 4 C (c_tellCell l D cI cZ cJ _ hA (by decide) (p0 / 4) (p0 % 4 * 3) (nI 0) (by have := Nat.mod_lt p0 (show 4 > 0 by decide); omega)) tw_145 rfl rfl (C.2.2.2.2.2.2.2.2.2.1) tw_1 tw_144 (by decide +kernel) ⟨Nat.le_of_ble_eq_true rfl, Nat.le_of_ble_eq_true rfl⟩ ⟨Nat.zero_le _, Nat.zero_le _⟩ hP hD hS hl.1 rfl rfl (Nat.le_of_ble_eq_true rfl) dX0_empty_13 (fun H locs hP hD hS => ?_)
  exact cm_vret C hP hD hS dX0_empty_16 (rfl)
set_option maxHeartbeats 4000000 in
set_option maxRecDepth 100000 in
/-- fill -/
theorem k_X0_fill (l : Launch) (D : va_G) (cI cZ cJ : ClassId) (ws : va_W) {qI qA im ad : Nat} {f : Nat → Int32} (hI : ws[qI]? = some (im, .inr (0, [.ref ad]))) (hA : ws[qA]? = some (ad, .inl (cI, 440, .inl f))) (hq : qI ≠ qA) (p0 : Nat) (hp0 : p0 < 72) (k v : Int32) : CM l D (cm_T cI cZ cJ) yX0_fill cX0_fill 6 none (cm_rm 1 24) [.ref im, .int (nI p0), .int k, .int v] ws none (ws.set qA (ad, .inl (cI, 440, .inl (fillC f p0 k v)))) := by
  refine CM.of (by decide) (Nat.le_of_ble_eq_true rfl) ?_
  intro p e s m below meth c ls H locs C hl hP hD hS
  refine lv_iload_n C.1 C.2.1 dX0_fill_0 rfl (lv_at hl 1 rfl) ?_
  refine cm_cN1 (host := RX3) 1 C (c_rowOf l D cI cZ cJ _ p0 (by omega)) tw_180 rfl rfl (C.2.2.2.2.2.2.2.2.2.2.2.1) tw_1 tw_179 (by decide +kernel) ⟨Nat.le_of_ble_eq_true rfl, Nat.le_of_ble_eq_true rfl⟩ ⟨Nat.zero_le _, Nat.zero_le _⟩ hP hD hS hl.1 rfl rfl (Nat.le_of_ble_eq_true rfl) dX0_fill_1 (fun H locs hP hD hS => ?_)
  refine lv_istore (lv' := [(4, _), (0, _), (1, _), (2, _), (3, _)]) C.1 C.2.1 dX0_fill_4 hl (by decide) rfl (fun ls hl => ?_)
  refine lv_iload_n C.1 C.2.1 dX0_fill_6 rfl (lv_at hl 2 rfl) ?_
  refine cm_cN1 (host := RX3) 1 C (c_columnOf l D cI cZ cJ _ p0 (by omega)) tw_183 rfl rfl (C.2.2.2.2.2.2.2.2.2.2.2.2.1) tw_1 tw_182 (by decide +kernel) ⟨Nat.le_of_ble_eq_true rfl, Nat.le_of_ble_eq_true rfl⟩ ⟨Nat.zero_le _, Nat.zero_le _⟩ hP hD hS hl.1 rfl rfl (Nat.le_of_ble_eq_true rfl) dX0_fill_7 (fun H locs hP hD hS => ?_)
  refine lv_istore (lv' := [(5, _), (4, _), (0, _), (1, _), (2, _), (3, _)]) C.1 C.2.1 dX0_fill_10 hl (by decide) rfl (fun ls hl => ?_)
  refine lv_aload_n C.1 C.2.1 dX0_fill_12 rfl (lv_at hl 2 rfl) ?_
  refine va_get (ci := 0) (C := RX0) (T := TX0) (N := 1) C.1 C.2.1 C.2.2.2.2.2.1 ui_X0 C.2.2.2.2.1 C.2.2.2.2.2.2.2.1 hP qI (hI) rfl 0 (by decide) (C.2.2.2.2.2.1 _ tw_27) (fun _ h9 => h9) rfl dX0_fill_13 ?_
  refine lv_iload C.1 C.2.1 dX0_fill_16 (lv_at hl 1 rfl) ?_
  refine lv_iload C.1 C.2.1 dX0_fill_18 (lv_at hl 0 rfl) ?_
  refine lv_iconst (v := nI 1) C.1 C.2.1 dX0_fill_20 (by decide +kernel) ?_
  refine cm_cN0 (host := RX3) 4 C (c_tellCell l D cI cZ cJ _ hA (by decide) (p0 / 4) (p0 % 4 * 3) (nI 1) (by have := Nat.mod_lt p0 (show 4 > 0 by decide); omega)) tw_145 rfl rfl (C.2.2.2.2.2.2.2.2.2.1) tw_1 tw_144 (by decide +kernel) ⟨Nat.le_of_ble_eq_true rfl, Nat.le_of_ble_eq_true rfl⟩ ⟨Nat.zero_le _, Nat.zero_le _⟩ hP hD hS hl.1 rfl rfl (Nat.le_of_ble_eq_true rfl) dX0_fill_21 (fun H locs hP hD hS => ?_)
  refine lv_aload_n C.1 C.2.1 dX0_fill_24 rfl (lv_at hl 2 rfl) ?_
  refine va_get (ci := 0) (C := RX0) (T := TX0) (N := 1) C.1 C.2.1 C.2.2.2.2.2.1 ui_X0 C.2.2.2.2.1 C.2.2.2.2.2.2.2.1 hP qI (ws_ne hq hI) rfl 0 (by decide) (C.2.2.2.2.2.1 _ tw_27) (fun _ h9 => h9) rfl dX0_fill_25 ?_
  refine lv_iload C.1 C.2.1 dX0_fill_28 (lv_at hl 1 rfl) ?_
  refine lv_iload C.1 C.2.1 dX0_fill_30 (lv_at hl 0 rfl) ?_
  refine lv_iconst (v := nI 1) C.1 C.2.1 dX0_fill_32 (by decide +kernel) ?_
  refine lv_iadd C.1 C.2.1 dX0_fill_33 ?_
  rw [nI_add]
  refine lv_iload_n C.1 C.2.1 dX0_fill_34 rfl (lv_at hl 4 rfl) ?_
  refine cm_cN0 (host := RX3) 4 C (c_tellCell l D cI cZ cJ _ (ws_self hA) (by decide) (p0 / 4) (p0 % 4 * 3 + 1) (k) (by have := Nat.mod_lt p0 (show 4 > 0 by decide); omega)) tw_145 rfl rfl (C.2.2.2.2.2.2.2.2.2.1) tw_1 tw_144 (by decide +kernel) ⟨Nat.le_of_ble_eq_true rfl, Nat.le_of_ble_eq_true rfl⟩ ⟨Nat.zero_le _, Nat.zero_le _⟩ hP hD hS hl.1 rfl rfl (Nat.le_of_ble_eq_true rfl) dX0_fill_35 (fun H locs hP hD hS => ?_)
  rw [List.set_set] at hP hD
  refine lv_aload_n C.1 C.2.1 dX0_fill_38 rfl (lv_at hl 2 rfl) ?_
  refine va_get (ci := 0) (C := RX0) (T := TX0) (N := 1) C.1 C.2.1 C.2.2.2.2.2.1 ui_X0 C.2.2.2.2.1 C.2.2.2.2.2.2.2.1 hP qI (ws_ne hq hI) rfl 0 (by decide) (C.2.2.2.2.2.1 _ tw_27) (fun _ h9 => h9) rfl dX0_fill_39 ?_
  refine lv_iload C.1 C.2.1 dX0_fill_42 (lv_at hl 1 rfl) ?_
  refine lv_iload C.1 C.2.1 dX0_fill_44 (lv_at hl 0 rfl) ?_
  refine lv_iconst (v := nI 2) C.1 C.2.1 dX0_fill_46 (by decide +kernel) ?_
  refine lv_iadd C.1 C.2.1 dX0_fill_47 ?_
  rw [nI_add]
  refine lv_iload_n C.1 C.2.1 dX0_fill_48 rfl (lv_at hl 5 rfl) ?_
  refine cm_cN0 (host := RX3) 4 C (c_tellCell l D cI cZ cJ _ (ws_self hA) (by decide) (p0 / 4) (p0 % 4 * 3 + 2) (v) (by have := Nat.mod_lt p0 (show 4 > 0 by decide); omega)) tw_145 rfl rfl (C.2.2.2.2.2.2.2.2.2.1) tw_1 tw_144 (by decide +kernel) ⟨Nat.le_of_ble_eq_true rfl, Nat.le_of_ble_eq_true rfl⟩ ⟨Nat.zero_le _, Nat.zero_le _⟩ hP hD hS hl.1 rfl rfl (Nat.le_of_ble_eq_true rfl) dX0_fill_49 (fun H locs hP hD hS => ?_)
  rw [List.set_set] at hP hD
  exact cm_vret C hP hD hS dX0_fill_52 (rfl)
set_option maxHeartbeats 4000000 in
set_option maxRecDepth 100000 in
/-- tellRoot -/
theorem k_X0_tellRoot (l : Launch) (D : va_G) (cI cZ cJ : ClassId) (ws : va_W) {qI qA im ad : Nat} {f : Nat → Int32} (hI : ws[qI]? = some (im, .inr (0, [.ref ad]))) (hA : ws[qA]? = some (ad, .inl (cI, 440, .inl f))) (hq : qI ≠ qA) (a b : Int32) : CM l D (cm_T cI cZ cJ) yX0_tellRoot cX0_tellRoot 3 none (cm_rm 1 24) [.ref im, .int a, .int b] ws none (ws.set qA (ad, .inl (cI, 440, .inl (upd (upd f 396 a) 397 b)))) := by
  refine CM.of (by decide) (Nat.le_of_ble_eq_true rfl) ?_
  intro p e s m below meth c ls H locs C hl hP hD hS
  refine lv_aload_n C.1 C.2.1 dX0_tellRoot_0 rfl (lv_at hl 0 rfl) ?_
  refine va_get (ci := 0) (C := RX0) (T := TX0) (N := 1) C.1 C.2.1 C.2.2.2.2.2.1 ui_X0 C.2.2.2.2.1 C.2.2.2.2.2.2.2.1 hP qI (hI) rfl 0 (by decide) (C.2.2.2.2.2.1 _ tw_27) (fun _ h9 => h9) rfl dX0_tellRoot_1 ?_
  refine lv_bipush (v := nI 18) C.1 C.2.1 dX0_tellRoot_4 (by decide +kernel) ?_
  refine lv_iconst (v := nI 0) C.1 C.2.1 dX0_tellRoot_6 (by decide +kernel) ?_
  refine lv_iload_n C.1 C.2.1 dX0_tellRoot_7 rfl (lv_at hl 1 rfl) ?_
  refine cm_cN0 (host := RX3) 4 C (c_tellCell l D cI cZ cJ _ hA (by decide) (18) (0) (a) (by decide)) tw_145 rfl rfl (C.2.2.2.2.2.2.2.2.2.1) tw_1 tw_144 (by decide +kernel) ⟨Nat.le_of_ble_eq_true rfl, Nat.le_of_ble_eq_true rfl⟩ ⟨Nat.zero_le _, Nat.zero_le _⟩ hP hD hS hl.1 rfl rfl (Nat.le_of_ble_eq_true rfl) dX0_tellRoot_8 (fun H locs hP hD hS => ?_)
  refine lv_aload_n C.1 C.2.1 dX0_tellRoot_11 rfl (lv_at hl 0 rfl) ?_
  refine va_get (ci := 0) (C := RX0) (T := TX0) (N := 1) C.1 C.2.1 C.2.2.2.2.2.1 ui_X0 C.2.2.2.2.1 C.2.2.2.2.2.2.2.1 hP qI (ws_ne hq hI) rfl 0 (by decide) (C.2.2.2.2.2.1 _ tw_27) (fun _ h9 => h9) rfl dX0_tellRoot_12 ?_
  refine lv_bipush (v := nI 18) C.1 C.2.1 dX0_tellRoot_15 (by decide +kernel) ?_
  refine lv_iconst (v := nI 1) C.1 C.2.1 dX0_tellRoot_17 (by decide +kernel) ?_
  refine lv_iload_n C.1 C.2.1 dX0_tellRoot_18 rfl (lv_at hl 2 rfl) ?_
  refine cm_cN0 (host := RX3) 4 C (c_tellCell l D cI cZ cJ _ (ws_self hA) (by decide) (18) (1) (b) (by decide)) tw_145 rfl rfl (C.2.2.2.2.2.2.2.2.2.1) tw_1 tw_144 (by decide +kernel) ⟨Nat.le_of_ble_eq_true rfl, Nat.le_of_ble_eq_true rfl⟩ ⟨Nat.zero_le _, Nat.zero_le _⟩ hP hD hS hl.1 rfl rfl (Nat.le_of_ble_eq_true rfl) dX0_tellRoot_19 (fun H locs hP hD hS => ?_)
  rw [List.set_set] at hP hD
  exact cm_vret C hP hD hS dX0_tellRoot_22 (rfl)
set_option maxHeartbeats 4000000 in
set_option maxRecDepth 100000 in
/-- emptyJournal -/
theorem k_X0_emptyJournal (l : Launch) (D : va_G) (cI cZ cJ : ClassId) (ws : va_W) {qI qA im ad : Nat} {f : Nat → Int32} (hI : ws[qI]? = some (im, .inr (0, [.ref ad]))) (hA : ws[qA]? = some (ad, .inl (cI, 440, .inl f))) : CM l D (cm_T cI cZ cJ) yX0_emptyJournal cX0_emptyJournal 1 none (cm_rm 1 24) [.ref im] ws none (ws.set qA (ad, .inl (cI, 440, .inl (upd f 418 (nI 0))))) := by
  refine CM.of (by decide) (Nat.le_of_ble_eq_true rfl) ?_
  intro p e s m below meth c ls H locs C hl hP hD hS
  refine lv_aload_n C.1 C.2.1 dX0_emptyJournal_0 rfl (lv_at hl 0 rfl) ?_
  refine va_get (ci := 0) (C := RX0) (T := TX0) (N := 1) C.1 C.2.1 C.2.2.2.2.2.1 ui_X0 C.2.2.2.2.1 C.2.2.2.2.2.2.2.1 hP qI (hI) rfl 0 (by decide) (C.2.2.2.2.2.1 _ tw_27) (fun _ h9 => h9) rfl dX0_emptyJournal_1 ?_
  refine lv_bipush (v := nI 19) C.1 C.2.1 dX0_emptyJournal_4 (by decide +kernel) ?_
  refine lv_iconst (v := nI 0) C.1 C.2.1 dX0_emptyJournal_6 (by decide +kernel) ?_
  refine lv_iconst (v := nI 0) C.1 C.2.1 dX0_emptyJournal_7 (by decide +kernel) ?_
  refine cm_cN0 (host := RX3) 4 C (c_tellCell l D cI cZ cJ _ hA (by decide) (19) (0) (nI 0) (by decide)) tw_145 rfl rfl (C.2.2.2.2.2.2.2.2.2.1) tw_1 tw_144 (by decide +kernel) ⟨Nat.le_of_ble_eq_true rfl, Nat.le_of_ble_eq_true rfl⟩ ⟨Nat.zero_le _, Nat.zero_le _⟩ hP hD hS hl.1 rfl rfl (Nat.le_of_ble_eq_true rfl) dX0_emptyJournal_8 (fun H locs hP hD hS => ?_)
  exact cm_vret C hP hD hS dX0_emptyJournal_11 (rfl)
set_option maxHeartbeats 4000000 in
set_option maxRecDepth 100000 in
/-- tellJournal -/
theorem k_X0_tellJournal (l : Launch) (D : va_G) (cI cZ cJ : ClassId) (ws : va_W) {qI qA im ad : Nat} {f : Nat → Int32} (hI : ws[qI]? = some (im, .inr (0, [.ref ad]))) (hA : ws[qA]? = some (ad, .inl (cI, 440, .inl f))) {qM qN mv an : Nat} {fm : Nat → Int32} (hM : ws[qM]? = some (mv, .inr (1, [.ref an]))) (hN : ws[qN]? = some (an, .inl (cI, 22, .inl fm))) : CM l D (cm_T cI cZ cJ) yX0_tellJournal cX0_tellJournal 2 none (cm_rm 2 65) [.ref im, .ref mv] ws none (ws.set qA (ad, .inl (cI, 440, .inl (va_cpy fm f 0 418 22)))) := by
  refine CM.of (by decide) (Nat.le_of_ble_eq_true rfl) ?_
  intro p e s m below meth c ls H locs C hl hP hD hS
  refine lv_aload_n C.1 C.2.1 dX0_tellJournal_0 rfl (lv_at hl 1 rfl) ?_
  refine va_get (ci := 1) (C := RX1) (T := TX1) (N := 1) C.1 C.2.1 C.2.2.2.2.2.1 ui_X1 C.2.2.2.2.1 C.2.2.2.2.2.2.2.1 hP qM (hM) rfl 0 (by decide) (C.2.2.2.2.2.1 _ tw_57) (fun _ h9 => h9) rfl dX0_tellJournal_1 ?_
  refine lv_iconst (v := nI 0) C.1 C.2.1 dX0_tellJournal_4 (by decide +kernel) ?_
  refine lv_aload_n C.1 C.2.1 dX0_tellJournal_5 rfl (lv_at hl 0 rfl) ?_
  refine va_get (ci := 0) (C := RX0) (T := TX0) (N := 1) C.1 C.2.1 C.2.2.2.2.2.1 ui_X0 C.2.2.2.2.1 C.2.2.2.2.2.2.2.1 hP qI (hI) rfl 0 (by decide) (C.2.2.2.2.2.1 _ tw_27) (fun _ h9 => h9) rfl dX0_tellJournal_6 ?_
  refine lv_bipush (v := nI 19) C.1 C.2.1 dX0_tellJournal_9 (by decide +kernel) ?_
  refine cm_cN0 (host := RX3) 4 C (c_copyRow l D cI cZ cJ _ hN (by decide) hA (by decide) 0 19 (by decide) (by decide)) tw_240 rfl rfl (C.2.2.2.2.2.2.2.2.2.2.1) tw_1 tw_239 (by decide +kernel) ⟨Nat.le_of_ble_eq_true rfl, Nat.le_of_ble_eq_true rfl⟩ ⟨Nat.zero_le _, Nat.zero_le _⟩ hP hD hS hl.1 rfl rfl (Nat.le_of_ble_eq_true rfl) dX0_tellJournal_11 (fun H locs hP hD hS => ?_)
  exact cm_vret C hP hD hS dX0_tellJournal_14 (rfl)
set_option maxHeartbeats 4000000 in
set_option maxRecDepth 100000 in
/-- takeRow -/
theorem k_X0_takeRow (l : Launch) (D : va_G) (cI cZ cJ : ClassId) (ws : va_W) {qI qA im ad : Nat} {f : Nat → Int32} (hI : ws[qI]? = some (im, .inr (0, [.ref ad]))) (hA : ws[qA]? = some (ad, .inl (cI, 440, .inl f))) {qJ qB jm bd : Nat} {f2 : Nat → Int32} (hJ : ws[qJ]? = some (jm, .inr (0, [.ref bd]))) (hB : ws[qB]? = some (bd, .inl (cI, 440, .inl f2))) (r : Nat) (hr : r < 20) : CM l D (cm_T cI cZ cJ) yX0_takeRow cX0_takeRow 3 none (cm_rm 2 65) [.ref im, .ref jm, .int (nI r)] ws none (ws.set qA (ad, .inl (cI, 440, .inl (va_cpy f2 f (r * 22) (r * 22) 22)))) := by
  refine CM.of (by decide) (Nat.le_of_ble_eq_true rfl) ?_
  intro p e s m below meth c ls H locs C hl hP hD hS
  refine lv_aload_n C.1 C.2.1 dX0_takeRow_0 rfl (lv_at hl 1 rfl) ?_
  refine va_get (ci := 0) (C := RX0) (T := TX0) (N := 1) C.1 C.2.1 C.2.2.2.2.2.1 ui_X0 C.2.2.2.2.1 C.2.2.2.2.2.2.2.1 hP qJ (hJ) rfl 0 (by decide) (C.2.2.2.2.2.1 _ tw_27) (fun _ h9 => h9) rfl dX0_takeRow_1 ?_
  refine lv_iload_n C.1 C.2.1 dX0_takeRow_4 rfl (lv_at hl 2 rfl) ?_
  refine lv_aload_n C.1 C.2.1 dX0_takeRow_5 rfl (lv_at hl 0 rfl) ?_
  refine va_get (ci := 0) (C := RX0) (T := TX0) (N := 1) C.1 C.2.1 C.2.2.2.2.2.1 ui_X0 C.2.2.2.2.1 C.2.2.2.2.2.2.2.1 hP qI (hI) rfl 0 (by decide) (C.2.2.2.2.2.1 _ tw_27) (fun _ h9 => h9) rfl dX0_takeRow_6 ?_
  refine lv_iload_n C.1 C.2.1 dX0_takeRow_9 rfl (lv_at hl 2 rfl) ?_
  refine cm_cN0 (host := RX3) 4 C (c_copyRow l D cI cZ cJ _ hB (by decide) hA (by decide) r r (by omega) (by omega)) tw_240 rfl rfl (C.2.2.2.2.2.2.2.2.2.2.1) tw_1 tw_239 (by decide +kernel) ⟨Nat.le_of_ble_eq_true rfl, Nat.le_of_ble_eq_true rfl⟩ ⟨Nat.zero_le _, Nat.zero_le _⟩ hP hD hS hl.1 rfl rfl (Nat.le_of_ble_eq_true rfl) dX0_takeRow_10 (fun H locs hP hD hS => ?_)
  exact cm_vret C hP hD hS dX0_takeRow_13 (rfl)
set_option maxHeartbeats 4000000 in
set_option maxRecDepth 100000 in
/-- leastEmpty -/
theorem k_X0_leastEmpty (l : Launch) (D : va_G) (cI cZ cJ : ClassId) (ws : va_W) {qI qA im ad : Nat} {f : Nat → Int32} (hI : ws[qI]? = some (im, .inr (0, [.ref ad]))) (hA : ws[qA]? = some (ad, .inl (cI, 440, .inl f))) (r : Nat) (hr : r < 20) : CM l D (cm_T cI cZ cJ) yX0_leastEmpty cX0_leastEmpty 3 (some .int) (cm_rm 1 23) [.ref im, .int (nI r)] ws (some (.int (optI (scan (emP f r) (r * 4) 0 4)))) (ws) := by
  refine CM.of (by decide) (Nat.le_of_ble_eq_true rfl) ?_
  intro p e s m below meth c ls H locs C hl hP hD hS
  refine lv_iconst (v := nI 0) C.1 C.2.1 dX0_leastEmpty_0 (by decide +kernel) ?_
  refine lv_istore_n (lv' := [(2, _), (0, _), (1, _)]) C.1 C.2.1 dX0_leastEmpty_1 rfl hl (by decide) rfl (fun ls hl => ?_)
  have loop : ∀ (k j : Nat), j + k = 4 → ∀ (ls : Array Slot) (H : Heap) (locs : List Loc), lv_has ls 3 [(2, .int (nI j)), (0, .ref im), (1, .int (nI r))] → va_P D vwCl (ws) H → va_D (cm_A ws) (ws) → va_S (cm_A ws) s.heap H locs → W p l e (cm_rm 1 23) s m ([.ref im, .int (nI r)] : List Value).toArray below meth c H locs 0 0 (cm_Q below D [.ref im, .int (nI r)] s ws (some (.int (optI (scan (emP f r) (r * 4) j k)))) (ws)) (F0 m 2 ls []) := by
    intro k
    induction k with
    | zero =>
      intro j hj ls H locs hl hP hD hS
      refine lv_iload_n C.1 C.2.1 dX0_leastEmpty_2 rfl (lv_at hl 0 rfl) ?_
      refine lv_iconst (v := nI 4) C.1 C.2.1 dX0_leastEmpty_3 (by decide +kernel) ?_
      refine lv_icmp_ge (tgt := 33) C.1 C.2.1 dX0_leastEmpty_4 (by decide) (fun _ => ?_) (fun h => absurd (nI_le (by omega) (by omega)) h)
      refine lv_iconst (v := (-1)) C.1 C.2.1 dX0_leastEmpty_33 (by decide +kernel) ?_
      exact cm_iret C hP hD hS dX0_leastEmpty_34 rfl rfl
    | succ k ih =>
      intro j hj ls H locs hl hP hD hS
      refine lv_iload_n C.1 C.2.1 dX0_leastEmpty_2 rfl (lv_at hl 0 rfl) ?_
      refine lv_iconst (v := nI 4) C.1 C.2.1 dX0_leastEmpty_3 (by decide +kernel) ?_
      refine lv_icmp_ge (tgt := 33) C.1 C.2.1 dX0_leastEmpty_4 (by decide) (fun h => absurd h (nI_ge (by omega) (by decide))) (fun _ => ?_)
      refine lv_aload_n C.1 C.2.1 dX0_leastEmpty_7 rfl (lv_at hl 1 rfl) ?_
      refine va_get (ci := 0) (C := RX0) (T := TX0) (N := 1) C.1 C.2.1 C.2.2.2.2.2.1 ui_X0 C.2.2.2.2.1 C.2.2.2.2.2.2.2.1 hP qI (hI) rfl 0 (by decide) (C.2.2.2.2.2.1 _ tw_27) (fun _ h9 => h9) rfl dX0_leastEmpty_8 ?_
      refine lv_iload_n C.1 C.2.1 dX0_leastEmpty_11 rfl (lv_at hl 2 rfl) ?_
      refine lv_iload_n C.1 C.2.1 dX0_leastEmpty_12 rfl (lv_at hl 0 rfl) ?_
      refine lv_iconst (v := nI 3) C.1 C.2.1 dX0_leastEmpty_13 (by decide +kernel) ?_
      refine lv_imul C.1 C.2.1 dX0_leastEmpty_14 ?_
      rw [pk_mul]
      refine cm_cN1 (host := RX3) 3 C (c_cellAt l D cI cZ cJ _ hA (by decide) (r) (j * 3) (by omega)) tw_106 rfl rfl (C.2.2.2.2.2.2.2.2.1) tw_1 tw_105 (by decide +kernel) ⟨Nat.le_of_ble_eq_true rfl, Nat.le_of_ble_eq_true rfl⟩ ⟨Nat.zero_le _, Nat.zero_le _⟩ hP hD hS hl.1 rfl rfl (Nat.le_of_ble_eq_true rfl) dX0_leastEmpty_15 (fun H locs hP hD hS => ?_)
      refine lv_if_ne (tgt := 27) C.1 C.2.1 dX0_leastEmpty_18 (by decide) (fun h18 => ?_) (fun h18 => ?_)
      · refine lv_iinc (v := nI (j + 1)) (lv' := [(2, _), (0, _), (1, _)]) C.1 C.2.1 dX0_leastEmpty_27 hl (k := 0) rfl (nI_1 j) (by decide) rfl (fun ls hl => ?_)
        refine lv_goto (tgt := 2) C.1 C.2.1 dX0_leastEmpty_30 (by decide) ?_
        rw [show scan (emP f r) (r * 4) j (k + 1) = scan (emP f r) (r * 4) (j + 1) k from if_neg (by unfold emP; simp [h18])]
        exact ih (j + 1) (by omega) ls H locs hl hP hD hS
      · refine lv_iload_n C.1 C.2.1 dX0_leastEmpty_21 rfl (lv_at hl 2 rfl) ?_
        refine lv_iload_n C.1 C.2.1 dX0_leastEmpty_22 rfl (lv_at hl 0 rfl) ?_
        refine cm_cN1 (host := RX3) 2 C (c_placeOf l D cI cZ cJ _ r j) tw_134 rfl rfl (C.2.2.2.2.2.2.2.2.2.2.2.2.2.1) tw_1 tw_133 (by decide +kernel) ⟨Nat.le_of_ble_eq_true rfl, Nat.le_of_ble_eq_true rfl⟩ ⟨Nat.zero_le _, Nat.zero_le _⟩ hP hD hS hl.1 rfl rfl (Nat.le_of_ble_eq_true rfl) dX0_leastEmpty_23 (fun H locs hP hD hS => ?_)
        exact cm_iret C hP hD hS dX0_leastEmpty_26 (by rw [show scan (emP f r) (r * 4) j (k + 1) = some (r * 4 + j) from if_pos (by unfold emP; simp [h18])]; rfl) rfl
  exact loop 4 0 rfl ls H locs hl hP hD hS
set_option maxHeartbeats 4000000 in
set_option maxRecDepth 100000 in
/-- placeIn -/
theorem k_X0_placeIn (l : Launch) (D : va_G) (cI cZ cJ : ClassId) (ws : va_W) {qI qA im ad : Nat} {f : Nat → Int32} (hI : ws[qI]? = some (im, .inr (0, [.ref ad]))) (hA : ws[qA]? = some (ad, .inl (cI, 440, .inl f))) (r : Nat) (hr : r < 20) (key : Int32) : CM l D (cm_T cI cZ cJ) yX0_placeIn cX0_placeIn 5 (some .int) (cm_rm 1 23) [.ref im, .int (nI r), .int key] ws (some (.int (optI (scan (atP f r key) (r * 4) 0 4)))) (ws) := by
  refine CM.of (by decide) (Nat.le_of_ble_eq_true rfl) ?_
  intro p e s m below meth c ls H locs C hl hP hD hS
  refine lv_iconst (v := nI 0) C.1 C.2.1 dX0_placeIn_0 (by decide +kernel) ?_
  refine lv_istore_n (lv' := [(3, _), (0, _), (1, _), (2, _)]) C.1 C.2.1 dX0_placeIn_1 rfl hl (by decide) rfl (fun ls hl => ?_)
  have loop : ∀ (k j : Nat), j + k = 4 → ∀ (ls : Array Slot) (H : Heap) (locs : List Loc), lv_has ls 5 [(3, .int (nI j)), (0, .ref im), (1, .int (nI r)), (2, .int key)] → va_P D vwCl (ws) H → va_D (cm_A ws) (ws) → va_S (cm_A ws) s.heap H locs → W p l e (cm_rm 1 23) s m ([.ref im, .int (nI r), .int key] : List Value).toArray below meth c H locs 0 0 (cm_Q below D [.ref im, .int (nI r), .int key] s ws (some (.int (optI (scan (atP f r key) (r * 4) j k)))) (ws)) (F0 m 2 ls []) := by
    intro k
    induction k with
    | zero =>
      intro j hj ls H locs hl hP hD hS
      refine lv_iload_n C.1 C.2.1 dX0_placeIn_2 rfl (lv_at hl 0 rfl) ?_
      refine lv_iconst (v := nI 4) C.1 C.2.1 dX0_placeIn_3 (by decide +kernel) ?_
      refine lv_icmp_ge (tgt := 62) C.1 C.2.1 dX0_placeIn_4 (by decide) (fun _ => ?_) (fun h => absurd (nI_le (by omega) (by omega)) h)
      refine lv_iconst (v := (-1)) C.1 C.2.1 dX0_placeIn_62 (by decide +kernel) ?_
      exact cm_iret C hP hD hS dX0_placeIn_63 rfl rfl
    | succ k ih =>
      intro j hj ls H locs hl hP hD hS
      refine lv_iload_n C.1 C.2.1 dX0_placeIn_2 rfl (lv_at hl 0 rfl) ?_
      refine lv_iconst (v := nI 4) C.1 C.2.1 dX0_placeIn_3 (by decide +kernel) ?_
      refine lv_icmp_ge (tgt := 62) C.1 C.2.1 dX0_placeIn_4 (by decide) (fun h => absurd h (nI_ge (by omega) (by decide))) (fun _ => ?_)
      refine lv_aload_n C.1 C.2.1 dX0_placeIn_7 rfl (lv_at hl 1 rfl) ?_
      refine va_get (ci := 0) (C := RX0) (T := TX0) (N := 1) C.1 C.2.1 C.2.2.2.2.2.1 ui_X0 C.2.2.2.2.1 C.2.2.2.2.2.2.2.1 hP qI (hI) rfl 0 (by decide) (C.2.2.2.2.2.1 _ tw_27) (fun _ h9 => h9) rfl dX0_placeIn_8 ?_
      refine lv_iload_n C.1 C.2.1 dX0_placeIn_11 rfl (lv_at hl 2 rfl) ?_
      refine lv_iload_n C.1 C.2.1 dX0_placeIn_12 rfl (lv_at hl 0 rfl) ?_
      refine lv_iconst (v := nI 3) C.1 C.2.1 dX0_placeIn_13 (by decide +kernel) ?_
      refine lv_imul C.1 C.2.1 dX0_placeIn_14 ?_
      rw [pk_mul]
      refine cm_cN1 (host := RX3) 3 C (c_cellAt l D cI cZ cJ _ hA (by decide) (r) (j * 3) (by omega)) tw_106 rfl rfl (C.2.2.2.2.2.2.2.2.1) tw_1 tw_105 (by decide +kernel) ⟨Nat.le_of_ble_eq_true rfl, Nat.le_of_ble_eq_true rfl⟩ ⟨Nat.zero_le _, Nat.zero_le _⟩ hP hD hS hl.1 rfl rfl (Nat.le_of_ble_eq_true rfl) dX0_placeIn_15 (fun H locs hP hD hS => ?_)
      refine lv_if_eq (tgt := 25) C.1 C.2.1 dX0_placeIn_18 (by decide) (fun h18 => ?_) (fun h18 => ?_)
      · refine lv_iconst (v := nI 0) C.1 C.2.1 dX0_placeIn_25 (by decide +kernel) ?_
        refine lv_istore (lv' := [(4, _), (3, _), (0, _), (1, _), (2, _)]) C.1 C.2.1 dX0_placeIn_26 hl (by decide) rfl (fun ls hl => ?_)
        refine lv_iload C.1 C.2.1 dX0_placeIn_28 (lv_at hl 0 rfl) ?_
        refine lv_if_eq (tgt := 56) C.1 C.2.1 dX0_placeIn_30 (by decide) (fun _ => ?_) (fun h => absurd (by decide) h)
        refine lv_iinc (v := nI (j + 1)) (lv' := [(3, _), (4, _), (0, _), (1, _), (2, _)]) C.1 C.2.1 dX0_placeIn_56 hl (k := 1) rfl (nI_1 j) (by decide) rfl (fun ls hl => ?_)
        refine lv_goto (tgt := 2) C.1 C.2.1 dX0_placeIn_59 (by decide) ?_
        rw [show scan (atP f r key) (r * 4) j (k + 1) = scan (atP f r key) (r * 4) (j + 1) k from if_neg (by unfold atP; simp [h18])]
        exact ih (j + 1) (by omega) ls H locs (lv_sub hl [0, 2, 3, 4] rfl) hP hD hS
      · refine lv_iconst (v := nI 1) C.1 C.2.1 dX0_placeIn_21 (by decide +kernel) ?_
        refine lv_goto (tgt := 26) C.1 C.2.1 dX0_placeIn_22 (by decide) ?_
        refine lv_istore (lv' := [(4, _), (3, _), (0, _), (1, _), (2, _)]) C.1 C.2.1 dX0_placeIn_26 hl (by decide) rfl (fun ls hl => ?_)
        refine lv_iload C.1 C.2.1 dX0_placeIn_28 (lv_at hl 0 rfl) ?_
        refine lv_if_eq (tgt := 56) C.1 C.2.1 dX0_placeIn_30 (by decide) (fun h => absurd h (by decide)) (fun _ => ?_)
        refine lv_aload_n C.1 C.2.1 dX0_placeIn_33 rfl (lv_at hl 2 rfl) ?_
        refine va_get (ci := 0) (C := RX0) (T := TX0) (N := 1) C.1 C.2.1 C.2.2.2.2.2.1 ui_X0 C.2.2.2.2.1 C.2.2.2.2.2.2.2.1 hP qI (hI) rfl 0 (by decide) (C.2.2.2.2.2.1 _ tw_27) (fun _ h9 => h9) rfl dX0_placeIn_34 ?_
        refine lv_iload_n C.1 C.2.1 dX0_placeIn_37 rfl (lv_at hl 3 rfl) ?_
        refine lv_iload_n C.1 C.2.1 dX0_placeIn_38 rfl (lv_at hl 1 rfl) ?_
        refine lv_iconst (v := nI 3) C.1 C.2.1 dX0_placeIn_39 (by decide +kernel) ?_
        refine lv_imul C.1 C.2.1 dX0_placeIn_40 ?_
        rw [pk_mul]
        refine lv_iconst (v := nI 1) C.1 C.2.1 dX0_placeIn_41 (by decide +kernel) ?_
        refine lv_iadd C.1 C.2.1 dX0_placeIn_42 ?_
        rw [nI_add]
        refine cm_cN1 (host := RX3) 3 C (c_cellAt l D cI cZ cJ _ hA (by decide) (r) (j * 3 + 1) (by omega)) tw_106 rfl rfl (C.2.2.2.2.2.2.2.2.1) tw_1 tw_105 (by decide +kernel) ⟨Nat.le_of_ble_eq_true rfl, Nat.le_of_ble_eq_true rfl⟩ ⟨Nat.zero_le _, Nat.zero_le _⟩ hP hD hS hl.1 rfl rfl (Nat.le_of_ble_eq_true rfl) dX0_placeIn_43 (fun H locs hP hD hS => ?_)
        refine lv_iload_n C.1 C.2.1 dX0_placeIn_46 rfl (lv_at hl 4 rfl) ?_
        refine lv_icmp_ne (tgt := 56) C.1 C.2.1 dX0_placeIn_47 (by decide) (fun h47 => ?_) (fun h47 => ?_)
        · refine lv_iinc (v := nI (j + 1)) (lv' := [(3, _), (4, _), (0, _), (1, _), (2, _)]) C.1 C.2.1 dX0_placeIn_56 hl (k := 1) rfl (nI_1 j) (by decide) rfl (fun ls hl => ?_)
          refine lv_goto (tgt := 2) C.1 C.2.1 dX0_placeIn_59 (by decide) ?_
          rw [show scan (atP f r key) (r * 4) j (k + 1) = scan (atP f r key) (r * 4) (j + 1) k from if_neg (by unfold atP; simp [h18, h47])]
          exact ih (j + 1) (by omega) ls H locs (lv_sub hl [0, 2, 3, 4] rfl) hP hD hS
        · refine lv_iload_n C.1 C.2.1 dX0_placeIn_50 rfl (lv_at hl 3 rfl) ?_
          refine lv_iload_n C.1 C.2.1 dX0_placeIn_51 rfl (lv_at hl 1 rfl) ?_
          refine cm_cN1 (host := RX3) 2 C (c_placeOf l D cI cZ cJ _ r j) tw_134 rfl rfl (C.2.2.2.2.2.2.2.2.2.2.2.2.2.1) tw_1 tw_133 (by decide +kernel) ⟨Nat.le_of_ble_eq_true rfl, Nat.le_of_ble_eq_true rfl⟩ ⟨Nat.zero_le _, Nat.zero_le _⟩ hP hD hS hl.1 rfl rfl (Nat.le_of_ble_eq_true rfl) dX0_placeIn_52 (fun H locs hP hD hS => ?_)
          exact cm_iret C hP hD hS dX0_placeIn_55 (by rw [show scan (atP f r key) (r * 4) j (k + 1) = some (r * 4 + j) from if_pos (by unfold atP; simp [h18, h47])]; rfl) rfl
  exact loop 4 0 rfl ls H locs hl hP hD hS
