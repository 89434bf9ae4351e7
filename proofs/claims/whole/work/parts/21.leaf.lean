/-! ===== leaves of the class: places, rows, cells ===== -/
abbrev cm_rm (f lo : Nat) : Room := { frames := f, cells := 0, slots := 0, locals := lo }
theorem nI_lit (n : Nat) : Int32.ofNat n = nI n := rfl
/-- '>>>' by a literal -/
def us (x : Int32) (k : Nat) : Int32 := (x.toUInt32 >>> ((nI k).toUInt32 &&& Int32.toUInt32 31)).toInt32
/-- a HOME's number by one of the two factors -/
def hm (s k f : Int32) : Nat := (((((-1640531535) * k + s) ^^^ us ((-1640531535) * k + s) 15) * f) ^^^ us ((((-1640531535) * k + s) ^^^ us ((-1640531535) * k + s) 15) * f) 13).toBitVec.toNat % 2 ^ 3
/-- the first HOME, the second one -/
def hm1 (s k : Int32) : Nat := hm s k (-2048144789)
def hm2 (s k : Int32) : Nat := if hm s k (-1028477387) = hm1 s k then (hm1 s k + 1) % 8 else hm s k (-1028477387)
theorem hm_lt (s k f : Int32) : hm s k f < 8 := Nat.mod_lt _ (by decide)
theorem hm1_lt (s k : Int32) : hm1 s k < 8 := hm_lt _ _ _
theorem hm2_lt (s k : Int32) : hm2 s k < 8 := by
  unfold hm2
  split
  · exact Nat.mod_lt _ (by decide)
  · exact hm_lt _ _ _
set_option maxHeartbeats 4000000 in
set_option maxRecDepth 100000 in
/-- placeOf -/
theorem c_placeOf (l : Launch) (D : va_G) (cI cZ cJ : ClassId) (ws : va_W) (a b : Nat) : CM l D (cm_T cI cZ cJ) yX3_placeOf cX3_placeOf 2 (some .int) (cm_rm 0 0) [.int (nI a), .int (nI b)] ws (some (.int (nI (a * 4 + b)))) (ws) := by
  refine CM.of (by decide) (Nat.le_of_ble_eq_true rfl) ?_
  intro p e s m below meth c ls H locs C hl hP hD hS
  refine lv_iload_n C.1 C.2.1 dX3_placeOf_0 rfl (lv_at hl 0 rfl) ?_
  refine lv_iconst (v := nI 4) C.1 C.2.1 dX3_placeOf_1 (by decide +kernel) ?_
  refine lv_imul C.1 C.2.1 dX3_placeOf_2 ?_
  rw [pk_mul]
  refine lv_iload_n C.1 C.2.1 dX3_placeOf_3 rfl (lv_at hl 1 rfl) ?_
  refine lv_iadd C.1 C.2.1 dX3_placeOf_4 ?_
  rw [nI_add]
  exact cm_iret C hP hD hS dX3_placeOf_5 rfl rfl
set_option maxHeartbeats 4000000 in
set_option maxRecDepth 100000 in
/-- rowOf -/
theorem c_rowOf (l : Launch) (D : va_G) (cI cZ cJ : ClassId) (ws : va_W) (a : Nat) (ha : a < 2 ^ 31) : CM l D (cm_T cI cZ cJ) yX3_rowOf cX3_rowOf 1 (some .int) (cm_rm 0 0) [.int (nI a)] ws (some (.int (nI (a / 4)))) (ws) := by
  refine CM.of (by decide) (Nat.le_of_ble_eq_true rfl) ?_
  intro p e s m below meth c ls H locs C hl hP hD hS
  refine lv_iload_n C.1 C.2.1 dX3_rowOf_0 rfl (lv_at hl 0 rfl) ?_
  refine lv_iconst (v := nI 4) C.1 C.2.1 dX3_rowOf_1 (by decide +kernel) ?_
  refine lv_idiv C.1 C.2.1 dX3_rowOf_2 (by decide) ?_
  rw [pk_div (by omega) (by decide) (by decide)]
  exact cm_iret C hP hD hS dX3_rowOf_3 rfl rfl
set_option maxHeartbeats 4000000 in
set_option maxRecDepth 100000 in
/-- columnOf -/
theorem c_columnOf (l : Launch) (D : va_G) (cI cZ cJ : ClassId) (ws : va_W) (a : Nat) (ha : a < 2 ^ 31) : CM l D (cm_T cI cZ cJ) yX3_columnOf cX3_columnOf 1 (some .int) (cm_rm 0 0) [.int (nI a)] ws (some (.int (nI (a % 4 * 3)))) (ws) := by
  refine CM.of (by decide) (Nat.le_of_ble_eq_true rfl) ?_
  intro p e s m below meth c ls H locs C hl hP hD hS
  refine lv_iload_n C.1 C.2.1 dX3_columnOf_0 rfl (lv_at hl 0 rfl) ?_
  refine lv_iconst (v := nI 4) C.1 C.2.1 dX3_columnOf_1 (by decide +kernel) ?_
  refine lv_irem C.1 C.2.1 dX3_columnOf_2 (by decide) ?_
  rw [pk_rem (by omega) (by decide) (by decide)]
  refine lv_iconst (v := nI 3) C.1 C.2.1 dX3_columnOf_3 (by decide +kernel) ?_
  refine lv_imul C.1 C.2.1 dX3_columnOf_4 ?_
  rw [pk_mul]
  exact cm_iret C hP hD hS dX3_columnOf_5 rfl rfl
set_option maxHeartbeats 4000000 in
set_option maxRecDepth 100000 in
/-- cellAt -/
theorem c_cellAt (l : Launch) (D : va_G) (cI cZ cJ : ClassId) (ws : va_W) {q ad n : Nat} {f : Nat → Int32} (he : ws[q]? = some (ad, .inl (cI, n, .inl f))) (hn : n < 2 ^ 31) (a b : Nat) (hi : a * 22 + b < n) : CM l D (cm_T cI cZ cJ) yX3_cellAt cX3_cellAt 4 (some .int) (cm_rm 0 0) [.ref ad, .int (nI a), .int (nI b)] ws (some (.int (f (a * 22 + b)))) (ws) := by
  refine CM.of (by decide) (Nat.le_of_ble_eq_true rfl) ?_
  intro p e s m below meth c ls H locs C hl hP hD hS
  refine lv_iload_n C.1 C.2.1 dX3_cellAt_0 rfl (lv_at hl 1 rfl) ?_
  refine lv_bipush (v := nI 22) C.1 C.2.1 dX3_cellAt_1 (by decide +kernel) ?_
  refine lv_imul C.1 C.2.1 dX3_cellAt_3 ?_
  rw [pk_mul]
  refine lv_iload_n C.1 C.2.1 dX3_cellAt_4 rfl (lv_at hl 2 rfl) ?_
  refine lv_iadd C.1 C.2.1 dX3_cellAt_5 ?_
  rw [nI_add]
  refine lv_istore_n (lv' := [(3, _), (0, _), (1, _), (2, _)]) C.1 C.2.1 dX3_cellAt_6 rfl hl (by decide) rfl (fun ls hl => ?_)
  refine lv_iload_n C.1 C.2.1 dX3_cellAt_7 rfl (lv_at hl 0 rfl) ?_
  refine lv_if_lt (tgt := 23) C.1 C.2.1 dX3_cellAt_8 (by decide) (fun h => absurd h (nI_pos (by omega))) (fun _ => ?_)
  refine lv_iload_n C.1 C.2.1 dX3_cellAt_11 rfl (lv_at hl 0 rfl) ?_
  refine lv_aload_n C.1 C.2.1 dX3_cellAt_12 rfl (lv_at hl 1 rfl) ?_
  refine va_alen C.1 C.2.1 C.2.2.2.2.2.2.2.1 hP q 0 (he) rfl (v := nI n) rfl dX3_cellAt_13 ?_
  refine lv_icmp_ge (tgt := 23) C.1 C.2.1 dX3_cellAt_14 (by decide) (fun h => absurd h (nI_ge hi hn)) (fun _ => ?_)
  refine lv_aload_n C.1 C.2.1 dX3_cellAt_17 rfl (lv_at hl 1 rfl) ?_
  refine lv_iload_n C.1 C.2.1 dX3_cellAt_18 rfl (lv_at hl 0 rfl) ?_
  refine va_iald C.1 C.2.1 C.2.2.2.2.2.2.2.1 hP q 0 (he) rfl (vp_in_nI hi hn) dX3_cellAt_19 ?_
  rw [nI_clamp (by omega)]
  refine lv_goto (tgt := 24) C.1 C.2.1 dX3_cellAt_20 (by decide) ?_
  exact cm_iret C hP hD hS dX3_cellAt_24 rfl rfl
set_option maxHeartbeats 4000000 in
set_option maxRecDepth 100000 in
/-- tellCell -/
theorem c_tellCell (l : Launch) (D : va_G) (cI cZ cJ : ClassId) (ws : va_W) {q ad n : Nat} {f : Nat → Int32} (he : ws[q]? = some (ad, .inl (cI, n, .inl f))) (hn : n < 2 ^ 31) (a b : Nat) (x : Int32) (hi : a * 22 + b < n) : CM l D (cm_T cI cZ cJ) yX3_tellCell cX3_tellCell 5 none (cm_rm 0 0) [.ref ad, .int (nI a), .int (nI b), .int x] ws none (ws.set q (ad, .inl (cI, n, .inl (upd f (a * 22 + b) x)))) := by
  refine CM.of (by decide) (Nat.le_of_ble_eq_true rfl) ?_
  intro p e s m below meth c ls H locs C hl hP hD hS
  refine lv_iload_n C.1 C.2.1 dX3_tellCell_0 rfl (lv_at hl 1 rfl) ?_
  refine lv_bipush (v := nI 22) C.1 C.2.1 dX3_tellCell_1 (by decide +kernel) ?_
  refine lv_imul C.1 C.2.1 dX3_tellCell_3 ?_
  rw [pk_mul]
  refine lv_iload_n C.1 C.2.1 dX3_tellCell_4 rfl (lv_at hl 2 rfl) ?_
  refine lv_iadd C.1 C.2.1 dX3_tellCell_5 ?_
  rw [nI_add]
  refine lv_istore (lv' := [(4, _), (0, _), (1, _), (2, _), (3, _)]) C.1 C.2.1 dX3_tellCell_6 hl (by decide) rfl (fun ls hl => ?_)
  refine lv_iload C.1 C.2.1 dX3_tellCell_8 (lv_at hl 0 rfl) ?_
  refine lv_if_lt (tgt := 25) C.1 C.2.1 dX3_tellCell_10 (by decide) (fun h => absurd h (nI_pos (by omega))) (fun _ => ?_)
  refine lv_iload C.1 C.2.1 dX3_tellCell_13 (lv_at hl 0 rfl) ?_
  refine lv_aload_n C.1 C.2.1 dX3_tellCell_15 rfl (lv_at hl 1 rfl) ?_
  refine va_alen C.1 C.2.1 C.2.2.2.2.2.2.2.1 hP q 0 (he) rfl (v := nI n) rfl dX3_tellCell_16 ?_
  refine lv_icmp_ge (tgt := 25) C.1 C.2.1 dX3_tellCell_17 (by decide) (fun h => absurd h (nI_ge hi hn)) (fun _ => ?_)
  refine lv_aload_n C.1 C.2.1 dX3_tellCell_20 rfl (lv_at hl 1 rfl) ?_
  refine lv_iload C.1 C.2.1 dX3_tellCell_21 (lv_at hl 0 rfl) ?_
  refine lv_iload_n C.1 C.2.1 dX3_tellCell_23 rfl (lv_at hl 4 rfl) ?_
  refine va_iast C.1 C.2.1 C.2.2.2.2.2.2.2.1 hP hD hS q 0 (he) rfl (vp_in_nI hi hn) dX3_tellCell_24 (fun H locs hP hD hS => ?_)
  exact cm_vret C hP hD hS dX3_tellCell_25 (by rw [nI_clamp (by omega)])
set_option maxHeartbeats 4000000 in
set_option maxRecDepth 100000 in
/-- copyRow -/
theorem c_copyRow (l : Launch) (D : va_G) (cI cZ cJ : ClassId) (ws : va_W) {q ad n : Nat} {f : Nat → Int32} (he : ws[q]? = some (ad, .inl (cI, n, .inl f))) (hn : n < 2 ^ 31) {q2 ad2 n2 : Nat} {f2 : Nat → Int32} (he2 : ws[q2]? = some (ad2, .inl (cI, n2, .inl f2))) (hn2 : n2 < 2 ^ 31) (a b : Nat) (hi : a * 22 + 22 ≤ n) (hi2 : b * 22 + 22 ≤ n2) : CM l D (cm_T cI cZ cJ) yX3_copyRow cX3_copyRow 6 none (cm_rm 1 40) [.ref ad, .int (nI a), .ref ad2, .int (nI b)] ws none (ws.set q2 (ad2, .inl (cI, n2, .inl (va_cpy f f2 (a * 22) (b * 22) 22)))) := by
  refine CM.of (by decide) (Nat.le_of_ble_eq_true rfl) ?_
  intro p e s m below meth c ls H locs C hl hP hD hS
  refine lv_iload_n C.1 C.2.1 dX3_copyRow_0 rfl (lv_at hl 1 rfl) ?_
  refine lv_bipush (v := nI 22) C.1 C.2.1 dX3_copyRow_1 (by decide +kernel) ?_
  refine lv_imul C.1 C.2.1 dX3_copyRow_3 ?_
  rw [pk_mul]
  refine lv_istore (lv' := [(4, _), (0, _), (1, _), (2, _), (3, _)]) C.1 C.2.1 dX3_copyRow_4 hl (by decide) rfl (fun ls hl => ?_)
  refine lv_iload_n C.1 C.2.1 dX3_copyRow_6 rfl (lv_at hl 4 rfl) ?_
  refine lv_bipush (v := nI 22) C.1 C.2.1 dX3_copyRow_7 (by decide +kernel) ?_
  refine lv_imul C.1 C.2.1 dX3_copyRow_9 ?_
  rw [pk_mul]
  refine lv_istore (lv' := [(5, _), (4, _), (0, _), (1, _), (2, _), (3, _)]) C.1 C.2.1 dX3_copyRow_10 hl (by decide) rfl (fun ls hl => ?_)
  refine lv_iload C.1 C.2.1 dX3_copyRow_12 (lv_at hl 1 rfl) ?_
  refine lv_if_lt (tgt := 53) C.1 C.2.1 dX3_copyRow_14 (by decide) (fun h => absurd h (nI_pos (by omega))) (fun _ => ?_)
  refine lv_iload C.1 C.2.1 dX3_copyRow_17 (lv_at hl 1 rfl) ?_
  refine lv_aload_n C.1 C.2.1 dX3_copyRow_19 rfl (lv_at hl 2 rfl) ?_
  refine va_alen C.1 C.2.1 C.2.2.2.2.2.2.2.1 hP q 0 (he) rfl (v := nI n) rfl dX3_copyRow_20 ?_
  refine lv_bipush (v := nI 22) C.1 C.2.1 dX3_copyRow_21 (by decide +kernel) ?_
  refine lv_isub C.1 C.2.1 dX3_copyRow_23 ?_
  rw [pk_sub (by omega)]
  refine lv_icmp_gt (tgt := 53) C.1 C.2.1 dX3_copyRow_24 (by decide) (fun h => absurd h (nI_nlt (by omega) (by omega))) (fun _ => ?_)
  refine lv_iload C.1 C.2.1 dX3_copyRow_27 (lv_at hl 0 rfl) ?_
  refine lv_if_lt (tgt := 53) C.1 C.2.1 dX3_copyRow_29 (by decide) (fun h => absurd h (nI_pos (by omega))) (fun _ => ?_)
  refine lv_iload C.1 C.2.1 dX3_copyRow_32 (lv_at hl 0 rfl) ?_
  refine lv_aload_n C.1 C.2.1 dX3_copyRow_34 rfl (lv_at hl 4 rfl) ?_
  refine va_alen C.1 C.2.1 C.2.2.2.2.2.2.2.1 hP q2 0 (he2) rfl (v := nI n2) rfl dX3_copyRow_35 ?_
  refine lv_bipush (v := nI 22) C.1 C.2.1 dX3_copyRow_36 (by decide +kernel) ?_
  refine lv_isub C.1 C.2.1 dX3_copyRow_38 ?_
  rw [pk_sub (by omega)]
  refine lv_icmp_gt (tgt := 53) C.1 C.2.1 dX3_copyRow_39 (by decide) (fun h => absurd h (nI_nlt (by omega) (by omega))) (fun _ => ?_)
  refine lv_aload_n C.1 C.2.1 dX3_copyRow_42 rfl (lv_at hl 2 rfl) ?_
  refine lv_iload C.1 C.2.1 dX3_copyRow_43 (lv_at hl 1 rfl) ?_
  refine lv_aload_n C.1 C.2.1 dX3_copyRow_45 rfl (lv_at hl 4 rfl) ?_
  refine lv_iload C.1 C.2.1 dX3_copyRow_46 (lv_at hl 0 rfl) ?_
  refine lv_bipush (v := nI 22) C.1 C.2.1 dX3_copyRow_48 (by decide +kernel) ?_
  have hle : (nI 22).toNatClampNeg = 22 := nI_clamp (by decide)
  refine va_copyi C.1 C.2.1 (C.2.2.2.1.trans hl.1.symm) C.2.2.2.2.1 (C.2.2.2.2.2.1 _ tw_241) (C.2.2.2.2.2.1 _ tw_243) (C.2.2.2.2.2.1 _ tw_242) (C.2.2.2.2.2.1 _ tw_11) C.2.2.2.2.2.2.2.1 hP hD hS q q2 0 0 he he2 rfl rfl rfl (nI_pos (by omega)) (nI_pos (by omega)) (nI_pos (by decide)) (by rw [nI_clamp (by omega), hle]; omega) (by rw [nI_clamp (by omega), hle]; omega) (fun i _ => rfl) (by decide) (by decide) dX3_copyRow_50 (fun H locs hP hD hS => ?_)
  exact cm_vret C hP hD hS dX3_copyRow_53 (by rw [nI_clamp (by omega), nI_clamp (by omega), hle])
theorem hm_and (s k f : Int32) : ((((((-1640531535) * k + s) ^^^ us ((-1640531535) * k + s) 15) * f) ^^^ us ((((-1640531535) * k + s) ^^^ us ((-1640531535) * k + s) 15) * f) 13) &&& nI 7) = nI (hm s k f) := pk_and _ 3 (by decide +kernel)
set_option maxHeartbeats 4000000 in
set_option maxRecDepth 100000 in
/-- homeBy, the first -/
theorem c_homeBy1 (l : Launch) (D : va_G) (cI cZ cJ : ClassId) (ws : va_W) (s0 k : Int32) : CM l D (cm_T cI cZ cJ) yX3_homeBy cX3_homeBy 8 (some .int) (cm_rm 0 0) [.int s0, .int k, .int (nI 0)] ws (some (.int (nI (hm1 s0 k)))) (ws) := by
  refine CM.of (by decide) (Nat.le_of_ble_eq_true rfl) ?_
  intro p e s m below meth c ls H locs C hl hP hD hS
  refine lv_ldc C.1 C.2.1 C.2.2.2.2.1 (C.2.2.2.2.2.1 _ tw_117) dX3_homeBy_0 ?_
  refine lv_iload_n C.1 C.2.1 dX3_homeBy_2 rfl (lv_at hl 1 rfl) ?_
  refine lv_imul C.1 C.2.1 dX3_homeBy_3 ?_
  refine lv_iload_n C.1 C.2.1 dX3_homeBy_4 rfl (lv_at hl 0 rfl) ?_
  refine lv_iadd C.1 C.2.1 dX3_homeBy_5 ?_
  refine lv_istore_n (lv' := [(3, _), (0, _), (1, _), (2, _)]) C.1 C.2.1 dX3_homeBy_6 rfl hl (by decide) rfl (fun ls hl => ?_)
  refine lv_iload_n C.1 C.2.1 dX3_homeBy_7 rfl (lv_at hl 0 rfl) ?_
  refine lv_iload_n C.1 C.2.1 dX3_homeBy_8 rfl (lv_at hl 0 rfl) ?_
  refine lv_bipush (v := nI 15) C.1 C.2.1 dX3_homeBy_9 (by decide +kernel) ?_
  refine lv_iushr (v := us _ 15) C.1 C.2.1 dX3_homeBy_11 rfl ?_
  refine lv_ixor C.1 C.2.1 dX3_homeBy_12 ?_
  refine lv_istore_n (lv' := [(3, _), (0, _), (1, _), (2, _)]) C.1 C.2.1 dX3_homeBy_13 rfl hl (by decide) rfl (fun ls hl => ?_)
  refine lv_iload_n C.1 C.2.1 dX3_homeBy_14 rfl (lv_at hl 0 rfl) ?_
  refine lv_ldc C.1 C.2.1 C.2.2.2.2.1 (C.2.2.2.2.2.1 _ tw_118) dX3_homeBy_15 ?_
  refine lv_imul C.1 C.2.1 dX3_homeBy_17 ?_
  refine lv_istore (lv' := [(4, _), (3, _), (0, _), (1, _), (2, _)]) C.1 C.2.1 dX3_homeBy_18 hl (by decide) rfl (fun ls hl => ?_)
  refine lv_iload C.1 C.2.1 dX3_homeBy_20 (lv_at hl 0 rfl) ?_
  refine lv_iload C.1 C.2.1 dX3_homeBy_22 (lv_at hl 0 rfl) ?_
  refine lv_bipush (v := nI 13) C.1 C.2.1 dX3_homeBy_24 (by decide +kernel) ?_
  refine lv_iushr (v := us _ 13) C.1 C.2.1 dX3_homeBy_26 rfl ?_
  refine lv_ixor C.1 C.2.1 dX3_homeBy_27 ?_
  refine lv_bipush (v := nI 7) C.1 C.2.1 dX3_homeBy_28 (by decide +kernel) ?_
  refine lv_iand C.1 C.2.1 dX3_homeBy_30 ?_
  rw [hm_and]
  refine lv_istore (lv' := [(5, _), (4, _), (3, _), (0, _), (1, _), (2, _)]) C.1 C.2.1 dX3_homeBy_31 hl (by decide) rfl (fun ls hl => ?_)
  refine lv_iload_n C.1 C.2.1 dX3_homeBy_33 rfl (lv_at hl 5 rfl) ?_
  refine lv_if_ne (tgt := 40) C.1 C.2.1 dX3_homeBy_34 (by decide) (fun h => absurd (by decide) h) (fun _ => ?_)
  refine lv_iload C.1 C.2.1 dX3_homeBy_37 (lv_at hl 0 rfl) ?_
  exact cm_iret C hP hD hS dX3_homeBy_39 rfl rfl
set_option maxHeartbeats 4000000 in
set_option maxRecDepth 100000 in
/-- homeBy, the second -/
theorem c_homeBy2 (l : Launch) (D : va_G) (cI cZ cJ : ClassId) (ws : va_W) (s0 k : Int32) : CM l D (cm_T cI cZ cJ) yX3_homeBy cX3_homeBy 8 (some .int) (cm_rm 0 0) [.int s0, .int k, .int (nI 1)] ws (some (.int (nI (hm2 s0 k)))) (ws) := by
  refine CM.of (by decide) (Nat.le_of_ble_eq_true rfl) ?_
  intro p e s m below meth c ls H locs C hl hP hD hS
  have q1 := hm_lt s0 k (-2048144789)
  have q2 := hm_lt s0 k (-1028477387)
  refine lv_ldc C.1 C.2.1 C.2.2.2.2.1 (C.2.2.2.2.2.1 _ tw_117) dX3_homeBy_0 ?_
  refine lv_iload_n C.1 C.2.1 dX3_homeBy_2 rfl (lv_at hl 1 rfl) ?_
  refine lv_imul C.1 C.2.1 dX3_homeBy_3 ?_
  refine lv_iload_n C.1 C.2.1 dX3_homeBy_4 rfl (lv_at hl 0 rfl) ?_
  refine lv_iadd C.1 C.2.1 dX3_homeBy_5 ?_
  refine lv_istore_n (lv' := [(3, _), (0, _), (1, _), (2, _)]) C.1 C.2.1 dX3_homeBy_6 rfl hl (by decide) rfl (fun ls hl => ?_)
  refine lv_iload_n C.1 C.2.1 dX3_homeBy_7 rfl (lv_at hl 0 rfl) ?_
  refine lv_iload_n C.1 C.2.1 dX3_homeBy_8 rfl (lv_at hl 0 rfl) ?_
  refine lv_bipush (v := nI 15) C.1 C.2.1 dX3_homeBy_9 (by decide +kernel) ?_
  refine lv_iushr (v := us _ 15) C.1 C.2.1 dX3_homeBy_11 rfl ?_
  refine lv_ixor C.1 C.2.1 dX3_homeBy_12 ?_
  refine lv_istore_n (lv' := [(3, _), (0, _), (1, _), (2, _)]) C.1 C.2.1 dX3_homeBy_13 rfl hl (by decide) rfl (fun ls hl => ?_)
  refine lv_iload_n C.1 C.2.1 dX3_homeBy_14 rfl (lv_at hl 0 rfl) ?_
  refine lv_ldc C.1 C.2.1 C.2.2.2.2.1 (C.2.2.2.2.2.1 _ tw_118) dX3_homeBy_15 ?_
  refine lv_imul C.1 C.2.1 dX3_homeBy_17 ?_
  refine lv_istore (lv' := [(4, _), (3, _), (0, _), (1, _), (2, _)]) C.1 C.2.1 dX3_homeBy_18 hl (by decide) rfl (fun ls hl => ?_)
  refine lv_iload C.1 C.2.1 dX3_homeBy_20 (lv_at hl 0 rfl) ?_
  refine lv_iload C.1 C.2.1 dX3_homeBy_22 (lv_at hl 0 rfl) ?_
  refine lv_bipush (v := nI 13) C.1 C.2.1 dX3_homeBy_24 (by decide +kernel) ?_
  refine lv_iushr (v := us _ 13) C.1 C.2.1 dX3_homeBy_26 rfl ?_
  refine lv_ixor C.1 C.2.1 dX3_homeBy_27 ?_
  refine lv_bipush (v := nI 7) C.1 C.2.1 dX3_homeBy_28 (by decide +kernel) ?_
  refine lv_iand C.1 C.2.1 dX3_homeBy_30 ?_
  rw [hm_and]
  refine lv_istore (lv' := [(5, _), (4, _), (3, _), (0, _), (1, _), (2, _)]) C.1 C.2.1 dX3_homeBy_31 hl (by decide) rfl (fun ls hl => ?_)
  refine lv_iload_n C.1 C.2.1 dX3_homeBy_33 rfl (lv_at hl 5 rfl) ?_
  refine lv_if_ne (tgt := 40) C.1 C.2.1 dX3_homeBy_34 (by decide) (fun _ => ?_) (fun h => absurd h (by decide))
  refine lv_iload_n C.1 C.2.1 dX3_homeBy_40 rfl (lv_at hl 2 rfl) ?_
  refine lv_ldc C.1 C.2.1 C.2.2.2.2.1 (C.2.2.2.2.2.1 _ tw_119) dX3_homeBy_41 ?_
  refine lv_imul C.1 C.2.1 dX3_homeBy_43 ?_
  refine lv_istore (lv' := [(6, _), (5, _), (4, _), (3, _), (0, _), (1, _), (2, _)]) C.1 C.2.1 dX3_homeBy_44 hl (by decide) rfl (fun ls hl => ?_)
  refine lv_iload C.1 C.2.1 dX3_homeBy_46 (lv_at hl 0 rfl) ?_
  refine lv_iload C.1 C.2.1 dX3_homeBy_48 (lv_at hl 0 rfl) ?_
  refine lv_bipush (v := nI 13) C.1 C.2.1 dX3_homeBy_50 (by decide +kernel) ?_
  refine lv_iushr (v := us _ 13) C.1 C.2.1 dX3_homeBy_52 rfl ?_
  refine lv_ixor C.1 C.2.1 dX3_homeBy_53 ?_
  refine lv_bipush (v := nI 7) C.1 C.2.1 dX3_homeBy_54 (by decide +kernel) ?_
  refine lv_iand C.1 C.2.1 dX3_homeBy_56 ?_
  rw [hm_and]
  refine lv_istore (lv' := [(7, _), (6, _), (5, _), (4, _), (3, _), (0, _), (1, _), (2, _)]) C.1 C.2.1 dX3_homeBy_57 hl (by decide) rfl (fun ls hl => ?_)
  refine lv_iload C.1 C.2.1 dX3_homeBy_59 (lv_at hl 0 rfl) ?_
  refine lv_iload C.1 C.2.1 dX3_homeBy_61 (lv_at hl 2 rfl) ?_
  refine lv_icmp_ne (tgt := 76) C.1 C.2.1 dX3_homeBy_63 (by decide) (fun h63 => ?_) (fun h63 => ?_)
  · refine lv_iload C.1 C.2.1 dX3_homeBy_76 (lv_at hl 0 rfl) ?_
    exact cm_iret C hP hD hS dX3_homeBy_78 (by unfold hm2 hm1; rw [if_neg (fun q => h63 (by rw [q]))]) rfl
  · refine lv_iload C.1 C.2.1 dX3_homeBy_66 (lv_at hl 2 rfl) ?_
    refine lv_iconst (v := nI 1) C.1 C.2.1 dX3_homeBy_68 (by decide +kernel) ?_
    refine lv_iadd C.1 C.2.1 dX3_homeBy_69 ?_
    rw [nI_add]
    refine lv_bipush (v := nI 8) C.1 C.2.1 dX3_homeBy_70 (by decide +kernel) ?_
    refine lv_irem C.1 C.2.1 dX3_homeBy_72 (by decide) ?_
    rw [pk_rem (by omega) (by decide) (by decide)]
    refine lv_goto (tgt := 78) C.1 C.2.1 dX3_homeBy_73 (by decide) ?_
    have h63 : hm s0 k (-1028477387) = hm s0 k (-2048144789) := by
      exact (nI_eq (by omega) (by omega)).mp h63
    exact cm_iret C hP hD hS dX3_homeBy_78 (by unfold hm2 hm1; rw [if_pos h63]) rfl
set_option maxHeartbeats 4000000 in
set_option maxRecDepth 100000 in
/-- otherRow -/
theorem c_otherRow (l : Launch) (D : va_G) (cI cZ cJ : ClassId) (ws : va_W) (z b : Nat) (hz0 : z < 2) (hb0 : b < 8) (s0 k : Int32) : CM l D (cm_T cI cZ cJ) yX3_otherRow cX3_otherRow 5 (some .int) (cm_rm 1 27) [.int (nI (9 * z + b)), .int s0, .int k] ws (some (.int (nI (9 * z + (if b = hm1 s0 k then hm2 s0 k else hm1 s0 k))))) (ws) := by
  refine CM.of (by decide) (Nat.le_of_ble_eq_true rfl) ?_
  intro p e s m below meth c ls H locs C hl hP hD hS
  have q1 := hm1_lt s0 k
  have q2 := hm2_lt s0 k
  have hz : 9 * z + b - (9 * z + b) % 9 = 9 * z := by omega
  refine lv_iload_n C.1 C.2.1 dX3_otherRow_0 rfl (lv_at hl 0 rfl) ?_
  refine lv_iload_n C.1 C.2.1 dX3_otherRow_1 rfl (lv_at hl 0 rfl) ?_
  refine lv_bipush (v := nI 9) C.1 C.2.1 dX3_otherRow_2 (by decide +kernel) ?_
  refine lv_irem C.1 C.2.1 dX3_otherRow_4 (by decide) ?_
  rw [pk_rem (by omega) (by decide) (by decide)]
  refine lv_isub C.1 C.2.1 dX3_otherRow_5 ?_
  rw [pk_sub (by omega), hz]
  refine lv_istore_n (lv' := [(3, _), (0, _), (1, _), (2, _)]) C.1 C.2.1 dX3_otherRow_6 rfl hl (by decide) rfl (fun ls hl => ?_)
  refine lv_iload_n C.1 C.2.1 dX3_otherRow_7 rfl (lv_at hl 0 rfl) ?_
  refine lv_iload_n C.1 C.2.1 dX3_otherRow_8 rfl (lv_at hl 2 rfl) ?_
  refine lv_iload_n C.1 C.2.1 dX3_otherRow_9 rfl (lv_at hl 3 rfl) ?_
  refine lv_iconst (v := nI 0) C.1 C.2.1 dX3_otherRow_10 (by decide +kernel) ?_
  refine cm_cS1 3 C (c_homeBy1 l D cI cZ cJ _ s0 k) tw_114 tw_115 tw_1 tw_116 rfl rfl (by decide +kernel) ⟨Nat.le_of_ble_eq_true rfl, Nat.le_of_ble_eq_true rfl⟩ ⟨Nat.zero_le _, Nat.zero_le _⟩ hP hD hS hl.1 rfl rfl (Nat.le_of_ble_eq_true rfl) dX3_otherRow_11 (fun H locs hP hD hS => ?_)
  refine lv_iadd C.1 C.2.1 dX3_otherRow_14 ?_
  rw [nI_add]
  refine lv_istore (lv' := [(4, _), (3, _), (0, _), (1, _), (2, _)]) C.1 C.2.1 dX3_otherRow_15 hl (by decide) rfl (fun ls hl => ?_)
  refine lv_iload_n C.1 C.2.1 dX3_otherRow_17 rfl (lv_at hl 2 rfl) ?_
  refine lv_iload C.1 C.2.1 dX3_otherRow_18 (lv_at hl 0 rfl) ?_
  refine lv_icmp_ne (tgt := 34) C.1 C.2.1 dX3_otherRow_20 (by decide) (fun h20 => ?_) (fun h20 => ?_)
  · refine lv_iload C.1 C.2.1 dX3_otherRow_34 (lv_at hl 0 rfl) ?_
    exact cm_iret C hP hD hS dX3_otherRow_36 (by rw [if_neg (fun q => h20 (by rw [q]))]) rfl
  · refine lv_iload_n C.1 C.2.1 dX3_otherRow_23 rfl (lv_at hl 1 rfl) ?_
    refine lv_iload_n C.1 C.2.1 dX3_otherRow_24 rfl (lv_at hl 3 rfl) ?_
    refine lv_iload_n C.1 C.2.1 dX3_otherRow_25 rfl (lv_at hl 4 rfl) ?_
    refine lv_iconst (v := nI 1) C.1 C.2.1 dX3_otherRow_26 (by decide +kernel) ?_
    refine cm_cS1 3 C (c_homeBy2 l D cI cZ cJ _ s0 k) tw_114 tw_115 tw_1 tw_116 rfl rfl (by decide +kernel) ⟨Nat.le_of_ble_eq_true rfl, Nat.le_of_ble_eq_true rfl⟩ ⟨Nat.zero_le _, Nat.zero_le _⟩ hP hD hS hl.1 rfl rfl (Nat.le_of_ble_eq_true rfl) dX3_otherRow_27 (fun H locs hP hD hS => ?_)
    refine lv_iadd C.1 C.2.1 dX3_otherRow_30 ?_
    rw [nI_add]
    refine lv_goto (tgt := 36) C.1 C.2.1 dX3_otherRow_31 (by decide) ?_
    have h20 : 9 * z + b = 9 * z + hm1 s0 k := (nI_eq (by omega) (by omega)).mp h20
    exact cm_iret C hP hD hS dX3_otherRow_36 (by rw [if_pos (by omega)]) rfl
