/-! ===== the reference's crash ===== -/
def rd1 (j : Nat) (A : Nat → Nat → Int32) : Nat → Nat → Int32 := va_up (va_up (va_up A 11 (upd (A 11) (A 17 j).toNatClampNeg (nI 1))) 12 (upd (A 12) (A 17 j).toNatClampNeg (A 18 j))) 13 (upd (A 13) (A 17 j).toNatClampNeg (A 19 j))
def rdo : Nat → Nat → (Nat → Nat → Int32) → (Nat → Nat → Int32)
  | _, 0, A => A
  | j, k + 1, A => rdo (j + 1) k (rd1 j A)
def cpD (n : Nat) (A : Nat → Nat → Int32) : Nat → Nat → Int32 := va_up (va_up (va_up A 1 (va_cpy (nz (A 11)) (A 1) 0 0 n)) 2 (va_cpy (A 12) (A 2) 0 0 n)) 3 (va_cpy (A 13) (A 3) 0 0 n)
theorem cpD_0 (A : Nat → Nat → Int32) : cpD 0 A = A := by
  unfold cpD
  simp only [cpy_0]
  funext k9
  by_cases h3 : k9 = 3 <;> by_cases h2 : k9 = 2 <;> by_cases h1 : k9 = 1 <;> simp [va_up, *]
def crI (J : Nat → Int32) : Nat → Int32 := va_up (va_up (va_up (va_up (va_up J 20 (nI 0)) 33 (J 16)) 16 (nI 0)) 5 (J 14)) 6 (J 15)
set_option maxHeartbeats 4000000 in
set_option maxRecDepth 100000 in
/-- crash, refused -/
theorem k_X4_crash1 (l : Launch) (D : va_G) (cI cZ cJ : ClassId) (ad : Nat → Nat) (X : va_W) (I : Nat → Int32) (A : Nat → Nat → Int32) (x : Int32) (hd : x < 0) : CM l D (cm_T cI cZ cJ) yX4_crash cX4_crash 4 (some .int) (cm_rm 1 23) [.ref (ad 0), .int x] (mw ad cI cZ X I A) (some (.int (nI 0))) (mw ad cI cZ X (va_up I 0 (nI 1)) A) := by
  refine CM.of (by decide) (Nat.le_of_ble_eq_true rfl) ?_
  intro p e s m below meth c ls H locs C hl hP hD hS
  refine lv_aload_n C.1 C.2.1 dX4_crash_0 rfl (lv_at hl 0 rfl) ?_
  refine lv_iload_n C.1 C.2.1 dX4_crash_1 rfl (lv_at hl 1 rfl) ?_
  refine lv_if_ge (tgt := 9) C.1 C.2.1 dX4_crash_2 (by decide) (fun h => absurd h (by exact Int32.not_le.mpr hd)) (fun _ => ?_)
  refine lv_iconst (v := nI 1) C.1 C.2.1 dX4_crash_5 (by decide +kernel) ?_
  refine lv_goto (tgt := 10) C.1 C.2.1 dX4_crash_6 (by decide) ?_
  refine cm_cV1 (q0 := 0) 1 C (k_X4_refused l D cI cZ cJ ad X I A (nI 1)) tw_660 tw_662 ts_28 tw_5 tw_663 rfl rfl (rfl) rfl (by decide +kernel) ⟨Nat.le_of_ble_eq_true rfl, Nat.le_of_ble_eq_true rfl⟩ ⟨Nat.zero_le _, Nat.zero_le _⟩ hP hD hS hl.1 rfl rfl (Nat.le_of_ble_eq_true rfl) dX4_crash_10 (fun H locs hP hD hS => ?_)
  refine lv_if_eq (tgt := 18) C.1 C.2.1 dX4_crash_13 (by decide) (fun h => absurd h (by decide)) (fun _ => ?_)
  refine lv_iconst (v := nI 0) C.1 C.2.1 dX4_crash_16 (by decide +kernel) ?_
  exact cm_iret C hP hD hS dX4_crash_17 rfl rfl
set_option maxHeartbeats 4000000 in
set_option maxRecDepth 100000 in
/-- crash -/
theorem k_X4_crash0 (l : Launch) (D : va_G) (cI cZ cJ : ClassId) (ad : Nat → Nat) (X : va_W) (I : Nat → Int32) (A : Nat → Nat → Int32) (d9 : Nat) (hd9 : d9 < 2 ^ 31) (t : Nat) (hok : okW t (I, A)) (n9 : Nat) (hn9 : n9 = if d9 < t then d9 else t) (q9 : Nat) (hq9 : q9 ≤ 7) (h16 : (finN 0 n9 ((va_up I 0 (nI 0)), A)).1 16 = nI q9) (h17 : ∀ j, j < q9 → (finN 0 n9 ((va_up I 0 (nI 0)), A)).2 17 j = nI ((finN 0 n9 ((va_up I 0 (nI 0)), A)).2 17 j).toNatClampNeg ∧ ((finN 0 n9 ((va_up I 0 (nI 0)), A)).2 17 j).toNatClampNeg < 72) : CM l D (cm_T cI cZ cJ) yX4_crash cX4_crash 4 (some .int) (cm_rm 1 23) [.ref (ad 0), .int (nI d9)] (mw ad cI cZ X I A) (some (.int (nI (t - n9)))) (mw ad cI cZ X (crI (finN 0 n9 ((va_up I 0 (nI 0)), A)).1) (cpD 72 (rdo 0 q9 (finN 0 n9 ((va_up I 0 (nI 0)), A)).2))) := by
  refine CM.of (by decide) (Nat.le_of_ble_eq_true rfl) ?_
  intro p e s m below meth c ls H locs C hl hP hD hS
  obtain ⟨ht, h20, hk⟩ := hok
  have h20 : I 20 = nI t := h20
  have hnt : n9 ≤ t := by rw [hn9]; split <;> omega
  generalize hS1 : (finN 0 n9 ((va_up I 0 (nI 0)), A)) = S1 at h16 h17 ⊢
  obtain ⟨J1, C1⟩ := S1
  dsimp only at h16 h17 ⊢
  have copy : ∀ (k j : Nat) (C9 : Nat → Nat → Int32), j + k = 72 → C9 = rdo 0 q9 C1 → ∀ (ls : Array Slot) (H : Heap) (locs : List Loc), lv_has ls 4 [(3, .int (nI j)), (2, .int (nI (t - n9))), (0, .ref (ad 0)), (1, .int (nI d9))] → va_P D vwCl (mw ad cI cZ X (va_up (va_up (va_up J1 20 (nI 0)) 33 (J1 16)) 16 (nI 0)) (cpD j C9)) H → va_D (cm_A (mw ad cI cZ X I A)) (mw ad cI cZ X (va_up (va_up (va_up J1 20 (nI 0)) 33 (J1 16)) 16 (nI 0)) (cpD j C9)) → va_S (cm_A (mw ad cI cZ X I A)) s.heap H locs → W p l e (cm_rm 1 23) s m ([.ref (ad 0), .int (nI d9)] : List Value).toArray below meth c H locs 0 0 (cm_Q below D [.ref (ad 0), .int (nI d9)] s (mw ad cI cZ X I A) (some (.int (nI (t - n9)))) (mw ad cI cZ X (crI J1) (cpD 72 (rdo 0 q9 C1)))) (F0 m 142 ls []) := by
    intro k
    induction k with
    | zero =>
      intro j C9 hj hC ls H locs hl hP hD hS
      refine lv_iload_n C.1 C.2.1 dX4_crash_142 rfl (lv_at hl 0 rfl) ?_
      refine lv_bipush (v := nI 72) C.1 C.2.1 dX4_crash_143 (by decide +kernel) ?_
      refine lv_icmp_ge (tgt := 190) C.1 C.2.1 dX4_crash_145 (by decide) (fun _ => ?_) (fun h => absurd (nI_le (by omega) (by omega)) h)
      refine lv_aload_n C.1 C.2.1 dX4_crash_190 rfl (lv_at hl 2 rfl) ?_
      refine lv_aload_n C.1 C.2.1 dX4_crash_191 rfl (lv_at hl 2 rfl) ?_
      refine va_get (v := .int (J1 14)) (ci := 4) (C := RX4) (T := TX4) (N := 34) C.1 C.2.1 C.2.2.2.2.2.1 ui_X4 C.2.2.2.2.1 C.2.2.2.2.2.2.2.1 hP 0 (rfl) rfl 14 (by decide) (C.2.2.2.2.2.1 _ tw_470) (fun _ h9 => h9) rfl dX4_crash_192 ?_
      refine va_put (ci := 4) (C := RX4) (T := TX4) (N := 34) (ty := .int) C.1 C.2.1 C.2.2.2.2.2.1 ui_X4 tyX4 tyX4_ok nmX4 C.2.2.2.2.1 C.2.2.2.2.2.2.2.1 hP hD hS 0 (rfl) rfl 5 (by decide) (C.2.2.2.2.2.1 _ tw_461) (fun _ h9 => h9) rfl (by decide +kernel) rfl rfl (Nat.le_of_ble_eq_true rfl) dX4_crash_195 (fun H locs hP hD hS => ?_)
      have hP : va_P D vwCl (mw ad cI cZ X (va_up (va_up (va_up (va_up J1 20 (nI 0)) 33 (J1 16)) 16 (nI 0)) 5 (J1 14)) (cpD j C9)) H := hP
      have hD : va_D (cm_A (mw ad cI cZ X I A)) (mw ad cI cZ X (va_up (va_up (va_up (va_up J1 20 (nI 0)) 33 (J1 16)) 16 (nI 0)) 5 (J1 14)) (cpD j C9)) := hD
      refine lv_aload_n C.1 C.2.1 dX4_crash_198 rfl (lv_at hl 2 rfl) ?_
      refine lv_aload_n C.1 C.2.1 dX4_crash_199 rfl (lv_at hl 2 rfl) ?_
      refine va_get (v := .int (J1 15)) (ci := 4) (C := RX4) (T := TX4) (N := 34) C.1 C.2.1 C.2.2.2.2.2.1 ui_X4 C.2.2.2.2.1 C.2.2.2.2.2.2.2.1 hP 0 (rfl) rfl 15 (by decide) (C.2.2.2.2.2.1 _ tw_471) (fun _ h9 => h9) rfl dX4_crash_200 ?_
      refine va_put (ci := 4) (C := RX4) (T := TX4) (N := 34) (ty := .int) C.1 C.2.1 C.2.2.2.2.2.1 ui_X4 tyX4 tyX4_ok nmX4 C.2.2.2.2.1 C.2.2.2.2.2.2.2.1 hP hD hS 0 (rfl) rfl 6 (by decide) (C.2.2.2.2.2.1 _ tw_462) (fun _ h9 => h9) rfl (by decide +kernel) rfl rfl (Nat.le_of_ble_eq_true rfl) dX4_crash_203 (fun H locs hP hD hS => ?_)
      refine lv_iload_n C.1 C.2.1 dX4_crash_206 rfl (lv_at hl 1 rfl) ?_
      have hj9 : j = 72 := by omega
      exact cm_iret C hP hD hS dX4_crash_207 rfl (by rw [← hC, ← hj9]; rfl)
    | succ k ih =>
      intro j C9 hj hC ls H locs hl hP hD hS
      refine lv_iload_n C.1 C.2.1 dX4_crash_142 rfl (lv_at hl 0 rfl) ?_
      refine lv_bipush (v := nI 72) C.1 C.2.1 dX4_crash_143 (by decide +kernel) ?_
      refine lv_icmp_ge (tgt := 190) C.1 C.2.1 dX4_crash_145 (by decide) (fun h => absurd h (nI_ge (by omega) (by decide))) (fun _ => ?_)
      refine lv_aload_n C.1 C.2.1 dX4_crash_148 rfl (lv_at hl 2 rfl) ?_
      refine va_get (ci := 4) (C := RX4) (T := TX4) (N := 34) C.1 C.2.1 C.2.2.2.2.2.1 ui_X4 C.2.2.2.2.1 C.2.2.2.2.2.2.2.1 hP 0 (rfl) rfl 1 (by decide) (C.2.2.2.2.2.1 _ tw_457) (fun _ h9 => h9) rfl dX4_crash_149 ?_
      refine lv_iload_n C.1 C.2.1 dX4_crash_152 rfl (lv_at hl 0 rfl) ?_
      refine lv_aload_n C.1 C.2.1 dX4_crash_153 rfl (lv_at hl 2 rfl) ?_
      refine va_get (ci := 4) (C := RX4) (T := TX4) (N := 34) C.1 C.2.1 C.2.2.2.2.2.1 ui_X4 C.2.2.2.2.1 C.2.2.2.2.2.2.2.1 hP 0 (rfl) rfl 11 (by decide) (C.2.2.2.2.2.1 _ tw_467) (fun _ h9 => h9) rfl dX4_crash_154 ?_
      refine lv_iload_n C.1 C.2.1 dX4_crash_157 rfl (lv_at hl 0 rfl) ?_
      refine va_zald (f := C9 11) C.1 C.2.1 C.2.2.2.2.2.2.2.1 hP 8 1 (rfl) rfl (vp_in_nI (by omega) (by decide)) dX4_crash_158 ?_
      rw [nI_clamp (by omega)]
      refine va_zast (f := va_cpy (nz (C9 11)) (C9 1) 0 0 j) C.1 C.2.1 C.2.2.2.2.2.2.2.1 hP hD hS 1 1 (rfl) rfl (vp_in_nI (by omega) (by decide)) dX4_crash_159 (fun H locs hP hD hS => ?_)
      rw [nI_clamp (by omega), show upd (va_cpy (nz (C9 11)) (C9 1) 0 0 j) j (vp_nar .boolean (C9 11 j)) = va_cpy (nz (C9 11)) (C9 1) 0 0 (j + 1) by have h := cpy_u0 (nz (C9 11)) (C9 1) 0 j; rwa [Nat.zero_add] at h] at hP hD
      have hP : va_P D vwCl (mw ad cI cZ X (va_up (va_up (va_up J1 20 (nI 0)) 33 (J1 16)) 16 (nI 0)) (va_up (va_up (va_up C9 1 (va_cpy (nz (C9 11)) (C9 1) 0 0 (j + 1))) 2 (va_cpy (C9 12) (C9 2) 0 0 j)) 3 (va_cpy (C9 13) (C9 3) 0 0 j))) H := hP
      have hD : va_D (cm_A (mw ad cI cZ X I A)) (mw ad cI cZ X (va_up (va_up (va_up J1 20 (nI 0)) 33 (J1 16)) 16 (nI 0)) (va_up (va_up (va_up C9 1 (va_cpy (nz (C9 11)) (C9 1) 0 0 (j + 1))) 2 (va_cpy (C9 12) (C9 2) 0 0 j)) 3 (va_cpy (C9 13) (C9 3) 0 0 j))) := hD
      refine lv_aload_n C.1 C.2.1 dX4_crash_160 rfl (lv_at hl 2 rfl) ?_
      refine va_get (ci := 4) (C := RX4) (T := TX4) (N := 34) C.1 C.2.1 C.2.2.2.2.2.1 ui_X4 C.2.2.2.2.1 C.2.2.2.2.2.2.2.1 hP 0 (rfl) rfl 2 (by decide) (C.2.2.2.2.2.1 _ tw_458) (fun _ h9 => h9) rfl dX4_crash_161 ?_
      refine lv_iload_n C.1 C.2.1 dX4_crash_164 rfl (lv_at hl 0 rfl) ?_
      refine lv_aload_n C.1 C.2.1 dX4_crash_165 rfl (lv_at hl 2 rfl) ?_
      refine va_get (ci := 4) (C := RX4) (T := TX4) (N := 34) C.1 C.2.1 C.2.2.2.2.2.1 ui_X4 C.2.2.2.2.1 C.2.2.2.2.2.2.2.1 hP 0 (rfl) rfl 12 (by decide) (C.2.2.2.2.2.1 _ tw_468) (fun _ h9 => h9) rfl dX4_crash_166 ?_
      refine lv_iload_n C.1 C.2.1 dX4_crash_169 rfl (lv_at hl 0 rfl) ?_
      refine va_iald (f := C9 12) C.1 C.2.1 C.2.2.2.2.2.2.2.1 hP 9 0 (rfl) rfl (vp_in_nI (by omega) (by decide)) dX4_crash_170 ?_
      rw [nI_clamp (by omega)]
      refine va_iast (f := va_cpy (C9 12) (C9 2) 0 0 j) C.1 C.2.1 C.2.2.2.2.2.2.2.1 hP hD hS 2 0 (rfl) rfl (vp_in_nI (by omega) (by decide)) dX4_crash_171 (fun H locs hP hD hS => ?_)
      rw [nI_clamp (by omega), show upd (va_cpy (C9 12) (C9 2) 0 0 j) j (C9 12 j) = va_cpy (C9 12) (C9 2) 0 0 (j + 1) by have h := cpy_u0 (C9 12) (C9 2) 0 j; rwa [Nat.zero_add] at h] at hP hD
      have hP : va_P D vwCl (mw ad cI cZ X (va_up (va_up (va_up J1 20 (nI 0)) 33 (J1 16)) 16 (nI 0)) (va_up (va_up (va_up C9 1 (va_cpy (nz (C9 11)) (C9 1) 0 0 (j + 1))) 2 (va_cpy (C9 12) (C9 2) 0 0 (j + 1))) 3 (va_cpy (C9 13) (C9 3) 0 0 j))) H := hP
      have hD : va_D (cm_A (mw ad cI cZ X I A)) (mw ad cI cZ X (va_up (va_up (va_up J1 20 (nI 0)) 33 (J1 16)) 16 (nI 0)) (va_up (va_up (va_up C9 1 (va_cpy (nz (C9 11)) (C9 1) 0 0 (j + 1))) 2 (va_cpy (C9 12) (C9 2) 0 0 (j + 1))) 3 (va_cpy (C9 13) (C9 3) 0 0 j))) := hD
      refine lv_aload_n C.1 C.2.1 dX4_crash_172 rfl (lv_at hl 2 rfl) ?_
      refine va_get (ci := 4) (C := RX4) (T := TX4) (N := 34) C.1 C.2.1 C.2.2.2.2.2.1 ui_X4 C.2.2.2.2.1 C.2.2.2.2.2.2.2.1 hP 0 (rfl) rfl 3 (by decide) (C.2.2.2.2.2.1 _ tw_459) (fun _ h9 => h9) rfl dX4_crash_173 ?_
      refine lv_iload_n C.1 C.2.1 dX4_crash_176 rfl (lv_at hl 0 rfl) ?_
      refine lv_aload_n C.1 C.2.1 dX4_crash_177 rfl (lv_at hl 2 rfl) ?_
      refine va_get (ci := 4) (C := RX4) (T := TX4) (N := 34) C.1 C.2.1 C.2.2.2.2.2.1 ui_X4 C.2.2.2.2.1 C.2.2.2.2.2.2.2.1 hP 0 (rfl) rfl 13 (by decide) (C.2.2.2.2.2.1 _ tw_469) (fun _ h9 => h9) rfl dX4_crash_178 ?_
      refine lv_iload_n C.1 C.2.1 dX4_crash_181 rfl (lv_at hl 0 rfl) ?_
      refine va_iald (f := C9 13) C.1 C.2.1 C.2.2.2.2.2.2.2.1 hP 10 0 (rfl) rfl (vp_in_nI (by omega) (by decide)) dX4_crash_182 ?_
      rw [nI_clamp (by omega)]
      refine va_iast (f := va_cpy (C9 13) (C9 3) 0 0 j) C.1 C.2.1 C.2.2.2.2.2.2.2.1 hP hD hS 3 0 (rfl) rfl (vp_in_nI (by omega) (by decide)) dX4_crash_183 (fun H locs hP hD hS => ?_)
      rw [nI_clamp (by omega), show upd (va_cpy (C9 13) (C9 3) 0 0 j) j (C9 13 j) = va_cpy (C9 13) (C9 3) 0 0 (j + 1) by have h := cpy_u0 (C9 13) (C9 3) 0 j; rwa [Nat.zero_add] at h] at hP hD
      have hP : va_P D vwCl (mw ad cI cZ X (va_up (va_up (va_up J1 20 (nI 0)) 33 (J1 16)) 16 (nI 0)) (cpD (j + 1) C9)) H := hP
      have hD : va_D (cm_A (mw ad cI cZ X I A)) (mw ad cI cZ X (va_up (va_up (va_up J1 20 (nI 0)) 33 (J1 16)) 16 (nI 0)) (cpD (j + 1) C9)) := hD
      refine lv_iinc (v := nI (j + 1)) (lv' := [(3, _), (2, _), (0, _), (1, _)]) C.1 C.2.1 dX4_crash_184 hl (k := 0) rfl (nI_1 j) (by decide) rfl (fun ls hl => ?_)
      refine lv_goto (tgt := 142) C.1 C.2.1 dX4_crash_187 (by decide) ?_
      exact ih (j + 1) C9 (by omega) hC ls H locs hl hP hD hS
  have redo : ∀ (k j : Nat) (C9 : Nat → Nat → Int32), j + k = q9 → rdo j k C9 = rdo 0 q9 C1 → C9 17 = C1 17 → ∀ (ls : Array Slot) (H : Heap) (locs : List Loc), lv_has ls 4 [(3, .int (nI j)), (2, .int (nI (t - n9))), (0, .ref (ad 0)), (1, .int (nI d9))] → va_P D vwCl (mw ad cI cZ X (va_up J1 20 (nI 0)) C9) H → va_D (cm_A (mw ad cI cZ X I A)) (mw ad cI cZ X (va_up J1 20 (nI 0)) C9) → va_S (cm_A (mw ad cI cZ X I A)) s.heap H locs → W p l e (cm_rm 1 23) s m ([.ref (ad 0), .int (nI d9)] : List Value).toArray below meth c H locs 0 0 (cm_Q below D [.ref (ad 0), .int (nI d9)] s (mw ad cI cZ X I A) (some (.int (nI (t - n9)))) (mw ad cI cZ X (crI J1) (cpD 72 (rdo 0 q9 C1)))) (F0 m 67 ls []) := by
    intro k
    induction k with
    | zero =>
      intro j C9 hj hf h9 ls H locs hl hP hD hS
      refine lv_iload_n C.1 C.2.1 dX4_crash_67 rfl (lv_at hl 0 rfl) ?_
      refine lv_aload_n C.1 C.2.1 dX4_crash_68 rfl (lv_at hl 2 rfl) ?_
      refine va_get (v := .int (J1 16)) (ci := 4) (C := RX4) (T := TX4) (N := 34) C.1 C.2.1 C.2.2.2.2.2.1 ui_X4 C.2.2.2.2.1 C.2.2.2.2.2.2.2.1 hP 0 (rfl) rfl 16 (by decide) (C.2.2.2.2.2.1 _ tw_472) (fun _ h9 => h9) rfl dX4_crash_69 ?_
      rw [h16]
      refine lv_icmp_ge (tgt := 127) C.1 C.2.1 dX4_crash_72 (by decide) (fun _ => ?_) (fun h => absurd (nI_le (by omega) (by omega)) h)
      refine lv_aload_n C.1 C.2.1 dX4_crash_127 rfl (lv_at hl 2 rfl) ?_
      refine lv_aload_n C.1 C.2.1 dX4_crash_128 rfl (lv_at hl 2 rfl) ?_
      refine va_get (v := .int (J1 16)) (ci := 4) (C := RX4) (T := TX4) (N := 34) C.1 C.2.1 C.2.2.2.2.2.1 ui_X4 C.2.2.2.2.1 C.2.2.2.2.2.2.2.1 hP 0 (rfl) rfl 16 (by decide) (C.2.2.2.2.2.1 _ tw_472) (fun _ h9 => h9) rfl dX4_crash_129 ?_
      refine va_put (ci := 4) (C := RX4) (T := TX4) (N := 34) (ty := .int) C.1 C.2.1 C.2.2.2.2.2.1 ui_X4 tyX4 tyX4_ok nmX4 C.2.2.2.2.1 C.2.2.2.2.2.2.2.1 hP hD hS 0 (rfl) rfl 33 (by decide) (C.2.2.2.2.2.1 _ tw_489) (fun _ h9 => h9) rfl (by decide +kernel) rfl rfl (Nat.le_of_ble_eq_true rfl) dX4_crash_132 (fun H locs hP hD hS => ?_)
      have hP : va_P D vwCl (mw ad cI cZ X (va_up (va_up J1 20 (nI 0)) 33 (J1 16)) C9) H := hP
      have hD : va_D (cm_A (mw ad cI cZ X I A)) (mw ad cI cZ X (va_up (va_up J1 20 (nI 0)) 33 (J1 16)) C9) := hD
      refine lv_aload_n C.1 C.2.1 dX4_crash_135 rfl (lv_at hl 2 rfl) ?_
      refine lv_iconst (v := nI 0) C.1 C.2.1 dX4_crash_136 (by decide +kernel) ?_
      refine va_put (ci := 4) (C := RX4) (T := TX4) (N := 34) (ty := .int) C.1 C.2.1 C.2.2.2.2.2.1 ui_X4 tyX4 tyX4_ok nmX4 C.2.2.2.2.1 C.2.2.2.2.2.2.2.1 hP hD hS 0 (rfl) rfl 16 (by decide) (C.2.2.2.2.2.1 _ tw_472) (fun _ h9 => h9) rfl (by decide +kernel) rfl rfl (Nat.le_of_ble_eq_true rfl) dX4_crash_137 (fun H locs hP hD hS => ?_)
      have hP : va_P D vwCl (mw ad cI cZ X (va_up (va_up (va_up J1 20 (nI 0)) 33 (J1 16)) 16 (nI 0)) C9) H := hP
      have hD : va_D (cm_A (mw ad cI cZ X I A)) (mw ad cI cZ X (va_up (va_up (va_up J1 20 (nI 0)) 33 (J1 16)) 16 (nI 0)) C9) := hD
      refine lv_iconst (v := nI 0) C.1 C.2.1 dX4_crash_140 (by decide +kernel) ?_
      refine lv_istore_n (lv' := [(3, _), (2, _), (0, _), (1, _)]) C.1 C.2.1 dX4_crash_141 rfl hl (by decide) rfl (fun ls hl => ?_)
      exact copy 72 0 C9 rfl hf ls H locs hl (by rw [cpD_0]; exact hP) (by rw [cpD_0]; exact hD) hS
    | succ k ih =>
      intro j C9 hj hf h9 ls H locs hl hP hD hS
      obtain ⟨p1, p2⟩ := h17 j (by omega)
      rw [← h9] at p1 p2
      refine lv_iload_n C.1 C.2.1 dX4_crash_67 rfl (lv_at hl 0 rfl) ?_
      refine lv_aload_n C.1 C.2.1 dX4_crash_68 rfl (lv_at hl 2 rfl) ?_
      refine va_get (v := .int (J1 16)) (ci := 4) (C := RX4) (T := TX4) (N := 34) C.1 C.2.1 C.2.2.2.2.2.1 ui_X4 C.2.2.2.2.1 C.2.2.2.2.2.2.2.1 hP 0 (rfl) rfl 16 (by decide) (C.2.2.2.2.2.1 _ tw_472) (fun _ h9 => h9) rfl dX4_crash_69 ?_
      rw [h16]
      refine lv_icmp_ge (tgt := 127) C.1 C.2.1 dX4_crash_72 (by decide) (fun h => absurd h (nI_ge (by omega) (by omega))) (fun _ => ?_)
      refine lv_aload_n C.1 C.2.1 dX4_crash_75 rfl (lv_at hl 2 rfl) ?_
      refine va_get (ci := 4) (C := RX4) (T := TX4) (N := 34) C.1 C.2.1 C.2.2.2.2.2.1 ui_X4 C.2.2.2.2.1 C.2.2.2.2.2.2.2.1 hP 0 (rfl) rfl 11 (by decide) (C.2.2.2.2.2.1 _ tw_467) (fun _ h9 => h9) rfl dX4_crash_76 ?_
      refine lv_aload_n C.1 C.2.1 dX4_crash_79 rfl (lv_at hl 2 rfl) ?_
      refine va_get (ci := 4) (C := RX4) (T := TX4) (N := 34) C.1 C.2.1 C.2.2.2.2.2.1 ui_X4 C.2.2.2.2.1 C.2.2.2.2.2.2.2.1 hP 0 (rfl) rfl 17 (by decide) (C.2.2.2.2.2.1 _ tw_473) (fun _ h9 => h9) rfl dX4_crash_80 ?_
      refine lv_iload_n C.1 C.2.1 dX4_crash_83 rfl (lv_at hl 0 rfl) ?_
      refine va_iald (f := C9 17) C.1 C.2.1 C.2.2.2.2.2.2.2.1 hP 11 0 (rfl) rfl (vp_in_nI (by omega) (by decide)) dX4_crash_84 ?_
      rw [nI_clamp (by omega), p1]
      refine lv_iconst (v := nI 1) C.1 C.2.1 dX4_crash_85 (by decide +kernel) ?_
      refine va_zast (f := C9 11) C.1 C.2.1 C.2.2.2.2.2.2.2.1 hP hD hS 8 1 (rfl) rfl (vp_in_nI p2 (by decide)) dX4_crash_86 (fun H locs hP hD hS => ?_)
      rw [nI_clamp (show (C9 17 j).toNatClampNeg < 2 ^ 31 by omega), show vp_nar .boolean (nI 1) = nI 1 by decide +kernel] at hP hD
      have hP : va_P D vwCl (mw ad cI cZ X (va_up J1 20 (nI 0)) (va_up C9 11 (upd (C9 11) (C9 17 j).toNatClampNeg (nI 1)))) H := hP
      have hD : va_D (cm_A (mw ad cI cZ X I A)) (mw ad cI cZ X (va_up J1 20 (nI 0)) (va_up C9 11 (upd (C9 11) (C9 17 j).toNatClampNeg (nI 1)))) := hD
      refine lv_aload_n C.1 C.2.1 dX4_crash_87 rfl (lv_at hl 2 rfl) ?_
      refine va_get (ci := 4) (C := RX4) (T := TX4) (N := 34) C.1 C.2.1 C.2.2.2.2.2.1 ui_X4 C.2.2.2.2.1 C.2.2.2.2.2.2.2.1 hP 0 (rfl) rfl 12 (by decide) (C.2.2.2.2.2.1 _ tw_468) (fun _ h9 => h9) rfl dX4_crash_88 ?_
      refine lv_aload_n C.1 C.2.1 dX4_crash_91 rfl (lv_at hl 2 rfl) ?_
      refine va_get (ci := 4) (C := RX4) (T := TX4) (N := 34) C.1 C.2.1 C.2.2.2.2.2.1 ui_X4 C.2.2.2.2.1 C.2.2.2.2.2.2.2.1 hP 0 (rfl) rfl 17 (by decide) (C.2.2.2.2.2.1 _ tw_473) (fun _ h9 => h9) rfl dX4_crash_92 ?_
      refine lv_iload_n C.1 C.2.1 dX4_crash_95 rfl (lv_at hl 0 rfl) ?_
      refine va_iald (f := C9 17) C.1 C.2.1 C.2.2.2.2.2.2.2.1 hP 11 0 (rfl) rfl (vp_in_nI (by omega) (by decide)) dX4_crash_96 ?_
      rw [nI_clamp (by omega), p1]
      refine lv_aload_n C.1 C.2.1 dX4_crash_97 rfl (lv_at hl 2 rfl) ?_
      refine va_get (ci := 4) (C := RX4) (T := TX4) (N := 34) C.1 C.2.1 C.2.2.2.2.2.1 ui_X4 C.2.2.2.2.1 C.2.2.2.2.2.2.2.1 hP 0 (rfl) rfl 18 (by decide) (C.2.2.2.2.2.1 _ tw_474) (fun _ h9 => h9) rfl dX4_crash_98 ?_
      refine lv_iload_n C.1 C.2.1 dX4_crash_101 rfl (lv_at hl 0 rfl) ?_
      refine va_iald (f := C9 18) C.1 C.2.1 C.2.2.2.2.2.2.2.1 hP 12 0 (rfl) rfl (vp_in_nI (by omega) (by decide)) dX4_crash_102 ?_
      rw [nI_clamp (by omega)]
      refine va_iast (f := C9 12) C.1 C.2.1 C.2.2.2.2.2.2.2.1 hP hD hS 9 0 (rfl) rfl (vp_in_nI p2 (by decide)) dX4_crash_103 (fun H locs hP hD hS => ?_)
      rw [nI_clamp (show (C9 17 j).toNatClampNeg < 2 ^ 31 by omega)] at hP hD
      have hP : va_P D vwCl (mw ad cI cZ X (va_up J1 20 (nI 0)) (va_up (va_up C9 11 (upd (C9 11) (C9 17 j).toNatClampNeg (nI 1))) 12 (upd (C9 12) (C9 17 j).toNatClampNeg (C9 18 j)))) H := hP
      have hD : va_D (cm_A (mw ad cI cZ X I A)) (mw ad cI cZ X (va_up J1 20 (nI 0)) (va_up (va_up C9 11 (upd (C9 11) (C9 17 j).toNatClampNeg (nI 1))) 12 (upd (C9 12) (C9 17 j).toNatClampNeg (C9 18 j)))) := hD
      refine lv_aload_n C.1 C.2.1 dX4_crash_104 rfl (lv_at hl 2 rfl) ?_
      refine va_get (ci := 4) (C := RX4) (T := TX4) (N := 34) C.1 C.2.1 C.2.2.2.2.2.1 ui_X4 C.2.2.2.2.1 C.2.2.2.2.2.2.2.1 hP 0 (rfl) rfl 13 (by decide) (C.2.2.2.2.2.1 _ tw_469) (fun _ h9 => h9) rfl dX4_crash_105 ?_
      refine lv_aload_n C.1 C.2.1 dX4_crash_108 rfl (lv_at hl 2 rfl) ?_
      refine va_get (ci := 4) (C := RX4) (T := TX4) (N := 34) C.1 C.2.1 C.2.2.2.2.2.1 ui_X4 C.2.2.2.2.1 C.2.2.2.2.2.2.2.1 hP 0 (rfl) rfl 17 (by decide) (C.2.2.2.2.2.1 _ tw_473) (fun _ h9 => h9) rfl dX4_crash_109 ?_
      refine lv_iload_n C.1 C.2.1 dX4_crash_112 rfl (lv_at hl 0 rfl) ?_
      refine va_iald (f := C9 17) C.1 C.2.1 C.2.2.2.2.2.2.2.1 hP 11 0 (rfl) rfl (vp_in_nI (by omega) (by decide)) dX4_crash_113 ?_
      rw [nI_clamp (by omega), p1]
      refine lv_aload_n C.1 C.2.1 dX4_crash_114 rfl (lv_at hl 2 rfl) ?_
      refine va_get (ci := 4) (C := RX4) (T := TX4) (N := 34) C.1 C.2.1 C.2.2.2.2.2.1 ui_X4 C.2.2.2.2.1 C.2.2.2.2.2.2.2.1 hP 0 (rfl) rfl 19 (by decide) (C.2.2.2.2.2.1 _ tw_475) (fun _ h9 => h9) rfl dX4_crash_115 ?_
      refine lv_iload_n C.1 C.2.1 dX4_crash_118 rfl (lv_at hl 0 rfl) ?_
      refine va_iald (f := C9 19) C.1 C.2.1 C.2.2.2.2.2.2.2.1 hP 13 0 (rfl) rfl (vp_in_nI (by omega) (by decide)) dX4_crash_119 ?_
      rw [nI_clamp (by omega)]
      refine va_iast (f := C9 13) C.1 C.2.1 C.2.2.2.2.2.2.2.1 hP hD hS 10 0 (rfl) rfl (vp_in_nI p2 (by decide)) dX4_crash_120 (fun H locs hP hD hS => ?_)
      rw [nI_clamp (show (C9 17 j).toNatClampNeg < 2 ^ 31 by omega)] at hP hD
      have hP : va_P D vwCl (mw ad cI cZ X (va_up J1 20 (nI 0)) (rd1 j C9)) H := hP
      have hD : va_D (cm_A (mw ad cI cZ X I A)) (mw ad cI cZ X (va_up J1 20 (nI 0)) (rd1 j C9)) := hD
      refine lv_iinc (v := nI (j + 1)) (lv' := [(3, _), (2, _), (0, _), (1, _)]) C.1 C.2.1 dX4_crash_121 hl (k := 0) rfl (nI_1 j) (by decide) rfl (fun ls hl => ?_)
      refine lv_goto (tgt := 67) C.1 C.2.1 dX4_crash_124 (by decide) ?_
      exact ih (j + 1) (rd1 j C9) (by omega) hf h9 ls H locs hl hP hD hS
  have loop : ∀ (k j : Nat) (J : Nat → Int32) (C9 : Nat → Nat → Int32), j + k = n9 → J 20 = nI t → (∀ i, i < t → wKnd C9 i) → finN j k (J, C9) = (J1, C1) → ∀ (ls : Array Slot) (H : Heap) (locs : List Loc), lv_has ls 4 [(3, .int (nI j)), (2, .int (nI (t - n9))), (0, .ref (ad 0)), (1, .int (nI d9))] → va_P D vwCl (mw ad cI cZ X J C9) H → va_D (cm_A (mw ad cI cZ X I A)) (mw ad cI cZ X J C9) → va_S (cm_A (mw ad cI cZ X I A)) s.heap H locs → W p l e (cm_rm 1 23) s m ([.ref (ad 0), .int (nI d9)] : List Value).toArray below meth c H locs 0 0 (cm_Q below D [.ref (ad 0), .int (nI d9)] s (mw ad cI cZ X I A) (some (.int (nI (t - n9)))) (mw ad cI cZ X (crI J1) (cpD 72 (rdo 0 q9 C1)))) (F0 m 39 ls []) := by
    intro k
    induction k with
    | zero =>
      intro j J C9 hj h209 hk9 hf ls H locs hl hP hD hS
      refine lv_iload_n C.1 C.2.1 dX4_crash_39 rfl (lv_at hl 0 rfl) ?_
      refine lv_aload_n C.1 C.2.1 dX4_crash_40 rfl (lv_at hl 2 rfl) ?_
      refine va_get (ci := 4) (C := RX4) (T := TX4) (N := 34) C.1 C.2.1 C.2.2.2.2.2.1 ui_X4 C.2.2.2.2.1 C.2.2.2.2.2.2.2.1 hP 0 (rfl) rfl 20 (by decide) (C.2.2.2.2.2.1 _ tw_476) (fun _ h9 => h9) rfl dX4_crash_41 ?_
      rw [h209]
      refine lv_iload_n C.1 C.2.1 dX4_crash_44 rfl (lv_at hl 1 rfl) ?_
      refine lv_isub C.1 C.2.1 dX4_crash_45 ?_
      rw [pk_sub (by omega), show t - (t - n9) = n9 by omega]
      refine lv_icmp_ge (tgt := 60) C.1 C.2.1 dX4_crash_46 (by decide) (fun _ => ?_) (fun h => absurd (nI_le (by omega) (by omega)) h)
      refine lv_aload_n C.1 C.2.1 dX4_crash_60 rfl (lv_at hl 2 rfl) ?_
      refine lv_iconst (v := nI 0) C.1 C.2.1 dX4_crash_61 (by decide +kernel) ?_
      refine va_put (ci := 4) (C := RX4) (T := TX4) (N := 34) (ty := .int) C.1 C.2.1 C.2.2.2.2.2.1 ui_X4 tyX4 tyX4_ok nmX4 C.2.2.2.2.1 C.2.2.2.2.2.2.2.1 hP hD hS 0 (rfl) rfl 20 (by decide) (C.2.2.2.2.2.1 _ tw_476) (fun _ h9 => h9) rfl (by decide +kernel) rfl rfl (Nat.le_of_ble_eq_true rfl) dX4_crash_62 (fun H locs hP hD hS => ?_)
      refine lv_iconst (v := nI 0) C.1 C.2.1 dX4_crash_65 (by decide +kernel) ?_
      refine lv_istore_n (lv' := [(3, _), (2, _), (0, _), (1, _)]) C.1 C.2.1 dX4_crash_66 rfl hl (by decide) rfl (fun ls hl => ?_)
      obtain ⟨rfl, rfl⟩ : J = J1 ∧ C9 = C1 := Prod.mk.inj hf
      exact redo q9 0 C9 (Nat.zero_add _) rfl rfl ls H locs hl hP hD hS
    | succ k ih =>
      intro j J C9 hj h209 hk9 hf ls H locs hl hP hD hS
      refine lv_iload_n C.1 C.2.1 dX4_crash_39 rfl (lv_at hl 0 rfl) ?_
      refine lv_aload_n C.1 C.2.1 dX4_crash_40 rfl (lv_at hl 2 rfl) ?_
      refine va_get (ci := 4) (C := RX4) (T := TX4) (N := 34) C.1 C.2.1 C.2.2.2.2.2.1 ui_X4 C.2.2.2.2.1 C.2.2.2.2.2.2.2.1 hP 0 (rfl) rfl 20 (by decide) (C.2.2.2.2.2.1 _ tw_476) (fun _ h9 => h9) rfl dX4_crash_41 ?_
      rw [h209]
      refine lv_iload_n C.1 C.2.1 dX4_crash_44 rfl (lv_at hl 1 rfl) ?_
      refine lv_isub C.1 C.2.1 dX4_crash_45 ?_
      rw [pk_sub (by omega), show t - (t - n9) = n9 by omega]
      refine lv_icmp_ge (tgt := 60) C.1 C.2.1 dX4_crash_46 (by decide) (fun h => absurd h (nI_ge (by omega) (by omega))) (fun _ => ?_)
      refine lv_aload_n C.1 C.2.1 dX4_crash_49 rfl (lv_at hl 2 rfl) ?_
      refine lv_iload_n C.1 C.2.1 dX4_crash_50 rfl (lv_at hl 0 rfl) ?_
      refine cm_cV0 (q0 := 0) 1 C (k_X4_finish l D cI cZ cJ ad X J C9 j (by omega) (hk9 j (by omega))) tw_604 tw_606 ts_18 tw_5 tw_607 rfl rfl (rfl) rfl (by decide +kernel) ⟨Nat.le_of_ble_eq_true rfl, Nat.le_of_ble_eq_true rfl⟩ ⟨Nat.zero_le _, Nat.zero_le _⟩ hP hD hS hl.1 rfl rfl (Nat.le_of_ble_eq_true rfl) dX4_crash_51 (fun H locs hP hD hS => ?_)
      refine lv_iinc (v := nI (j + 1)) (lv' := [(3, _), (2, _), (0, _), (1, _)]) C.1 C.2.1 dX4_crash_54 hl (k := 0) rfl (nI_1 j) (by decide) rfl (fun ls hl => ?_)
      refine lv_goto (tgt := 39) C.1 C.2.1 dX4_crash_57 (by decide) ?_
      exact ih (j + 1) _ _ (by omega) (((fin1_same j (J, C9)).2 20 (by decide)).trans h209) (fun i hi => fin1_knd (hk9 i hi)) hf ls H locs hl hP hD hS
  by_cases hdt : d9 < t
  · refine lv_aload_n C.1 C.2.1 dX4_crash_0 rfl (lv_at hl 0 rfl) ?_
    refine lv_iload_n C.1 C.2.1 dX4_crash_1 rfl (lv_at hl 1 rfl) ?_
    refine lv_if_ge (tgt := 9) C.1 C.2.1 dX4_crash_2 (by decide) (fun _ => ?_) (fun h => absurd (nI_pos' (by omega)) h)
    refine lv_iconst (v := nI 0) C.1 C.2.1 dX4_crash_9 (by decide +kernel) ?_
    refine cm_cV1 (q0 := 0) 1 C (k_X4_refused l D cI cZ cJ ad X I A (nI 0)) tw_660 tw_662 ts_28 tw_5 tw_663 rfl rfl (rfl) rfl (by decide +kernel) ⟨Nat.le_of_ble_eq_true rfl, Nat.le_of_ble_eq_true rfl⟩ ⟨Nat.zero_le _, Nat.zero_le _⟩ hP hD hS hl.1 rfl rfl (Nat.le_of_ble_eq_true rfl) dX4_crash_10 (fun H locs hP hD hS => ?_)
    refine lv_if_eq (tgt := 18) C.1 C.2.1 dX4_crash_13 (by decide) (fun _ => ?_) (fun h => absurd (by decide) h)
    refine lv_aload_n C.1 C.2.1 dX4_crash_18 rfl (lv_at hl 0 rfl) ?_
    refine va_get (v := .int (I 20)) (ci := 4) (C := RX4) (T := TX4) (N := 34) C.1 C.2.1 C.2.2.2.2.2.1 ui_X4 C.2.2.2.2.1 C.2.2.2.2.2.2.2.1 hP 0 (rfl) rfl 20 (by decide) (C.2.2.2.2.2.1 _ tw_476) (fun _ h9 => h9) rfl dX4_crash_19 ?_
    rw [h20]
    refine lv_iload_n C.1 C.2.1 dX4_crash_22 rfl (lv_at hl 1 rfl) ?_
    refine lv_icmp_le (tgt := 35) C.1 C.2.1 dX4_crash_23 (by decide) (fun h => absurd h (nI_ge hdt (by omega))) (fun _ => ?_)
    refine lv_aload_n C.1 C.2.1 dX4_crash_26 rfl (lv_at hl 0 rfl) ?_
    refine va_get (v := .int (I 20)) (ci := 4) (C := RX4) (T := TX4) (N := 34) C.1 C.2.1 C.2.2.2.2.2.1 ui_X4 C.2.2.2.2.1 C.2.2.2.2.2.2.2.1 hP 0 (rfl) rfl 20 (by decide) (C.2.2.2.2.2.1 _ tw_476) (fun _ h9 => h9) rfl dX4_crash_27 ?_
    rw [h20]
    refine lv_iload_n C.1 C.2.1 dX4_crash_30 rfl (lv_at hl 1 rfl) ?_
    refine lv_isub C.1 C.2.1 dX4_crash_31 ?_
    rw [pk_sub (by omega)]
    refine lv_goto (tgt := 36) C.1 C.2.1 dX4_crash_32 (by decide) ?_
    refine lv_istore_n (lv' := [(2, _), (0, _), (1, _)]) C.1 C.2.1 dX4_crash_36 rfl hl (by decide) rfl (fun ls hl => ?_)
    refine lv_iconst (v := nI 0) C.1 C.2.1 dX4_crash_37 (by decide +kernel) ?_
    refine lv_istore_n (lv' := [(3, _), (2, _), (0, _), (1, _)]) C.1 C.2.1 dX4_crash_38 rfl hl (by decide) rfl (fun ls hl => ?_)
    have e9 : t - d9 = t - n9 := by rw [hn9, if_pos hdt]
    rw [e9] at hl
    exact loop n9 0 (va_up I 0 (nI 0)) A (Nat.zero_add _) h20 hk hS1 ls H locs (lv_sub hl [0, 1, 2, 3] rfl) hP hD hS
  · refine lv_aload_n C.1 C.2.1 dX4_crash_0 rfl (lv_at hl 0 rfl) ?_
    refine lv_iload_n C.1 C.2.1 dX4_crash_1 rfl (lv_at hl 1 rfl) ?_
    refine lv_if_ge (tgt := 9) C.1 C.2.1 dX4_crash_2 (by decide) (fun _ => ?_) (fun h => absurd (nI_pos' (by omega)) h)
    refine lv_iconst (v := nI 0) C.1 C.2.1 dX4_crash_9 (by decide +kernel) ?_
    refine cm_cV1 (q0 := 0) 1 C (k_X4_refused l D cI cZ cJ ad X I A (nI 0)) tw_660 tw_662 ts_28 tw_5 tw_663 rfl rfl (rfl) rfl (by decide +kernel) ⟨Nat.le_of_ble_eq_true rfl, Nat.le_of_ble_eq_true rfl⟩ ⟨Nat.zero_le _, Nat.zero_le _⟩ hP hD hS hl.1 rfl rfl (Nat.le_of_ble_eq_true rfl) dX4_crash_10 (fun H locs hP hD hS => ?_)
    refine lv_if_eq (tgt := 18) C.1 C.2.1 dX4_crash_13 (by decide) (fun _ => ?_) (fun h => absurd (by decide) h)
    refine lv_aload_n C.1 C.2.1 dX4_crash_18 rfl (lv_at hl 0 rfl) ?_
    refine va_get (v := .int (I 20)) (ci := 4) (C := RX4) (T := TX4) (N := 34) C.1 C.2.1 C.2.2.2.2.2.1 ui_X4 C.2.2.2.2.1 C.2.2.2.2.2.2.2.1 hP 0 (rfl) rfl 20 (by decide) (C.2.2.2.2.2.1 _ tw_476) (fun _ h9 => h9) rfl dX4_crash_19 ?_
    rw [h20]
    refine lv_iload_n C.1 C.2.1 dX4_crash_22 rfl (lv_at hl 1 rfl) ?_
    refine lv_icmp_le (tgt := 35) C.1 C.2.1 dX4_crash_23 (by decide) (fun _ => ?_) (fun h => absurd (nI_le (by omega) (by omega)) h)
    refine lv_iconst (v := nI 0) C.1 C.2.1 dX4_crash_35 (by decide +kernel) ?_
    refine lv_istore_n (lv' := [(2, _), (0, _), (1, _)]) C.1 C.2.1 dX4_crash_36 rfl hl (by decide) rfl (fun ls hl => ?_)
    refine lv_iconst (v := nI 0) C.1 C.2.1 dX4_crash_37 (by decide +kernel) ?_
    refine lv_istore_n (lv' := [(3, _), (2, _), (0, _), (1, _)]) C.1 C.2.1 dX4_crash_38 rfl hl (by decide) rfl (fun ls hl => ?_)
    have e9 : (0 : Nat) = t - n9 := by rw [hn9, if_neg hdt]; omega
    exact loop n9 0 (va_up I 0 (nI 0)) A (Nat.zero_add _) h20 hk hS1 ls H locs (by rw [← e9]; exact lv_sub hl [0, 1, 2, 3] rfl) hP hD hS
