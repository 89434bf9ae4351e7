/-! ===== followPath, takeTrial, recover, and what only reads ===== -/
def folP (fm : Nat → Int32) (M : List (Nat × Int32 × Int32)) (fn : Nat → Int32) (σ : WS) : (Nat → Int32) × WS :=
  (upd (mkR M (va_cpy fm fn 0 418 22, wr (va_cpy fm fn 0 418 22) 19 σ)).1 418 (nI 0), wr (upd (mkR M (va_cpy fm fn 0 418 22, wr (va_cpy fm fn 0 418 22) 19 σ)).1 418 (nI 0)) 19 (mkR M (va_cpy fm fn 0 418 22, wr (va_cpy fm fn 0 418 22) 19 σ)).2)
/-- a row of ft taken into fn, and written -/
def tk1 (ft : Nat → Int32) (r : Nat) (x : (Nat → Int32) × WS) : (Nat → Int32) × WS := (va_cpy ft x.1 (r * 22) (r * 22) 22, wr (va_cpy ft x.1 (r * 22) (r * 22) 22) r x.2)
def tkP (ft : Nat → Int32) (z : Nat) : Nat → Nat → (Nat → Int32) × WS → (Nat → Int32) × WS
  | _, 0, x => x
  | j, k + 1, x => tkP ft z (j + 1) k (tk1 ft (z * 9 + j) x)
def cpN (fd : Nat → Int32) : Nat → Nat → (Nat → Int32) → (Nat → Int32)
  | _, 0, f => f
  | j, k + 1, f => cpN fd (j + 1) k (va_cpy fd f (j * 22) (j * 22) 22)
theorem tk1_ok {ft : Nat → Int32} {r : Nat} {x : (Nat → Int32) × WS} (h : sOk x.2) (hr : r < 20) : sOk (tk1 ft r x).2 := wr_ok h hr
theorem tkP_ok {ft : Nat → Int32} {z : Nat} (hz : z < 2) : ∀ (k j : Nat) (x : (Nat → Int32) × WS), j + k ≤ 9 → sOk x.2 → sOk (tkP ft z j k x).2 := by
  intro k
  induction k with
  | zero => intro j x _ h; exact h
  | succ k ih => intro j x hj h; exact ih (j + 1) _ (by omega) (tk1_ok h (by omega))
set_option maxHeartbeats 4000000 in
set_option maxRecDepth 100000 in
/-- followPath -/
theorem k_X3_followPath (l : Launch) (D : va_G) (cI cZ cJ : ClassId) (ad : Nat → Nat) (X : va_W) (sd fn ft fm : Nat → Int32) (σ : WS) (ta lp lr : Int32) (hσ : sOk σ) (M : List (Nat × Int32 × Int32)) (hm : mEnc fm M) (hM : ∀ m ∈ M, m.1 < 72) : CM l D (cm_T cI cZ cJ) yX3_followPath cX3_followPath 1 none (cm_rm 5 131) [.ref (ad 0)] (cw ad cI X sd fn ft fm σ ta lp lr) none (cw ad cI X sd (folP fm M fn σ).1 ft fm (folP fm M fn σ).2 ta (nI M.length) lr) := by
  refine CM.of (by decide) (Nat.le_of_ble_eq_true rfl) ?_
  intro p e s m below meth c ls H locs C hl hP hD hS
  refine lv_aload_n C.1 C.2.1 dX3_followPath_0 rfl (lv_at hl 0 rfl) ?_
  refine va_get (ci := 3) (C := RX3) (T := TX3) (N := 10) C.1 C.2.1 C.2.2.2.2.2.1 ui_X3 C.2.2.2.2.1 C.2.2.2.2.2.2.2.1 hP 0 (rfl) rfl 1 (by decide) (C.2.2.2.2.2.1 _ tw_62) (fun _ h9 => h9) rfl dX3_followPath_1 ?_
  refine lv_aload_n C.1 C.2.1 dX3_followPath_4 rfl (lv_at hl 0 rfl) ?_
  refine va_get (ci := 3) (C := RX3) (T := TX3) (N := 10) C.1 C.2.1 C.2.2.2.2.2.1 ui_X3 C.2.2.2.2.1 C.2.2.2.2.2.2.2.1 hP 0 (rfl) rfl 5 (by decide) (C.2.2.2.2.2.1 _ tw_66) (fun _ h9 => h9) rfl dX3_followPath_5 ?_
  refine cm_cV0 (q0 := 2) 1 C (k_X0_tellJournal l D cI cZ cJ (cw ad cI X sd fn ft fm σ ta lp lr) (qI := 2) (qA := 3) rfl rfl (qM := 11) (qN := 12) rfl rfl) tw_265 tw_266 tw_267 tw_2 tw_268 rfl rfl (rfl) rfl (by decide +kernel) ⟨Nat.le_of_ble_eq_true rfl, Nat.le_of_ble_eq_true rfl⟩ ⟨Nat.zero_le _, Nat.zero_le _⟩ hP hD hS hl.1 rfl rfl (Nat.le_of_ble_eq_true rfl) dX3_followPath_8 (fun H locs hP hD hS => ?_)
  have hP : va_P D vwCl (cw ad cI X sd (va_cpy fm fn 0 418 22) ft fm σ ta lp lr) H := hP
  have hD : va_D (cm_A (cw ad cI X sd fn ft fm σ ta lp lr)) (cw ad cI X sd (va_cpy fm fn 0 418 22) ft fm σ ta lp lr) := hD
  refine lv_aload_n C.1 C.2.1 dX3_followPath_11 rfl (lv_at hl 0 rfl) ?_
  refine lv_bipush (v := nI 19) C.1 C.2.1 dX3_followPath_12 (by decide +kernel) ?_
  refine cm_cV0 (q0 := 0) 1 C (k_X3_write l D cI cZ cJ ad X sd (va_cpy fm fn 0 418 22) ft fm σ ta lp lr (hσ) (19) (by decide)) tw_244 tw_246 ts_6 tw_1 tw_247 rfl rfl (rfl) rfl (by decide +kernel) ⟨Nat.le_of_ble_eq_true rfl, Nat.le_of_ble_eq_true rfl⟩ ⟨Nat.zero_le _, Nat.zero_le _⟩ hP hD hS hl.1 rfl rfl (Nat.le_of_ble_eq_true rfl) dX3_followPath_14 (fun H locs hP hD hS => ?_)
  refine lv_aload_n C.1 C.2.1 dX3_followPath_17 rfl (lv_at hl 0 rfl) ?_
  refine cm_cV0 (q0 := 0) 0 C (k_X3_makeMoves l D cI cZ cJ ad X sd (va_cpy fm fn 0 418 22) ft fm (wr (va_cpy fm fn 0 418 22) 19 σ) ta lp lr (wr_ok hσ (by decide)) M hm) tw_269 tw_271 ts_8 tw_1 tw_272 rfl rfl (rfl) rfl (by decide +kernel) ⟨Nat.le_of_ble_eq_true rfl, Nat.le_of_ble_eq_true rfl⟩ ⟨Nat.zero_le _, Nat.zero_le _⟩ hP hD hS hl.1 rfl rfl (Nat.le_of_ble_eq_true rfl) dX3_followPath_18 (fun H locs hP hD hS => ?_)
  refine lv_aload_n C.1 C.2.1 dX3_followPath_21 rfl (lv_at hl 0 rfl) ?_
  refine va_get (ci := 3) (C := RX3) (T := TX3) (N := 10) C.1 C.2.1 C.2.2.2.2.2.1 ui_X3 C.2.2.2.2.1 C.2.2.2.2.2.2.2.1 hP 0 (rfl) rfl 1 (by decide) (C.2.2.2.2.2.1 _ tw_62) (fun _ h9 => h9) rfl dX3_followPath_22 ?_
  refine cm_cV0 (q0 := 2) 0 C (k_X0_emptyJournal l D cI cZ cJ (cw ad cI X sd (mkR M ((va_cpy fm fn 0 418 22), (wr (va_cpy fm fn 0 418 22) 19 σ))).1 ft fm (mkR M ((va_cpy fm fn 0 418 22), (wr (va_cpy fm fn 0 418 22) 19 σ))).2 ta lp lr) (qI := 2) (qA := 3) rfl rfl) tw_279 tw_280 tw_281 tw_2 tw_282 rfl rfl (rfl) rfl (by decide +kernel) ⟨Nat.le_of_ble_eq_true rfl, Nat.le_of_ble_eq_true rfl⟩ ⟨Nat.zero_le _, Nat.zero_le _⟩ hP hD hS hl.1 rfl rfl (Nat.le_of_ble_eq_true rfl) dX3_followPath_25 (fun H locs hP hD hS => ?_)
  have hP : va_P D vwCl (cw ad cI X sd (upd (mkR M ((va_cpy fm fn 0 418 22), (wr (va_cpy fm fn 0 418 22) 19 σ))).1 418 (nI 0)) ft fm (mkR M ((va_cpy fm fn 0 418 22), (wr (va_cpy fm fn 0 418 22) 19 σ))).2 ta lp lr) H := hP
  have hD : va_D (cm_A (cw ad cI X sd fn ft fm σ ta lp lr)) (cw ad cI X sd (upd (mkR M ((va_cpy fm fn 0 418 22), (wr (va_cpy fm fn 0 418 22) 19 σ))).1 418 (nI 0)) ft fm (mkR M ((va_cpy fm fn 0 418 22), (wr (va_cpy fm fn 0 418 22) 19 σ))).2 ta lp lr) := hD
  refine lv_aload_n C.1 C.2.1 dX3_followPath_28 rfl (lv_at hl 0 rfl) ?_
  refine lv_bipush (v := nI 19) C.1 C.2.1 dX3_followPath_29 (by decide +kernel) ?_
  refine cm_cV0 (q0 := 0) 1 C (k_X3_write l D cI cZ cJ ad X sd (upd (mkR M ((va_cpy fm fn 0 418 22), (wr (va_cpy fm fn 0 418 22) 19 σ))).1 418 (nI 0)) ft fm (mkR M ((va_cpy fm fn 0 418 22), (wr (va_cpy fm fn 0 418 22) 19 σ))).2 ta lp lr (mkR_ok hM (wr_ok hσ (by decide))) (19) (by decide)) tw_244 tw_246 ts_6 tw_1 tw_247 rfl rfl (rfl) rfl (by decide +kernel) ⟨Nat.le_of_ble_eq_true rfl, Nat.le_of_ble_eq_true rfl⟩ ⟨Nat.zero_le _, Nat.zero_le _⟩ hP hD hS hl.1 rfl rfl (Nat.le_of_ble_eq_true rfl) dX3_followPath_31 (fun H locs hP hD hS => ?_)
  refine lv_aload_n C.1 C.2.1 dX3_followPath_34 rfl (lv_at hl 0 rfl) ?_
  refine lv_aload_n C.1 C.2.1 dX3_followPath_35 rfl (lv_at hl 0 rfl) ?_
  refine va_get (ci := 3) (C := RX3) (T := TX3) (N := 10) C.1 C.2.1 C.2.2.2.2.2.1 ui_X3 C.2.2.2.2.1 C.2.2.2.2.2.2.2.1 hP 0 (rfl) rfl 5 (by decide) (C.2.2.2.2.2.1 _ tw_66) (fun _ h9 => h9) rfl dX3_followPath_36 ?_
  refine cm_cV1 (q0 := 11) 0 C (k_X1_size l D cI cZ cJ (cw ad cI X sd (upd (mkR M ((va_cpy fm fn 0 418 22), (wr (va_cpy fm fn 0 418 22) 19 σ))).1 418 (nI 0)) ft fm (wr (upd (mkR M ((va_cpy fm fn 0 418 22), (wr (va_cpy fm fn 0 418 22) 19 σ))).1 418 (nI 0)) 19 (mkR M ((va_cpy fm fn 0 418 22), (wr (va_cpy fm fn 0 418 22) 19 σ))).2) ta lp lr) (qM := 11) (qN := 12) rfl rfl) tw_273 tw_151 tw_152 tw_4 tw_153 rfl rfl (rfl) rfl (by decide +kernel) ⟨Nat.le_of_ble_eq_true rfl, Nat.le_of_ble_eq_true rfl⟩ ⟨Nat.zero_le _, Nat.zero_le _⟩ hP hD hS hl.1 rfl rfl (Nat.le_of_ble_eq_true rfl) dX3_followPath_39 (fun H locs hP hD hS => ?_)
  rw [hm.2.1]
  refine va_put (ci := 3) (C := RX3) (T := TX3) (N := 10) (ty := .int) C.1 C.2.1 C.2.2.2.2.2.1 ui_X3 tyX3 tyX3_ok nmX3 C.2.2.2.2.1 C.2.2.2.2.2.2.2.1 hP hD hS 0 (rfl) rfl 8 (by decide) (C.2.2.2.2.2.1 _ tw_69) (fun _ h9 => h9) rfl (by decide +kernel) rfl rfl (Nat.le_of_ble_eq_true rfl) dX3_followPath_42 (fun H locs hP hD hS => ?_)
  exact cm_vret C hP hD hS dX3_followPath_45 rfl
set_option maxHeartbeats 4000000 in
set_option maxRecDepth 100000 in
/-- takeTrial -/
theorem k_X3_takeTrial (l : Launch) (D : va_G) (cI cZ cJ : ClassId) (ad : Nat → Nat) (X : va_W) (sd fn ft fm : Nat → Int32) (σ : WS) (ta lp lr : Int32) (hσ : sOk σ) (z : Nat) (hz0 : z < 2) (hz : ft 396 = nI z) : CM l D (cm_T cI cZ cJ) yX3_takeTrial cX3_takeTrial 3 none (cm_rm 4 109) [.ref (ad 0)] (cw ad cI X sd fn ft fm σ ta lp lr) none (cw ad cI X sd (tk1 ft 18 (tkP ft z 0 9 (fn, σ))).1 ft fm (tk1 ft 18 (tkP ft z 0 9 (fn, σ))).2 (ta + nI 1) lp lr) := by
  refine CM.of (by decide) (Nat.le_of_ble_eq_true rfl) ?_
  intro p e s m below meth c ls H locs C hl hP hD hS
  refine lv_iconst (v := nI 0) C.1 C.2.1 dX3_takeTrial_0 (by decide +kernel) ?_
  refine lv_istore_n (lv' := [(1, _), (0, _)]) C.1 C.2.1 dX3_takeTrial_1 rfl hl (by decide) rfl (fun ls hl => ?_)
  have loop : ∀ (k j : Nat) (g : Nat → Int32) (τ : WS), j + k = 9 → sOk τ → ∀ (ls : Array Slot) (H : Heap) (locs : List Loc), lv_has ls 3 [(1, .int (nI j)), (0, .ref (ad 0))] → va_P D vwCl (cw ad cI X sd g ft fm τ ta lp lr) H → va_D (cm_A (cw ad cI X sd fn ft fm σ ta lp lr)) (cw ad cI X sd g ft fm τ ta lp lr) → va_S (cm_A (cw ad cI X sd fn ft fm σ ta lp lr)) s.heap H locs → W p l e (cm_rm 4 109) s m ([.ref (ad 0)] : List Value).toArray below meth c H locs 0 0 (cm_Q below D [.ref (ad 0)] s (cw ad cI X sd fn ft fm σ ta lp lr) none (cw ad cI X sd (tk1 ft 18 (tkP ft z j k (g, τ))).1 ft fm (tk1 ft 18 (tkP ft z j k (g, τ))).2 (ta + nI 1) lp lr)) (F0 m 2 ls []) := by
    intro k
    induction k with
    | zero =>
      intro j g τ hj hτ ls H locs hl hP hD hS
      refine lv_iload_n C.1 C.2.1 dX3_takeTrial_2 rfl (lv_at hl 0 rfl) ?_
      refine lv_bipush (v := nI 9) C.1 C.2.1 dX3_takeTrial_3 (by decide +kernel) ?_
      refine lv_icmp_ge (tgt := 40) C.1 C.2.1 dX3_takeTrial_5 (by decide) (fun _ => ?_) (fun h => absurd (nI_le (by omega) (by omega)) h)
      refine lv_aload_n C.1 C.2.1 dX3_takeTrial_40 rfl (lv_at hl 1 rfl) ?_
      refine va_get (ci := 3) (C := RX3) (T := TX3) (N := 10) C.1 C.2.1 C.2.2.2.2.2.1 ui_X3 C.2.2.2.2.1 C.2.2.2.2.2.2.2.1 hP 0 (rfl) rfl 1 (by decide) (C.2.2.2.2.2.1 _ tw_62) (fun _ h9 => h9) rfl dX3_takeTrial_41 ?_
      refine lv_aload_n C.1 C.2.1 dX3_takeTrial_44 rfl (lv_at hl 1 rfl) ?_
      refine va_get (ci := 3) (C := RX3) (T := TX3) (N := 10) C.1 C.2.1 C.2.2.2.2.2.1 ui_X3 C.2.2.2.2.1 C.2.2.2.2.2.2.2.1 hP 0 (rfl) rfl 3 (by decide) (C.2.2.2.2.2.1 _ tw_64) (fun _ h9 => h9) rfl dX3_takeTrial_45 ?_
      refine lv_bipush (v := nI 18) C.1 C.2.1 dX3_takeTrial_48 (by decide +kernel) ?_
      refine cm_cV0 (q0 := 2) 2 C (k_X0_takeRow l D cI cZ cJ (cw ad cI X sd g ft fm τ ta lp lr) (qI := 2) (qA := 3) rfl rfl (qJ := 6) (qB := 7) rfl rfl 18 (by decide)) tw_234 tw_235 tw_236 tw_2 tw_237 rfl rfl (rfl) rfl (by decide +kernel) ⟨Nat.le_of_ble_eq_true rfl, Nat.le_of_ble_eq_true rfl⟩ ⟨Nat.zero_le _, Nat.zero_le _⟩ hP hD hS hl.1 rfl rfl (Nat.le_of_ble_eq_true rfl) dX3_takeTrial_50 (fun H locs hP hD hS => ?_)
      have hP : va_P D vwCl (cw ad cI X sd (va_cpy ft g (18 * 22) (18 * 22) 22) ft fm τ ta lp lr) H := hP
      have hD : va_D (cm_A (cw ad cI X sd fn ft fm σ ta lp lr)) (cw ad cI X sd (va_cpy ft g (18 * 22) (18 * 22) 22) ft fm τ ta lp lr) := hD
      refine lv_aload_n C.1 C.2.1 dX3_takeTrial_53 rfl (lv_at hl 1 rfl) ?_
      refine lv_bipush (v := nI 18) C.1 C.2.1 dX3_takeTrial_54 (by decide +kernel) ?_
      refine cm_cV0 (q0 := 0) 1 C (k_X3_write l D cI cZ cJ ad X sd (va_cpy ft g (18 * 22) (18 * 22) 22) ft fm τ ta lp lr (hτ) (18) (by decide)) tw_244 tw_246 ts_6 tw_1 tw_247 rfl rfl (rfl) rfl (by decide +kernel) ⟨Nat.le_of_ble_eq_true rfl, Nat.le_of_ble_eq_true rfl⟩ ⟨Nat.zero_le _, Nat.zero_le _⟩ hP hD hS hl.1 rfl rfl (Nat.le_of_ble_eq_true rfl) dX3_takeTrial_56 (fun H locs hP hD hS => ?_)
      refine lv_aload_n C.1 C.2.1 dX3_takeTrial_59 rfl (lv_at hl 1 rfl) ?_
      refine lv_dup C.1 C.2.1 dX3_takeTrial_60 rfl ?_
      refine va_get (ci := 3) (C := RX3) (T := TX3) (N := 10) C.1 C.2.1 C.2.2.2.2.2.1 ui_X3 C.2.2.2.2.1 C.2.2.2.2.2.2.2.1 hP 0 (rfl) rfl 7 (by decide) (C.2.2.2.2.2.1 _ tw_68) (fun _ h9 => h9) rfl dX3_takeTrial_61 ?_
      refine lv_iconst (v := nI 1) C.1 C.2.1 dX3_takeTrial_64 (by decide +kernel) ?_
      refine lv_iadd C.1 C.2.1 dX3_takeTrial_65 ?_
      refine va_put (ci := 3) (C := RX3) (T := TX3) (N := 10) (ty := .int) C.1 C.2.1 C.2.2.2.2.2.1 ui_X3 tyX3 tyX3_ok nmX3 C.2.2.2.2.1 C.2.2.2.2.2.2.2.1 hP hD hS 0 (rfl) rfl 7 (by decide) (C.2.2.2.2.2.1 _ tw_68) (fun _ h9 => h9) rfl (by decide +kernel) rfl rfl (Nat.le_of_ble_eq_true rfl) dX3_takeTrial_66 (fun H locs hP hD hS => ?_)
      exact cm_vret C hP hD hS dX3_takeTrial_69 rfl
    | succ k ih =>
      intro j g τ hj hτ ls H locs hl hP hD hS
      refine lv_iload_n C.1 C.2.1 dX3_takeTrial_2 rfl (lv_at hl 0 rfl) ?_
      refine lv_bipush (v := nI 9) C.1 C.2.1 dX3_takeTrial_3 (by decide +kernel) ?_
      refine lv_icmp_ge (tgt := 40) C.1 C.2.1 dX3_takeTrial_5 (by decide) (fun h => absurd h (nI_ge (by omega) (by decide))) (fun _ => ?_)
      refine lv_aload_n C.1 C.2.1 dX3_takeTrial_8 rfl (lv_at hl 1 rfl) ?_
      refine va_get (ci := 3) (C := RX3) (T := TX3) (N := 10) C.1 C.2.1 C.2.2.2.2.2.1 ui_X3 C.2.2.2.2.1 C.2.2.2.2.2.2.2.1 hP 0 (rfl) rfl 3 (by decide) (C.2.2.2.2.2.1 _ tw_64) (fun _ h9 => h9) rfl dX3_takeTrial_9 ?_
      refine lv_iload_n C.1 C.2.1 dX3_takeTrial_12 rfl (lv_at hl 0 rfl) ?_
      refine cm_cV1 (q0 := 6) 1 C (k_X0_rowInUse l D cI cZ cJ (cw ad cI X sd g ft fm τ ta lp lr) (qI := 6) (qA := 7) rfl rfl z j hz) tw_120 tw_121 tw_122 tw_2 tw_123 rfl rfl (rfl) rfl (by decide +kernel) ⟨Nat.le_of_ble_eq_true rfl, Nat.le_of_ble_eq_true rfl⟩ ⟨Nat.zero_le _, Nat.zero_le _⟩ hP hD hS hl.1 rfl rfl (Nat.le_of_ble_eq_true rfl) dX3_takeTrial_13 (fun H locs hP hD hS => ?_)
      refine lv_istore_n (lv' := [(2, _), (1, _), (0, _)]) C.1 C.2.1 dX3_takeTrial_16 rfl hl (by decide) rfl (fun ls hl => ?_)
      refine lv_aload_n C.1 C.2.1 dX3_takeTrial_17 rfl (lv_at hl 2 rfl) ?_
      refine va_get (ci := 3) (C := RX3) (T := TX3) (N := 10) C.1 C.2.1 C.2.2.2.2.2.1 ui_X3 C.2.2.2.2.1 C.2.2.2.2.2.2.2.1 hP 0 (rfl) rfl 1 (by decide) (C.2.2.2.2.2.1 _ tw_62) (fun _ h9 => h9) rfl dX3_takeTrial_18 ?_
      refine lv_aload_n C.1 C.2.1 dX3_takeTrial_21 rfl (lv_at hl 2 rfl) ?_
      refine va_get (ci := 3) (C := RX3) (T := TX3) (N := 10) C.1 C.2.1 C.2.2.2.2.2.1 ui_X3 C.2.2.2.2.1 C.2.2.2.2.2.2.2.1 hP 0 (rfl) rfl 3 (by decide) (C.2.2.2.2.2.1 _ tw_64) (fun _ h9 => h9) rfl dX3_takeTrial_22 ?_
      refine lv_iload_n C.1 C.2.1 dX3_takeTrial_25 rfl (lv_at hl 0 rfl) ?_
      refine cm_cV0 (q0 := 2) 2 C (k_X0_takeRow l D cI cZ cJ (cw ad cI X sd g ft fm τ ta lp lr) (qI := 2) (qA := 3) rfl rfl (qJ := 6) (qB := 7) rfl rfl (z * 9 + j) (by omega)) tw_234 tw_235 tw_236 tw_2 tw_237 rfl rfl (rfl) rfl (by decide +kernel) ⟨Nat.le_of_ble_eq_true rfl, Nat.le_of_ble_eq_true rfl⟩ ⟨Nat.zero_le _, Nat.zero_le _⟩ hP hD hS hl.1 rfl rfl (Nat.le_of_ble_eq_true rfl) dX3_takeTrial_26 (fun H locs hP hD hS => ?_)
      have hP : va_P D vwCl (cw ad cI X sd (va_cpy ft g ((z * 9 + j) * 22) ((z * 9 + j) * 22) 22) ft fm τ ta lp lr) H := hP
      have hD : va_D (cm_A (cw ad cI X sd fn ft fm σ ta lp lr)) (cw ad cI X sd (va_cpy ft g ((z * 9 + j) * 22) ((z * 9 + j) * 22) 22) ft fm τ ta lp lr) := hD
      refine lv_aload_n C.1 C.2.1 dX3_takeTrial_29 rfl (lv_at hl 2 rfl) ?_
      refine lv_iload_n C.1 C.2.1 dX3_takeTrial_30 rfl (lv_at hl 0 rfl) ?_
      refine cm_cV0 (q0 := 0) 1 C (k_X3_write l D cI cZ cJ ad X sd (va_cpy ft g ((z * 9 + j) * 22) ((z * 9 + j) * 22) 22) ft fm τ ta lp lr (hτ) ((z * 9 + j)) (by omega)) tw_244 tw_246 ts_6 tw_1 tw_247 rfl rfl (rfl) rfl (by decide +kernel) ⟨Nat.le_of_ble_eq_true rfl, Nat.le_of_ble_eq_true rfl⟩ ⟨Nat.zero_le _, Nat.zero_le _⟩ hP hD hS hl.1 rfl rfl (Nat.le_of_ble_eq_true rfl) dX3_takeTrial_31 (fun H locs hP hD hS => ?_)
      refine lv_iinc (v := nI (j + 1)) (lv' := [(1, _), (2, _), (0, _)]) C.1 C.2.1 dX3_takeTrial_34 hl (k := 1) rfl (nI_1 j) (by decide) rfl (fun ls hl => ?_)
      refine lv_goto (tgt := 2) C.1 C.2.1 dX3_takeTrial_37 (by decide) ?_
      exact ih (j + 1) (va_cpy ft g ((z * 9 + j) * 22) ((z * 9 + j) * 22) 22) (wr (va_cpy ft g ((z * 9 + j) * 22) ((z * 9 + j) * 22) 22) (z * 9 + j) τ) (by omega) (wr_ok hτ (by omega)) ls H locs (lv_sub hl [0, 2] rfl) hP hD hS
  exact loop 9 0 fn σ rfl hσ ls H locs hl hP hD hS
set_option maxHeartbeats 4000000 in
set_option maxRecDepth 100000 in
/-- recover -/
theorem k_X3_recover (l : Launch) (D : va_G) (cI cZ cJ : ClassId) (ad : Nat → Nat) (X : va_W) (sd fn ft fm : Nat → Int32) (σ : WS) (ta lp lr : Int32) (t9 : Nat) (hm : mOk (va_cpy σ.1 fm 418 0 22) t9) : CM l D (cm_T cI cZ cJ) yX3_recover cX3_recover 2 none (cm_rm 3 87) [.ref (ad 0)] (cw ad cI X sd fn ft fm σ ta lp lr) none (cw ad cI X sd (cpN (upd (fillN (va_cpy σ.1 fm 418 0 22) 0 t9 σ.1) 418 (nI 0)) 0 20 fn) ft (va_cpy σ.1 fm 418 0 22) ((upd (fillN (va_cpy σ.1 fm 418 0 22) 0 t9 σ.1) 418 (nI 0)), σ.2.1, σ.2.2.1, σ.2.2.2.1, σ.2.2.2.2) ta lp (nI t9)) := by
  refine CM.of (by decide) (Nat.le_of_ble_eq_true rfl) ?_
  intro p e s m below meth c ls H locs C hl hP hD hS
  refine lv_aload_n C.1 C.2.1 dX3_recover_0 rfl (lv_at hl 0 rfl) ?_
  refine va_get (ci := 3) (C := RX3) (T := TX3) (N := 10) C.1 C.2.1 C.2.2.2.2.2.1 ui_X3 C.2.2.2.2.1 C.2.2.2.2.2.2.2.1 hP 0 (rfl) rfl 5 (by decide) (C.2.2.2.2.2.1 _ tw_66) (fun _ h9 => h9) rfl dX3_recover_1 ?_
  refine lv_aload_n C.1 C.2.1 dX3_recover_4 rfl (lv_at hl 0 rfl) ?_
  refine va_get (ci := 3) (C := RX3) (T := TX3) (N := 10) C.1 C.2.1 C.2.2.2.2.2.1 ui_X3 C.2.2.2.2.1 C.2.2.2.2.2.2.2.1 hP 0 (rfl) rfl 2 (by decide) (C.2.2.2.2.2.1 _ tw_63) (fun _ h9 => h9) rfl dX3_recover_5 ?_
  refine cm_cV0 (q0 := 11) 1 C (k_X1_takeJournal l D cI cZ cJ (cw ad cI X sd fn ft fm σ ta lp lr) (qM := 11) (qN := 12) rfl rfl (qI := 4) (qA := 5) rfl rfl) tw_419 tw_420 tw_421 tw_4 tw_422 rfl rfl (rfl) rfl (by decide +kernel) ⟨Nat.le_of_ble_eq_true rfl, Nat.le_of_ble_eq_true rfl⟩ ⟨Nat.zero_le _, Nat.zero_le _⟩ hP hD hS hl.1 rfl rfl (Nat.le_of_ble_eq_true rfl) dX3_recover_8 (fun H locs hP hD hS => ?_)
  have hP : va_P D vwCl (cw ad cI X sd fn ft (va_cpy σ.1 fm 418 0 22) σ ta lp lr) H := hP
  have hD : va_D (cm_A (cw ad cI X sd fn ft fm σ ta lp lr)) (cw ad cI X sd fn ft (va_cpy σ.1 fm 418 0 22) σ ta lp lr) := hD
  refine lv_aload_n C.1 C.2.1 dX3_recover_11 rfl (lv_at hl 0 rfl) ?_
  refine va_get (ci := 3) (C := RX3) (T := TX3) (N := 10) C.1 C.2.1 C.2.2.2.2.2.1 ui_X3 C.2.2.2.2.1 C.2.2.2.2.2.2.2.1 hP 0 (rfl) rfl 2 (by decide) (C.2.2.2.2.2.1 _ tw_63) (fun _ h9 => h9) rfl dX3_recover_12 ?_
  refine lv_aload_n C.1 C.2.1 dX3_recover_15 rfl (lv_at hl 0 rfl) ?_
  refine va_get (ci := 3) (C := RX3) (T := TX3) (N := 10) C.1 C.2.1 C.2.2.2.2.2.1 ui_X3 C.2.2.2.2.1 C.2.2.2.2.2.2.2.1 hP 0 (rfl) rfl 5 (by decide) (C.2.2.2.2.2.1 _ tw_66) (fun _ h9 => h9) rfl dX3_recover_16 ?_
  refine cm_cV0 (q0 := 4) 1 C (k_X0_fillAll l D cI cZ cJ (cw ad cI X sd fn ft (va_cpy σ.1 fm 418 0 22) σ ta lp lr) (qI := 4) (qA := 5) rfl rfl (by decide) (qM := 11) (qN := 12) rfl rfl (by decide) (by decide) t9 hm) tw_209 tw_210 tw_211 tw_2 tw_212 rfl rfl (rfl) rfl (by decide +kernel) ⟨Nat.le_of_ble_eq_true rfl, Nat.le_of_ble_eq_true rfl⟩ ⟨Nat.zero_le _, Nat.zero_le _⟩ hP hD hS hl.1 rfl rfl (Nat.le_of_ble_eq_true rfl) dX3_recover_19 (fun H locs hP hD hS => ?_)
  have hP : va_P D vwCl (cw ad cI X sd fn ft (va_cpy σ.1 fm 418 0 22) ((fillN (va_cpy σ.1 fm 418 0 22) 0 t9 σ.1), σ.2.1, σ.2.2.1, σ.2.2.2.1, σ.2.2.2.2) ta lp lr) H := hP
  have hD : va_D (cm_A (cw ad cI X sd fn ft fm σ ta lp lr)) (cw ad cI X sd fn ft (va_cpy σ.1 fm 418 0 22) ((fillN (va_cpy σ.1 fm 418 0 22) 0 t9 σ.1), σ.2.1, σ.2.2.1, σ.2.2.2.1, σ.2.2.2.2) ta lp lr) := hD
  refine lv_aload_n C.1 C.2.1 dX3_recover_22 rfl (lv_at hl 0 rfl) ?_
  refine va_get (ci := 3) (C := RX3) (T := TX3) (N := 10) C.1 C.2.1 C.2.2.2.2.2.1 ui_X3 C.2.2.2.2.1 C.2.2.2.2.2.2.2.1 hP 0 (rfl) rfl 2 (by decide) (C.2.2.2.2.2.1 _ tw_63) (fun _ h9 => h9) rfl dX3_recover_23 ?_
  refine cm_cV0 (q0 := 4) 0 C (k_X0_emptyJournal l D cI cZ cJ (cw ad cI X sd fn ft (va_cpy σ.1 fm 418 0 22) ((fillN (va_cpy σ.1 fm 418 0 22) 0 t9 σ.1), σ.2.1, σ.2.2.1, σ.2.2.2.1, σ.2.2.2.2) ta lp lr) (qI := 4) (qA := 5) rfl rfl) tw_279 tw_280 tw_281 tw_2 tw_282 rfl rfl (rfl) rfl (by decide +kernel) ⟨Nat.le_of_ble_eq_true rfl, Nat.le_of_ble_eq_true rfl⟩ ⟨Nat.zero_le _, Nat.zero_le _⟩ hP hD hS hl.1 rfl rfl (Nat.le_of_ble_eq_true rfl) dX3_recover_26 (fun H locs hP hD hS => ?_)
  have hP : va_P D vwCl (cw ad cI X sd fn ft (va_cpy σ.1 fm 418 0 22) ((upd (fillN (va_cpy σ.1 fm 418 0 22) 0 t9 σ.1) 418 (nI 0)), σ.2.1, σ.2.2.1, σ.2.2.2.1, σ.2.2.2.2) ta lp lr) H := hP
  have hD : va_D (cm_A (cw ad cI X sd fn ft fm σ ta lp lr)) (cw ad cI X sd fn ft (va_cpy σ.1 fm 418 0 22) ((upd (fillN (va_cpy σ.1 fm 418 0 22) 0 t9 σ.1) 418 (nI 0)), σ.2.1, σ.2.2.1, σ.2.2.2.1, σ.2.2.2.2) ta lp lr) := hD
  refine lv_aload_n C.1 C.2.1 dX3_recover_29 rfl (lv_at hl 0 rfl) ?_
  refine lv_aload_n C.1 C.2.1 dX3_recover_30 rfl (lv_at hl 0 rfl) ?_
  refine va_get (ci := 3) (C := RX3) (T := TX3) (N := 10) C.1 C.2.1 C.2.2.2.2.2.1 ui_X3 C.2.2.2.2.1 C.2.2.2.2.2.2.2.1 hP 0 (rfl) rfl 5 (by decide) (C.2.2.2.2.2.1 _ tw_66) (fun _ h9 => h9) rfl dX3_recover_31 ?_
  refine cm_cV1 (q0 := 11) 0 C (k_X1_size l D cI cZ cJ (cw ad cI X sd fn ft (va_cpy σ.1 fm 418 0 22) ((upd (fillN (va_cpy σ.1 fm 418 0 22) 0 t9 σ.1) 418 (nI 0)), σ.2.1, σ.2.2.1, σ.2.2.2.1, σ.2.2.2.2) ta lp lr) (qM := 11) (qN := 12) rfl rfl) tw_273 tw_151 tw_152 tw_4 tw_153 rfl rfl (rfl) rfl (by decide +kernel) ⟨Nat.le_of_ble_eq_true rfl, Nat.le_of_ble_eq_true rfl⟩ ⟨Nat.zero_le _, Nat.zero_le _⟩ hP hD hS hl.1 rfl rfl (Nat.le_of_ble_eq_true rfl) dX3_recover_34 (fun H locs hP hD hS => ?_)
  rw [hm.2.1]
  refine va_put (ci := 3) (C := RX3) (T := TX3) (N := 10) (ty := .int) C.1 C.2.1 C.2.2.2.2.2.1 ui_X3 tyX3 tyX3_ok nmX3 C.2.2.2.2.1 C.2.2.2.2.2.2.2.1 hP hD hS 0 (rfl) rfl 9 (by decide) (C.2.2.2.2.2.1 _ tw_70) (fun _ h9 => h9) rfl (by decide +kernel) rfl rfl (Nat.le_of_ble_eq_true rfl) dX3_recover_37 (fun H locs hP hD hS => ?_)
  refine lv_iconst (v := nI 0) C.1 C.2.1 dX3_recover_40 (by decide +kernel) ?_
  refine lv_istore_n (lv' := [(1, _), (0, _)]) C.1 C.2.1 dX3_recover_41 rfl hl (by decide) rfl (fun ls hl => ?_)
  have hP : va_P D vwCl (cw ad cI X sd fn ft (va_cpy σ.1 fm 418 0 22) ((upd (fillN (va_cpy σ.1 fm 418 0 22) 0 t9 σ.1) 418 (nI 0)), σ.2.1, σ.2.2.1, σ.2.2.2.1, σ.2.2.2.2) ta lp (nI t9)) H := hP
  have hD : va_D (cm_A (cw ad cI X sd fn ft fm σ ta lp lr)) (cw ad cI X sd fn ft (va_cpy σ.1 fm 418 0 22) ((upd (fillN (va_cpy σ.1 fm 418 0 22) 0 t9 σ.1) 418 (nI 0)), σ.2.1, σ.2.2.1, σ.2.2.2.1, σ.2.2.2.2) ta lp (nI t9)) := hD
  have loop : ∀ (k j : Nat) (g : Nat → Int32), j + k = 20 → ∀ (ls : Array Slot) (H : Heap) (locs : List Loc), lv_has ls 2 [(1, .int (nI j)), (0, .ref (ad 0))] → va_P D vwCl (cw ad cI X sd g ft (va_cpy σ.1 fm 418 0 22) ((upd (fillN (va_cpy σ.1 fm 418 0 22) 0 t9 σ.1) 418 (nI 0)), σ.2.1, σ.2.2.1, σ.2.2.2.1, σ.2.2.2.2) ta lp (nI t9)) H → va_D (cm_A (cw ad cI X sd fn ft fm σ ta lp lr)) (cw ad cI X sd g ft (va_cpy σ.1 fm 418 0 22) ((upd (fillN (va_cpy σ.1 fm 418 0 22) 0 t9 σ.1) 418 (nI 0)), σ.2.1, σ.2.2.1, σ.2.2.2.1, σ.2.2.2.2) ta lp (nI t9)) → va_S (cm_A (cw ad cI X sd fn ft fm σ ta lp lr)) s.heap H locs → W p l e (cm_rm 3 87) s m ([.ref (ad 0)] : List Value).toArray below meth c H locs 0 0 (cm_Q below D [.ref (ad 0)] s (cw ad cI X sd fn ft fm σ ta lp lr) none (cw ad cI X sd (cpN (upd (fillN (va_cpy σ.1 fm 418 0 22) 0 t9 σ.1) 418 (nI 0)) j k g) ft (va_cpy σ.1 fm 418 0 22) ((upd (fillN (va_cpy σ.1 fm 418 0 22) 0 t9 σ.1) 418 (nI 0)), σ.2.1, σ.2.2.1, σ.2.2.2.1, σ.2.2.2.2) ta lp (nI t9))) (F0 m 42 ls []) := by
    intro k
    induction k with
    | zero =>
      intro j g hj ls H locs hl hP hD hS
      refine lv_iload_n C.1 C.2.1 dX3_recover_42 rfl (lv_at hl 0 rfl) ?_
      refine lv_bipush (v := nI 20) C.1 C.2.1 dX3_recover_43 (by decide +kernel) ?_
      refine lv_icmp_ge (tgt := 66) C.1 C.2.1 dX3_recover_45 (by decide) (fun _ => ?_) (fun h => absurd (nI_le (by omega) (by omega)) h)
      exact cm_vret C hP hD hS dX3_recover_66 rfl
    | succ k ih =>
      intro j g hj ls H locs hl hP hD hS
      refine lv_iload_n C.1 C.2.1 dX3_recover_42 rfl (lv_at hl 0 rfl) ?_
      refine lv_bipush (v := nI 20) C.1 C.2.1 dX3_recover_43 (by decide +kernel) ?_
      refine lv_icmp_ge (tgt := 66) C.1 C.2.1 dX3_recover_45 (by decide) (fun h => absurd h (nI_ge (by omega) (by decide))) (fun _ => ?_)
      refine lv_aload_n C.1 C.2.1 dX3_recover_48 rfl (lv_at hl 1 rfl) ?_
      refine va_get (ci := 3) (C := RX3) (T := TX3) (N := 10) C.1 C.2.1 C.2.2.2.2.2.1 ui_X3 C.2.2.2.2.1 C.2.2.2.2.2.2.2.1 hP 0 (rfl) rfl 1 (by decide) (C.2.2.2.2.2.1 _ tw_62) (fun _ h9 => h9) rfl dX3_recover_49 ?_
      refine lv_aload_n C.1 C.2.1 dX3_recover_52 rfl (lv_at hl 1 rfl) ?_
      refine va_get (ci := 3) (C := RX3) (T := TX3) (N := 10) C.1 C.2.1 C.2.2.2.2.2.1 ui_X3 C.2.2.2.2.1 C.2.2.2.2.2.2.2.1 hP 0 (rfl) rfl 2 (by decide) (C.2.2.2.2.2.1 _ tw_63) (fun _ h9 => h9) rfl dX3_recover_53 ?_
      refine lv_iload_n C.1 C.2.1 dX3_recover_56 rfl (lv_at hl 0 rfl) ?_
      refine cm_cV0 (q0 := 2) 2 C (k_X0_takeRow l D cI cZ cJ (cw ad cI X sd g ft (va_cpy σ.1 fm 418 0 22) ((upd (fillN (va_cpy σ.1 fm 418 0 22) 0 t9 σ.1) 418 (nI 0)), σ.2.1, σ.2.2.1, σ.2.2.2.1, σ.2.2.2.2) ta lp (nI t9)) (qI := 2) (qA := 3) rfl rfl (qJ := 4) (qB := 5) rfl rfl j (by omega)) tw_234 tw_235 tw_236 tw_2 tw_237 rfl rfl (rfl) rfl (by decide +kernel) ⟨Nat.le_of_ble_eq_true rfl, Nat.le_of_ble_eq_true rfl⟩ ⟨Nat.zero_le _, Nat.zero_le _⟩ hP hD hS hl.1 rfl rfl (Nat.le_of_ble_eq_true rfl) dX3_recover_57 (fun H locs hP hD hS => ?_)
      have hP : va_P D vwCl (cw ad cI X sd (va_cpy (upd (fillN (va_cpy σ.1 fm 418 0 22) 0 t9 σ.1) 418 (nI 0)) g (j * 22) (j * 22) 22) ft (va_cpy σ.1 fm 418 0 22) ((upd (fillN (va_cpy σ.1 fm 418 0 22) 0 t9 σ.1) 418 (nI 0)), σ.2.1, σ.2.2.1, σ.2.2.2.1, σ.2.2.2.2) ta lp (nI t9)) H := hP
      have hD : va_D (cm_A (cw ad cI X sd fn ft fm σ ta lp lr)) (cw ad cI X sd (va_cpy (upd (fillN (va_cpy σ.1 fm 418 0 22) 0 t9 σ.1) 418 (nI 0)) g (j * 22) (j * 22) 22) ft (va_cpy σ.1 fm 418 0 22) ((upd (fillN (va_cpy σ.1 fm 418 0 22) 0 t9 σ.1) 418 (nI 0)), σ.2.1, σ.2.2.1, σ.2.2.2.1, σ.2.2.2.2) ta lp (nI t9)) := hD
      refine lv_iinc (v := nI (j + 1)) (lv' := [(1, _), (0, _)]) C.1 C.2.1 dX3_recover_60 hl (k := 0) rfl (nI_1 j) (by decide) rfl (fun ls hl => ?_)
      refine lv_goto (tgt := 42) C.1 C.2.1 dX3_recover_63 (by decide) ?_
      exact ih (j + 1) (va_cpy (upd (fillN (va_cpy σ.1 fm 418 0 22) 0 t9 σ.1) 418 (nI 0)) g (j * 22) (j * 22) 22) (by omega) ls H locs hl hP hD hS
  exact loop 20 0 fn rfl ls H locs hl hP hD hS
