/-! ===== put ===== -/
theorem trS_396 {zz : Nat} {s : Int32} {f f' : Nat → Int32} {key val : Int32} (hz : zz < 2) (h : trS zz s f key val = some f') : f' 396 = f 396 ∧ f' 397 = f 397 := by
  unfold trS at h
  split at h
  · cases h
  · cases h
    have o2 := (chS_ok (uR f zz) (kR f zz) (vR f zz) s key val).2.1
    exact ⟨fillM_hi (by decide) _ _ (absM_lt hz o2), fillM_hi (by decide) _ _ (absM_lt hz o2)⟩
theorem trL_396 {fn : Nat → Int32} {z zz : Nat} {s : Int32} (hz : zz < 2) : ∀ (k j : Nat) {f f' : Nat → Int32}, trL fn z zz s j k f = some f' → f' 396 = f 396 ∧ f' 397 = f 397 := by
  intro k
  induction k with
  | zero => intro j f f' h; cases h; exact ⟨rfl, rfl⟩
  | succ k ih =>
    intro j f f' h
    unfold trL at h
    split at h
    · cases ht : trS zz s f (kR fn z j) (vR fn z j) with
      | none => rw [ht] at h; cases h
      | some f1 =>
        rw [ht] at h
        have h1 := ih (j + 1) (show trL fn z zz s (j + 1) k f1 = some f' from h)
        have h2 := trS_396 hz ht
        exact ⟨h1.1.trans h2.1, h1.2.trans h2.2⟩
    · exact ih (j + 1) h
theorem trA_396 {fn : Nat → Int32} {z : Nat} {s : Int32} {w : Nat} {key val : Int32} {f : Nat → Int32} (hz : z < 2) (h : trA fn z s w key val = some f) : f 396 = nI (1 - z) ∧ f 397 = nI w := by
  unfold trA at h
  cases ht : trL fn z (1 - z) s 0 36 (tr0 z w) with
  | none => rw [ht] at h; cases h
  | some f1 =>
    rw [ht] at h
    have h1 := trS_396 (by omega) (show trS (1 - z) s f1 key val = some f from h)
    have h2 := trL_396 (by omega) 36 0 ht
    refine ⟨h1.1.trans (h2.1.trans ?_), h1.2.trans (h2.2.trans pk_us)⟩
    unfold tr0
    rw [pk_un (by decide), pk_us]
def anS (fn : Nat → Int32) (z : Nat) (sd : Nat → Int32) (y : Nat) (key val : Int32) : Nat → Nat → Option (Nat → Int32)
  | _, 0 => none
  | st, k + 1 => match trA fn z (sd ((y + st) % 4)) ((y + st) % 4) key val with
    | some f => some f
    | none => anS fn z sd y key val (st + 1) k
def putE (ad : Nat → Nat) (cI : ClassId) (X : va_W) (sd fn : Nat → Int32) (σ : WS) (ta lp lr : Int32) (z y9 : Nat) (key val : Int32) (r : Int32) (w1 : va_W) : Prop := ∃ ft1 fm1 : Nat → Int32,
  (¬ (chS (uR fn z) (kR fn z) (vR fn z) (sd y9) key val).1 = -2 ∧ r = (chS (uR fn z) (kR fn z) (vR fn z) (sd y9) key val).1 ∧ (chS (uR fn z) (kR fn z) (vR fn z) (sd y9) key val).1 = nI 2 ∧ mEnc fm1 (absM z (chS (uR fn z) (kR fn z) (vR fn z) (sd y9) key val).2) ∧ w1 = cw ad cI X sd (folP fm1 (absM z (chS (uR fn z) (kR fn z) (vR fn z) (sd y9) key val).2) fn σ).1 ft1 fm1 (folP fm1 (absM z (chS (uR fn z) (kR fn z) (vR fn z) (sd y9) key val).2) fn σ).2 ta (nI (absM z (chS (uR fn z) (kR fn z) (vR fn z) (sd y9) key val).2).length) lr) ∨
  (¬ (chS (uR fn z) (kR fn z) (vR fn z) (sd y9) key val).1 = -2 ∧ r = (chS (uR fn z) (kR fn z) (vR fn z) (sd y9) key val).1 ∧ ¬ (chS (uR fn z) (kR fn z) (vR fn z) (sd y9) key val).1 = nI 2 ∧ w1 = cw ad cI X sd (mkR (absM z (chS (uR fn z) (kR fn z) (vR fn z) (sd y9) key val).2) (fn, σ)).1 ft1 fm1 (mkR (absM z (chS (uR fn z) (kR fn z) (vR fn z) (sd y9) key val).2) (fn, σ)).2 ta lp lr) ∨
  ((chS (uR fn z) (kR fn z) (vR fn z) (sd y9) key val).1 = -2 ∧ (∃ f, anS fn z sd y9 key val 1 3 = some f ∧ r = nI 4 ∧ w1 = cw ad cI X sd (tk1 f 18 (tkP f (1 - z) 0 9 (fn, σ))).1 ft1 fm1 (tk1 f 18 (tkP f (1 - z) 0 9 (fn, σ))).2 (ta + nI 1) lp lr)) ∨
  ((chS (uR fn z) (kR fn z) (vR fn z) (sd y9) key val).1 = -2 ∧ anS fn z sd y9 key val 1 3 = none ∧ r = -2 ∧ w1 = cw ad cI X sd fn ft1 fm1 σ ta lp lr)
set_option maxHeartbeats 4000000 in
set_option maxRecDepth 100000 in
/-- put -/
theorem k_X3_put (l : Launch) (D : va_G) (cI cZ cJ : ClassId) (ad : Nat → Nat) (X : va_W) (sd fn ft fm : Nat → Int32) (σ : WS) (ta lp lr : Int32) (z y9 : Nat) (hz0 : z < 2) (hy0 : y9 < 4) (hz : fn 396 = nI z) (hy : fn 397 = nI y9) (hσ : sOk σ) (key val : Int32) : CRi l D (cm_T cI cZ cJ) yX3_put cX3_put 5 (some .int) (cm_rm 6 156) [.ref (ad 0), .int key, .int val] (cw ad cI X sd fn ft fm σ ta lp lr) (putE ad cI X sd fn σ ta lp lr z y9 key val) := by
  refine CRi.of (by decide) (Nat.le_of_ble_eq_true rfl) ?_
  intro p e s m below meth c ls H locs C hl hP hD hS
  obtain ⟨fm0, hf0, hch⟩ := k_X3_choose l D cI cZ cJ (cw ad cI X sd fn ft fm σ ta lp lr) (qO := 0) rfl (qM := 11) (qN := 12) rfl rfl (qI := 2) (qA := 3) rfl rfl (by decide) (by decide) (by decide) (by decide) z hz0 hz (sd y9) key val
  obtain ⟨o1, o2, o3⟩ := chS_ok (uR fn z) (kR fn z) (vR fn z) (sd y9) key val
  have hen := encA_enc (z := z) hz0 hf0 o1 o2
  by_cases hfull : (chS (uR fn z) (kR fn z) (vR fn z) (sd y9) key val).1 = -2
  · refine lv_aload_n C.1 C.2.1 dX3_put_0 rfl (lv_at hl 0 rfl) ?_
    refine lv_aload_n C.1 C.2.1 dX3_put_1 rfl (lv_at hl 0 rfl) ?_
    refine va_get (ci := 3) (C := RX3) (T := TX3) (N := 10) C.1 C.2.1 C.2.2.2.2.2.1 ui_X3 C.2.2.2.2.1 C.2.2.2.2.2.2.2.1 hP 0 (rfl) rfl 1 (by decide) (C.2.2.2.2.2.1 _ tw_62) (fun _ h9 => h9) rfl dX3_put_2 ?_
    refine lv_aload_n C.1 C.2.1 dX3_put_5 rfl (lv_at hl 0 rfl) ?_
    refine lv_aload_n C.1 C.2.1 dX3_put_6 rfl (lv_at hl 0 rfl) ?_
    refine va_get (ci := 3) (C := RX3) (T := TX3) (N := 10) C.1 C.2.1 C.2.2.2.2.2.1 ui_X3 C.2.2.2.2.1 C.2.2.2.2.2.2.2.1 hP 0 (rfl) rfl 1 (by decide) (C.2.2.2.2.2.1 _ tw_62) (fun _ h9 => h9) rfl dX3_put_7 ?_
    refine cm_cV1 (q0 := 0) 1 C (k_X3_seedInUse l D cI cZ cJ (cw ad cI X sd fn ft fm σ ta lp lr) (qO := 0) rfl (qS := 1) rfl (qI := 2) (qA := 3) rfl rfl y9 hy0 hy) tw_96 tw_98 ts_0 tw_1 tw_99 rfl rfl (rfl) rfl (by decide +kernel) ⟨Nat.le_of_ble_eq_true rfl, Nat.le_of_ble_eq_true rfl⟩ ⟨Nat.zero_le _, Nat.zero_le _⟩ hP hD hS hl.1 rfl rfl (Nat.le_of_ble_eq_true rfl) dX3_put_10 (fun H locs hP hD hS => ?_)
    refine lv_iload_n C.1 C.2.1 dX3_put_13 rfl (lv_at hl 1 rfl) ?_
    refine lv_iload_n C.1 C.2.1 dX3_put_14 rfl (lv_at hl 2 rfl) ?_
    refine cm_cV1 (q0 := 0) 4 C (hch) tw_107 tw_109 ts_1 tw_1 tw_110 rfl rfl (rfl) rfl (by decide +kernel) ⟨Nat.le_of_ble_eq_true rfl, Nat.le_of_ble_eq_true rfl⟩ ⟨Nat.zero_le _, Nat.zero_le _⟩ hP hD hS hl.1 rfl rfl (Nat.le_of_ble_eq_true rfl) dX3_put_15 (fun H locs hP hD hS => ?_)
    have hP : va_P D vwCl (cw ad cI X sd fn ft (encA z fm0 0 (chS (uR fn z) (kR fn z) (vR fn z) (sd y9) key val).2) σ ta lp lr) H := hP
    have hD : va_D (cm_A (cw ad cI X sd fn ft fm σ ta lp lr)) (cw ad cI X sd fn ft (encA z fm0 0 (chS (uR fn z) (kR fn z) (vR fn z) (sd y9) key val).2) σ ta lp lr) := hD
    refine lv_istore_n (lv' := [(3, _), (0, _), (1, _), (2, _)]) C.1 C.2.1 dX3_put_18 rfl hl (by decide) rfl (fun ls hl => ?_)
    refine lv_iconst (v := nI 1) C.1 C.2.1 dX3_put_19 (by decide +kernel) ?_
    refine lv_istore (lv' := [(4, _), (3, _), (0, _), (1, _), (2, _)]) C.1 C.2.1 dX3_put_20 hl (by decide) rfl (fun ls hl => ?_)
    rw [hfull] at hl
    have loop : ∀ (k st : Nat) (g h : Nat → Int32), st + k = 4 → anS fn z sd y9 key val st k = anS fn z sd y9 key val 1 3 → ∀ (ls : Array Slot) (H : Heap) (locs : List Loc), lv_has ls 5 [(4, .int (nI st)), (3, .int (-2)), (0, .ref (ad 0)), (1, .int key), (2, .int val)] → va_P D vwCl (cw ad cI X sd fn g h σ ta lp lr) H → va_D (cm_A (cw ad cI X sd fn ft fm σ ta lp lr)) (cw ad cI X sd fn g h σ ta lp lr) → va_S (cm_A (cw ad cI X sd fn ft fm σ ta lp lr)) s.heap H locs → W p l e (cm_rm 6 156) s m ([.ref (ad 0), .int key, .int val] : List Value).toArray below meth c H locs 0 0 (cr_Q below D [.ref (ad 0), .int key, .int val] s (cw ad cI X sd fn ft fm σ ta lp lr) (putE ad cI X sd fn σ ta lp lr z y9 key val)) (F0 m 22 ls []) := by
      intro k
      induction k with
      | zero =>
        intro st g h hj hA ls H locs hl hP hD hS
        refine lv_iload C.1 C.2.1 dX3_put_22 (lv_at hl 0 rfl) ?_
        refine lv_iconst (v := nI 4) C.1 C.2.1 dX3_put_24 (by decide +kernel) ?_
        refine lv_icmp_ge (tgt := 63) C.1 C.2.1 dX3_put_25 (by decide) (fun _ => ?_) (fun h => absurd (nI_le (by omega) (by omega)) h)
        refine lv_iload_n C.1 C.2.1 dX3_put_63 rfl (lv_at hl 1 rfl) ?_
        refine lv_iconst (v := nI 4) C.1 C.2.1 dX3_put_64 (by decide +kernel) ?_
        refine lv_icmp_ne (tgt := 75) C.1 C.2.1 dX3_put_65 (by decide) (fun _ => ?_) (fun h => absurd h (by decide))
        refine lv_iload_n C.1 C.2.1 dX3_put_75 rfl (lv_at hl 1 rfl) ?_
        refine lv_iconst (v := nI 2) C.1 C.2.1 dX3_put_76 (by decide +kernel) ?_
        refine lv_icmp_ne (tgt := 87) C.1 C.2.1 dX3_put_77 (by decide) (fun _ => ?_) (fun h => absurd h (by decide))
        refine lv_iload_n C.1 C.2.1 dX3_put_87 rfl (lv_at hl 1 rfl) ?_
        refine lv_bipush (v := (-2)) C.1 C.2.1 dX3_put_88 (by decide +kernel) ?_
        refine lv_icmp_eq (tgt := 97) C.1 C.2.1 dX3_put_90 (by decide) (fun _ => ?_) (fun h => absurd (rfl) h)
        refine lv_iload_n C.1 C.2.1 dX3_put_97 rfl (lv_at hl 1 rfl) ?_
        exact cr_iret C hP hD hS dX3_put_98 ⟨_, _, Or.inr (Or.inr (Or.inr ⟨hfull, hA.symm, rfl, rfl⟩))⟩
      | succ k ih =>
        intro st g h hj hA ls H locs hl hP hD hS
        refine lv_iload C.1 C.2.1 dX3_put_22 (lv_at hl 0 rfl) ?_
        refine lv_iconst (v := nI 4) C.1 C.2.1 dX3_put_24 (by decide +kernel) ?_
        refine lv_icmp_ge (tgt := 63) C.1 C.2.1 dX3_put_25 (by decide) (fun h => absurd h (nI_ge (by omega) (by decide))) (fun _ => ?_)
        refine lv_iload_n C.1 C.2.1 dX3_put_28 rfl (lv_at hl 1 rfl) ?_
        refine lv_bipush (v := (-2)) C.1 C.2.1 dX3_put_29 (by decide +kernel) ?_
        refine lv_icmp_ne (tgt := 63) C.1 C.2.1 dX3_put_31 (by decide) (fun h => absurd (rfl) h) (fun _ => ?_)
        refine lv_aload_n C.1 C.2.1 dX3_put_34 rfl (lv_at hl 2 rfl) ?_
        refine lv_aload_n C.1 C.2.1 dX3_put_35 rfl (lv_at hl 2 rfl) ?_
        refine va_get (ci := 3) (C := RX3) (T := TX3) (N := 10) C.1 C.2.1 C.2.2.2.2.2.1 ui_X3 C.2.2.2.2.1 C.2.2.2.2.2.2.2.1 hP 0 (rfl) rfl 1 (by decide) (C.2.2.2.2.2.1 _ tw_62) (fun _ h9 => h9) rfl dX3_put_36 ?_
        refine cm_cV1 (q0 := 2) 0 C (k_X0_seedTold l D cI cZ cJ (cw ad cI X sd fn g h σ ta lp lr) (qI := 2) (qA := 3) rfl rfl) tw_100 tw_101 tw_102 tw_2 tw_103 rfl rfl (rfl) rfl (by decide +kernel) ⟨Nat.le_of_ble_eq_true rfl, Nat.le_of_ble_eq_true rfl⟩ ⟨Nat.zero_le _, Nat.zero_le _⟩ hP hD hS hl.1 rfl rfl (Nat.le_of_ble_eq_true rfl) dX3_put_39 (fun H locs hP hD hS => ?_)
        rw [hy]
        refine lv_iload C.1 C.2.1 dX3_put_42 (lv_at hl 0 rfl) ?_
        refine lv_iadd C.1 C.2.1 dX3_put_44 ?_
        rw [nI_add]
        refine lv_iconst (v := nI 4) C.1 C.2.1 dX3_put_45 (by decide +kernel) ?_
        refine lv_irem C.1 C.2.1 dX3_put_46 (by decide) ?_
        rw [pk_rem (by omega) (by decide) (by decide)]
        refine lv_iload_n C.1 C.2.1 dX3_put_47 rfl (lv_at hl 3 rfl) ?_
        refine lv_iload_n C.1 C.2.1 dX3_put_48 rfl (lv_at hl 4 rfl) ?_
        refine cr_cV (q0 := 0) 3 C (k_X3_fillTrial l D cI cZ cJ ad X sd fn g h σ ta lp lr z ((y9 + st) % 4) hz0 (by omega) hz key val) tw_191 tw_193 ts_4 tw_1 tw_194 rfl rfl rfl rfl (by decide +kernel) ⟨Nat.le_of_ble_eq_true rfl, Nat.le_of_ble_eq_true rfl⟩ ⟨Nat.zero_le _, Nat.zero_le _⟩ hP hD hS hl.1 rfl rfl (Nat.le_of_ble_eq_true rfl) dX3_put_49 (fun r9 w1 H locs hE hP hD hS => ?_)
        obtain ⟨ft1, fm1, rfl, hR⟩ := hE
        cases hT : trA fn z (sd ((y9 + st) % 4)) ((y9 + st) % 4) key val with
        | none =>
          rw [hT] at hR
          obtain rfl : r9 = nI 0 := hR
          refine lv_if_eq (tgt := 57) C.1 C.2.1 dX3_put_52 (by decide) (fun _ => ?_) (fun h => absurd (by decide) h)
          refine lv_iinc (v := nI (st + 1)) (lv' := [(4, _), (3, _), (0, _), (1, _), (2, _)]) C.1 C.2.1 dX3_put_57 hl (k := 0) rfl (nI_1 st) (by decide) rfl (fun ls hl => ?_)
          refine lv_goto (tgt := 22) C.1 C.2.1 dX3_put_60 (by decide) ?_
          exact ih (st + 1) ft1 fm1 (by omega) (by rw [← hA]; simp only [anS, hT]) ls H locs hl hP hD hS
        | some f9 =>
          rw [hT] at hR
          obtain ⟨rfl, rfl⟩ : r9 = nI 1 ∧ ft1 = f9 := hR
          have h396 := (trA_396 hz0 hT).1
          have hA : anS fn z sd y9 key val 1 3 = some ft1 := by rw [← hA]; simp only [anS, hT]
          refine lv_if_eq (tgt := 57) C.1 C.2.1 dX3_put_52 (by decide) (fun h => absurd h (by decide)) (fun _ => ?_)
          refine lv_iconst (v := nI 4) C.1 C.2.1 dX3_put_55 (by decide +kernel) ?_
          refine lv_istore_n (lv' := [(3, _), (4, _), (0, _), (1, _), (2, _)]) C.1 C.2.1 dX3_put_56 rfl hl (by decide) rfl (fun ls hl => ?_)
          refine lv_iinc (v := nI (st + 1)) (lv' := [(4, _), (3, _), (0, _), (1, _), (2, _)]) C.1 C.2.1 dX3_put_57 hl (k := 1) rfl (nI_1 st) (by decide) rfl (fun ls hl => ?_)
          refine lv_goto (tgt := 22) C.1 C.2.1 dX3_put_60 (by decide) ?_
          refine lv_iload C.1 C.2.1 dX3_put_22 (lv_at hl 0 rfl) ?_
          refine lv_iconst (v := nI 4) C.1 C.2.1 dX3_put_24 (by decide +kernel) ?_
          refine lv_icmp_ge (tgt := 63) C.1 C.2.1 dX3_put_25 (by decide) (fun h25 => ?_) (fun h25 => ?_)
          · refine lv_iload_n C.1 C.2.1 dX3_put_63 rfl (lv_at hl 1 rfl) ?_
            refine lv_iconst (v := nI 4) C.1 C.2.1 dX3_put_64 (by decide +kernel) ?_
            refine lv_icmp_ne (tgt := 75) C.1 C.2.1 dX3_put_65 (by decide) (fun h => absurd (rfl) h) (fun _ => ?_)
            refine lv_aload_n C.1 C.2.1 dX3_put_68 rfl (lv_at hl 2 rfl) ?_
            refine cm_cV0 (q0 := 0) 0 C (k_X3_takeTrial l D cI cZ cJ ad X sd fn ft1 fm1 σ ta lp lr hσ (1 - z) (by omega) h396) tw_230 tw_232 ts_5 tw_1 tw_233 rfl rfl (rfl) rfl (by decide +kernel) ⟨Nat.le_of_ble_eq_true rfl, Nat.le_of_ble_eq_true rfl⟩ ⟨Nat.zero_le _, Nat.zero_le _⟩ hP hD hS hl.1 rfl rfl (Nat.le_of_ble_eq_true rfl) dX3_put_69 (fun H locs hP hD hS => ?_)
            refine lv_goto (tgt := 97) C.1 C.2.1 dX3_put_72 (by decide) ?_
            refine lv_iload_n C.1 C.2.1 dX3_put_97 rfl (lv_at hl 1 rfl) ?_
            exact cr_iret C hP hD hS dX3_put_98 ⟨_, _, Or.inr (Or.inr (Or.inl ⟨hfull, ft1, hA, rfl, rfl⟩))⟩
          · refine lv_iload_n C.1 C.2.1 dX3_put_28 rfl (lv_at hl 1 rfl) ?_
            refine lv_bipush (v := (-2)) C.1 C.2.1 dX3_put_29 (by decide +kernel) ?_
            refine lv_icmp_ne (tgt := 63) C.1 C.2.1 dX3_put_31 (by decide) (fun _ => ?_) (fun h => absurd h (by decide))
            refine lv_iload_n C.1 C.2.1 dX3_put_63 rfl (lv_at hl 1 rfl) ?_
            refine lv_iconst (v := nI 4) C.1 C.2.1 dX3_put_64 (by decide +kernel) ?_
            refine lv_icmp_ne (tgt := 75) C.1 C.2.1 dX3_put_65 (by decide) (fun h => absurd (rfl) h) (fun _ => ?_)
            refine lv_aload_n C.1 C.2.1 dX3_put_68 rfl (lv_at hl 2 rfl) ?_
            refine cm_cV0 (q0 := 0) 0 C (k_X3_takeTrial l D cI cZ cJ ad X sd fn ft1 fm1 σ ta lp lr hσ (1 - z) (by omega) h396) tw_230 tw_232 ts_5 tw_1 tw_233 rfl rfl (rfl) rfl (by decide +kernel) ⟨Nat.le_of_ble_eq_true rfl, Nat.le_of_ble_eq_true rfl⟩ ⟨Nat.zero_le _, Nat.zero_le _⟩ hP hD hS hl.1 rfl rfl (Nat.le_of_ble_eq_true rfl) dX3_put_69 (fun H locs hP hD hS => ?_)
            refine lv_goto (tgt := 97) C.1 C.2.1 dX3_put_72 (by decide) ?_
            refine lv_iload_n C.1 C.2.1 dX3_put_97 rfl (lv_at hl 1 rfl) ?_
            exact cr_iret C hP hD hS dX3_put_98 ⟨_, _, Or.inr (Or.inr (Or.inl ⟨hfull, ft1, hA, rfl, rfl⟩))⟩
    exact loop 3 1 ft (encA z fm0 0 (chS (uR fn z) (kR fn z) (vR fn z) (sd y9) key val).2) rfl rfl ls H locs hl hP hD hS
  · have h4 : ¬ (chS (uR fn z) (kR fn z) (vR fn z) (sd y9) key val).1 = nI 4 := by
      rcases o3 with q | q | q | q | q <;> rw [q] <;> decide
    by_cases h2 : (chS (uR fn z) (kR fn z) (vR fn z) (sd y9) key val).1 = nI 2
    · refine lv_aload_n C.1 C.2.1 dX3_put_0 rfl (lv_at hl 0 rfl) ?_
      refine lv_aload_n C.1 C.2.1 dX3_put_1 rfl (lv_at hl 0 rfl) ?_
      refine va_get (ci := 3) (C := RX3) (T := TX3) (N := 10) C.1 C.2.1 C.2.2.2.2.2.1 ui_X3 C.2.2.2.2.1 C.2.2.2.2.2.2.2.1 hP 0 (rfl) rfl 1 (by decide) (C.2.2.2.2.2.1 _ tw_62) (fun _ h9 => h9) rfl dX3_put_2 ?_
      refine lv_aload_n C.1 C.2.1 dX3_put_5 rfl (lv_at hl 0 rfl) ?_
      refine lv_aload_n C.1 C.2.1 dX3_put_6 rfl (lv_at hl 0 rfl) ?_
      refine va_get (ci := 3) (C := RX3) (T := TX3) (N := 10) C.1 C.2.1 C.2.2.2.2.2.1 ui_X3 C.2.2.2.2.1 C.2.2.2.2.2.2.2.1 hP 0 (rfl) rfl 1 (by decide) (C.2.2.2.2.2.1 _ tw_62) (fun _ h9 => h9) rfl dX3_put_7 ?_
      refine cm_cV1 (q0 := 0) 1 C (k_X3_seedInUse l D cI cZ cJ (cw ad cI X sd fn ft fm σ ta lp lr) (qO := 0) rfl (qS := 1) rfl (qI := 2) (qA := 3) rfl rfl y9 hy0 hy) tw_96 tw_98 ts_0 tw_1 tw_99 rfl rfl (rfl) rfl (by decide +kernel) ⟨Nat.le_of_ble_eq_true rfl, Nat.le_of_ble_eq_true rfl⟩ ⟨Nat.zero_le _, Nat.zero_le _⟩ hP hD hS hl.1 rfl rfl (Nat.le_of_ble_eq_true rfl) dX3_put_10 (fun H locs hP hD hS => ?_)
      refine lv_iload_n C.1 C.2.1 dX3_put_13 rfl (lv_at hl 1 rfl) ?_
      refine lv_iload_n C.1 C.2.1 dX3_put_14 rfl (lv_at hl 2 rfl) ?_
      refine cm_cV1 (q0 := 0) 4 C (hch) tw_107 tw_109 ts_1 tw_1 tw_110 rfl rfl (rfl) rfl (by decide +kernel) ⟨Nat.le_of_ble_eq_true rfl, Nat.le_of_ble_eq_true rfl⟩ ⟨Nat.zero_le _, Nat.zero_le _⟩ hP hD hS hl.1 rfl rfl (Nat.le_of_ble_eq_true rfl) dX3_put_15 (fun H locs hP hD hS => ?_)
      have hP : va_P D vwCl (cw ad cI X sd fn ft (encA z fm0 0 (chS (uR fn z) (kR fn z) (vR fn z) (sd y9) key val).2) σ ta lp lr) H := hP
      have hD : va_D (cm_A (cw ad cI X sd fn ft fm σ ta lp lr)) (cw ad cI X sd fn ft (encA z fm0 0 (chS (uR fn z) (kR fn z) (vR fn z) (sd y9) key val).2) σ ta lp lr) := hD
      refine lv_istore_n (lv' := [(3, _), (0, _), (1, _), (2, _)]) C.1 C.2.1 dX3_put_18 rfl hl (by decide) rfl (fun ls hl => ?_)
      refine lv_iconst (v := nI 1) C.1 C.2.1 dX3_put_19 (by decide +kernel) ?_
      refine lv_istore (lv' := [(4, _), (3, _), (0, _), (1, _), (2, _)]) C.1 C.2.1 dX3_put_20 hl (by decide) rfl (fun ls hl => ?_)
      refine lv_iload C.1 C.2.1 dX3_put_22 (lv_at hl 0 rfl) ?_
      refine lv_iconst (v := nI 4) C.1 C.2.1 dX3_put_24 (by decide +kernel) ?_
      refine lv_icmp_ge (tgt := 63) C.1 C.2.1 dX3_put_25 (by decide) (fun h => absurd h (by decide)) (fun _ => ?_)
      refine lv_iload_n C.1 C.2.1 dX3_put_28 rfl (lv_at hl 1 rfl) ?_
      refine lv_bipush (v := (-2)) C.1 C.2.1 dX3_put_29 (by decide +kernel) ?_
      refine lv_icmp_ne (tgt := 63) C.1 C.2.1 dX3_put_31 (by decide) (fun _ => ?_) (fun h => absurd h (hfull))
      refine lv_iload_n C.1 C.2.1 dX3_put_63 rfl (lv_at hl 1 rfl) ?_
      refine lv_iconst (v := nI 4) C.1 C.2.1 dX3_put_64 (by decide +kernel) ?_
      refine lv_icmp_ne (tgt := 75) C.1 C.2.1 dX3_put_65 (by decide) (fun _ => ?_) (fun h => absurd h (h4))
      refine lv_iload_n C.1 C.2.1 dX3_put_75 rfl (lv_at hl 1 rfl) ?_
      refine lv_iconst (v := nI 2) C.1 C.2.1 dX3_put_76 (by decide +kernel) ?_
      refine lv_icmp_ne (tgt := 87) C.1 C.2.1 dX3_put_77 (by decide) (fun h => absurd (h2) h) (fun _ => ?_)
      refine lv_aload_n C.1 C.2.1 dX3_put_80 rfl (lv_at hl 2 rfl) ?_
      refine cm_cV0 (q0 := 0) 0 C (k_X3_followPath l D cI cZ cJ ad X sd fn ft (encA z fm0 0 (chS (uR fn z) (kR fn z) (vR fn z) (sd y9) key val).2) σ ta lp lr hσ (absM z (chS (uR fn z) (kR fn z) (vR fn z) (sd y9) key val).2) hen (absM_lt hz0 o2)) tw_261 tw_263 ts_7 tw_1 tw_264 rfl rfl (rfl) rfl (by decide +kernel) ⟨Nat.le_of_ble_eq_true rfl, Nat.le_of_ble_eq_true rfl⟩ ⟨Nat.zero_le _, Nat.zero_le _⟩ hP hD hS hl.1 rfl rfl (Nat.le_of_ble_eq_true rfl) dX3_put_81 (fun H locs hP hD hS => ?_)
      refine lv_goto (tgt := 97) C.1 C.2.1 dX3_put_84 (by decide) ?_
      refine lv_iload_n C.1 C.2.1 dX3_put_97 rfl (lv_at hl 1 rfl) ?_
      exact cr_iret C hP hD hS dX3_put_98 ⟨_, _, Or.inl ⟨hfull, rfl, h2, hen, rfl⟩⟩
    · refine lv_aload_n C.1 C.2.1 dX3_put_0 rfl (lv_at hl 0 rfl) ?_
      refine lv_aload_n C.1 C.2.1 dX3_put_1 rfl (lv_at hl 0 rfl) ?_
      refine va_get (ci := 3) (C := RX3) (T := TX3) (N := 10) C.1 C.2.1 C.2.2.2.2.2.1 ui_X3 C.2.2.2.2.1 C.2.2.2.2.2.2.2.1 hP 0 (rfl) rfl 1 (by decide) (C.2.2.2.2.2.1 _ tw_62) (fun _ h9 => h9) rfl dX3_put_2 ?_
      refine lv_aload_n C.1 C.2.1 dX3_put_5 rfl (lv_at hl 0 rfl) ?_
      refine lv_aload_n C.1 C.2.1 dX3_put_6 rfl (lv_at hl 0 rfl) ?_
      refine va_get (ci := 3) (C := RX3) (T := TX3) (N := 10) C.1 C.2.1 C.2.2.2.2.2.1 ui_X3 C.2.2.2.2.1 C.2.2.2.2.2.2.2.1 hP 0 (rfl) rfl 1 (by decide) (C.2.2.2.2.2.1 _ tw_62) (fun _ h9 => h9) rfl dX3_put_7 ?_
      refine cm_cV1 (q0 := 0) 1 C (k_X3_seedInUse l D cI cZ cJ (cw ad cI X sd fn ft fm σ ta lp lr) (qO := 0) rfl (qS := 1) rfl (qI := 2) (qA := 3) rfl rfl y9 hy0 hy) tw_96 tw_98 ts_0 tw_1 tw_99 rfl rfl (rfl) rfl (by decide +kernel) ⟨Nat.le_of_ble_eq_true rfl, Nat.le_of_ble_eq_true rfl⟩ ⟨Nat.zero_le _, Nat.zero_le _⟩ hP hD hS hl.1 rfl rfl (Nat.le_of_ble_eq_true rfl) dX3_put_10 (fun H locs hP hD hS => ?_)
      refine lv_iload_n C.1 C.2.1 dX3_put_13 rfl (lv_at hl 1 rfl) ?_
      refine lv_iload_n C.1 C.2.1 dX3_put_14 rfl (lv_at hl 2 rfl) ?_
      refine cm_cV1 (q0 := 0) 4 C (hch) tw_107 tw_109 ts_1 tw_1 tw_110 rfl rfl (rfl) rfl (by decide +kernel) ⟨Nat.le_of_ble_eq_true rfl, Nat.le_of_ble_eq_true rfl⟩ ⟨Nat.zero_le _, Nat.zero_le _⟩ hP hD hS hl.1 rfl rfl (Nat.le_of_ble_eq_true rfl) dX3_put_15 (fun H locs hP hD hS => ?_)
      have hP : va_P D vwCl (cw ad cI X sd fn ft (encA z fm0 0 (chS (uR fn z) (kR fn z) (vR fn z) (sd y9) key val).2) σ ta lp lr) H := hP
      have hD : va_D (cm_A (cw ad cI X sd fn ft fm σ ta lp lr)) (cw ad cI X sd fn ft (encA z fm0 0 (chS (uR fn z) (kR fn z) (vR fn z) (sd y9) key val).2) σ ta lp lr) := hD
      refine lv_istore_n (lv' := [(3, _), (0, _), (1, _), (2, _)]) C.1 C.2.1 dX3_put_18 rfl hl (by decide) rfl (fun ls hl => ?_)
      refine lv_iconst (v := nI 1) C.1 C.2.1 dX3_put_19 (by decide +kernel) ?_
      refine lv_istore (lv' := [(4, _), (3, _), (0, _), (1, _), (2, _)]) C.1 C.2.1 dX3_put_20 hl (by decide) rfl (fun ls hl => ?_)
      refine lv_iload C.1 C.2.1 dX3_put_22 (lv_at hl 0 rfl) ?_
      refine lv_iconst (v := nI 4) C.1 C.2.1 dX3_put_24 (by decide +kernel) ?_
      refine lv_icmp_ge (tgt := 63) C.1 C.2.1 dX3_put_25 (by decide) (fun h => absurd h (by decide)) (fun _ => ?_)
      refine lv_iload_n C.1 C.2.1 dX3_put_28 rfl (lv_at hl 1 rfl) ?_
      refine lv_bipush (v := (-2)) C.1 C.2.1 dX3_put_29 (by decide +kernel) ?_
      refine lv_icmp_ne (tgt := 63) C.1 C.2.1 dX3_put_31 (by decide) (fun _ => ?_) (fun h => absurd h (hfull))
      refine lv_iload_n C.1 C.2.1 dX3_put_63 rfl (lv_at hl 1 rfl) ?_
      refine lv_iconst (v := nI 4) C.1 C.2.1 dX3_put_64 (by decide +kernel) ?_
      refine lv_icmp_ne (tgt := 75) C.1 C.2.1 dX3_put_65 (by decide) (fun _ => ?_) (fun h => absurd h (h4))
      refine lv_iload_n C.1 C.2.1 dX3_put_75 rfl (lv_at hl 1 rfl) ?_
      refine lv_iconst (v := nI 2) C.1 C.2.1 dX3_put_76 (by decide +kernel) ?_
      refine lv_icmp_ne (tgt := 87) C.1 C.2.1 dX3_put_77 (by decide) (fun _ => ?_) (fun h => absurd h (h2))
      refine lv_iload_n C.1 C.2.1 dX3_put_87 rfl (lv_at hl 1 rfl) ?_
      refine lv_bipush (v := (-2)) C.1 C.2.1 dX3_put_88 (by decide +kernel) ?_
      refine lv_icmp_eq (tgt := 97) C.1 C.2.1 dX3_put_90 (by decide) (fun h => absurd h (hfull)) (fun _ => ?_)
      refine lv_aload_n C.1 C.2.1 dX3_put_93 rfl (lv_at hl 2 rfl) ?_
      refine cm_cV0 (q0 := 0) 0 C (k_X3_makeMoves l D cI cZ cJ ad X sd fn ft (encA z fm0 0 (chS (uR fn z) (kR fn z) (vR fn z) (sd y9) key val).2) σ ta lp lr hσ (absM z (chS (uR fn z) (kR fn z) (vR fn z) (sd y9) key val).2) hen) tw_269 tw_271 ts_8 tw_1 tw_272 rfl rfl (rfl) rfl (by decide +kernel) ⟨Nat.le_of_ble_eq_true rfl, Nat.le_of_ble_eq_true rfl⟩ ⟨Nat.zero_le _, Nat.zero_le _⟩ hP hD hS hl.1 rfl rfl (Nat.le_of_ble_eq_true rfl) dX3_put_94 (fun H locs hP hD hS => ?_)
      refine lv_iload_n C.1 C.2.1 dX3_put_97 rfl (lv_at hl 1 rfl) ?_
      exact cr_iret C hP hD hS dX3_put_98 ⟨_, _, Or.inr (Or.inl ⟨hfull, rfl, h2, rfl⟩)⟩
