/-! ===== putInto ===== -/
def ch0 (u : Nat → Bool) (k v : Nat → Int32) (s key val : Int32) : Int32 × List (Nat × Int32 × Int32) := match emS u (hm1 s key) with
  | some p => (nI 1, [(p, key, val)])
  | none => match emS u (hm2 s key) with
    | some p => (nI 1, [(p, key, val)])
    | none => if (pathS u k s 6 0 (hm1 s key) []).1 = true then (nI 2, mvS k v key val (pathS u k s 6 0 (hm1 s key) []).2)
      else if (pathS u k s 6 0 (hm2 s key) []).1 = true then (nI 2, mvS k v key val (pathS u k s 6 0 (hm2 s key) []).2)
      else match emS u 8 with
        | some p => (nI 3, [(p, key, val)])
        | none => (-2, mvS k v key val (pathS u k s 6 0 (hm2 s key) []).2)
theorem chS_none {u : Nat → Bool} {k v : Nat → Int32} {s key val : Int32} (h : findS u k s key = none) : chS u k v s key val = ch0 u k v s key val := by
  unfold chS ch0
  simp only [h]
  all_goals (cases emS u (hm1 s key) <;> cases emS u (hm2 s key) <;> cases emS u 8 <;> rfl)
theorem flR_o (i : Nat) (h1 : i ≠ 1) (h2 : i ≠ 2) (h3 : i ≠ 3) : ∀ (M : List (Nat × Int32 × Int32)) (A : Nat → Nat → Int32), flR M A i = A i := by
  intro M
  induction M with
  | nil => intro A; rfl
  | cons m M ih => intro A; exact (va_up_ne _ _ h3).trans ((va_up_ne _ _ h2).trans ((va_up_ne _ _ h1).trans (ih A)))
theorem flR_c : ∀ (M : List (Nat × Int32 × Int32)) (A B : Nat → Nat → Int32), A 1 = B 1 → A 2 = B 2 → A 3 = B 3 → flR M A 1 = flR M B 1 ∧ flR M A 2 = flR M B 2 ∧ flR M A 3 = flR M B 3 := by
  intro M
  induction M with
  | nil => intro A B h1 h2 h3; exact ⟨h1, h2, h3⟩
  | cons m M ih =>
    intro A B h1 h2 h3
    obtain ⟨g1, g2, g3⟩ := ih A B h1 h2 h3
    refine ⟨?_, ?_, ?_⟩
    · show upd (flR M A 1) m.1 (nI 1) = upd (flR M B 1) m.1 (nI 1)
      rw [g1]
    · show upd (flR M A 2) m.1 m.2.1 = upd (flR M B 2) m.1 m.2.1
      rw [g2]
    · show upd (flR M A 3) m.1 m.2.2 = upd (flR M B 3) m.1 m.2.2
      rw [g3]
def piE0 (ad : Nat → Nat) (cI cZ : ClassId) (X : va_W) (I : Nat → Int32) (A : Nat → Nat → Int32) (w : Nat) (s0 key val : Int32) (r : Int32) (w1 : va_W) : Prop := ∃ (J : Nat → Int32) (B : Nat → Nat → Int32), w1 = mw ad cI cZ X J B ∧ r = (ch0 (uM A w) (kM A w) (vM A w) s0 key val).1 ∧ (∀ i, i ≠ 7 → i ≠ 29 → J i = I i) ∧ (∀ i, i ≠ 1 → i ≠ 2 → i ≠ 3 → i ≠ 8 → i ≠ 9 → i ≠ 10 → i ≠ 30 → B i = A i) ∧
  ((ch0 (uM A w) (kM A w) (vM A w) s0 key val).1 = -2 → B 1 = A 1 ∧ B 2 = A 2 ∧ B 3 = A 3) ∧ (¬ (ch0 (uM A w) (kM A w) (vM A w) s0 key val).1 = -2 → B 1 = flR (absM w (ch0 (uM A w) (kM A w) (vM A w) s0 key val).2) A 1 ∧ B 2 = flR (absM w (ch0 (uM A w) (kM A w) (vM A w) s0 key val).2) A 2 ∧ B 3 = flR (absM w (ch0 (uM A w) (kM A w) (vM A w) s0 key val).2) A 3)
def piE1 (ad : Nat → Nat) (cI cZ : ClassId) (X : va_W) (I : Nat → Int32) (A : Nat → Nat → Int32) (w t : Nat) (s0 key val : Int32) (r : Int32) (w1 : va_W) : Prop := ∃ (J : Nat → Int32) (B : Nat → Nat → Int32), (∀ i, i ≠ 29 → J i = I i) ∧ (∀ i, i ≠ 30 → B i = A i) ∧ r = (ch0 (uM A w) (kM A w) (vM A w) s0 key val).1 ∧
  (((ch0 (uM A w) (kM A w) (vM A w) s0 key val).1 = -2 ∧ w1 = mw ad cI cZ X J B) ∨ (∃ p, (ch0 (uM A w) (kM A w) (vM A w) s0 key val).2 = [(p, key, val)] ∧ p < 36 ∧ ((ch0 (uM A w) (kM A w) (vM A w) s0 key val).1 = nI 1 ∨ (ch0 (uM A w) (kM A w) (vM A w) s0 key val).1 = nI 3) ∧ w1 = mw ad cI cZ X (wPg ((36 * w + p) / 4) t (J, flA (36 * w + p) key val B)).1 (wPg ((36 * w + p) / 4) t (J, flA (36 * w + p) key val B)).2) ∨
   ((ch0 (uM A w) (kM A w) (vM A w) s0 key val).1 = nI 2 ∧ tEnc (goT key val (ch0 (uM A w) (kM A w) (vM A w) s0 key val).2.length B 8) (goT key val (ch0 (uM A w) (kM A w) (vM A w) s0 key val).2.length B 9) (goT key val (ch0 (uM A w) (kM A w) (vM A w) s0 key val).2.length B 10) (absM w (ch0 (uM A w) (kM A w) (vM A w) s0 key val).2) ∧ w1 = mw ad cI cZ X (goW key val (ch0 (uM A w) (kM A w) (vM A w) s0 key val).2.length (absM w (ch0 (uM A w) (kM A w) (vM A w) s0 key val).2) t (J, B)).1 (goW key val (ch0 (uM A w) (kM A w) (vM A w) s0 key val).2.length (absM w (ch0 (uM A w) (kM A w) (vM A w) s0 key val).2) t (J, B)).2))
set_option maxHeartbeats 4000000 in
set_option maxRecDepth 100000 in
/-- putInto -/
theorem k_X4_putInto0 (l : Launch) (D : va_G) (cI cZ cJ : ClassId) (ad : Nat → Nat) (X : va_W) (I : Nat → Int32) (A : Nat → Nat → Int32) (w : Nat) (hw0 : w < 3)  (s0 key val : Int32) : CRi l D (cm_T cI cZ cJ) yX4_putInto cX4_putInto 9 (some .int) (cm_rm 6 139) [.ref (ad 0), .int (nI w), .int s0, .int key, .int val, .int (nI 0)] (mw ad cI cZ X I A) (piE0 ad cI cZ X I A w s0 key val) := by
  refine CRi.of (by decide) (Nat.le_of_ble_eq_true rfl) ?_
  intro p e s m below meth c ls H locs C hl hP hD hS
  have q1 := hm1_lt s0 key
  have q2 := hm2_lt s0 key
  cases e2 : emS (uM A w) (hm1 s0 key) with
  | some p9 =>
    have q3 := (emS_lt e2 (by omega)).1
    refine lv_iload_n C.1 C.2.1 dX4_putInto_0 rfl (lv_at hl 3 rfl) ?_
    refine lv_iload_n C.1 C.2.1 dX4_putInto_1 rfl (lv_at hl 2 rfl) ?_
    refine lv_iconst (v := nI 0) C.1 C.2.1 dX4_putInto_2 (by decide +kernel) ?_
    refine cm_cS1 3 C (k_X4_homeBy1 l D cI cZ cJ (mw ad cI cZ X I A) key s0) tw_572 tw_573 tw_5 tw_574 rfl rfl (by decide +kernel) ⟨Nat.le_of_ble_eq_true rfl, Nat.le_of_ble_eq_true rfl⟩ ⟨Nat.zero_le _, Nat.zero_le _⟩ hP hD hS hl.1 rfl rfl (Nat.le_of_ble_eq_true rfl) dX4_putInto_3 (fun H locs hP hD hS => ?_)
    refine lv_istore (lv' := [(6, _), (0, _), (1, _), (2, _), (3, _), (4, _), (5, _)]) C.1 C.2.1 dX4_putInto_6 hl (by decide) rfl (fun ls hl => ?_)
    refine lv_iload_n C.1 C.2.1 dX4_putInto_8 rfl (lv_at hl 4 rfl) ?_
    refine lv_iload_n C.1 C.2.1 dX4_putInto_9 rfl (lv_at hl 3 rfl) ?_
    refine lv_iconst (v := nI 1) C.1 C.2.1 dX4_putInto_10 (by decide +kernel) ?_
    refine cm_cS1 3 C (k_X4_homeBy2 l D cI cZ cJ (mw ad cI cZ X I A) key s0) tw_572 tw_573 tw_5 tw_574 rfl rfl (by decide +kernel) ⟨Nat.le_of_ble_eq_true rfl, Nat.le_of_ble_eq_true rfl⟩ ⟨Nat.zero_le _, Nat.zero_le _⟩ hP hD hS hl.1 rfl rfl (Nat.le_of_ble_eq_true rfl) dX4_putInto_11 (fun H locs hP hD hS => ?_)
    refine lv_istore (lv' := [(7, _), (6, _), (0, _), (1, _), (2, _), (3, _), (4, _), (5, _)]) C.1 C.2.1 dX4_putInto_14 hl (by decide) rfl (fun ls hl => ?_)
    refine lv_aload_n C.1 C.2.1 dX4_putInto_16 rfl (lv_at hl 2 rfl) ?_
    refine lv_iload_n C.1 C.2.1 dX4_putInto_17 rfl (lv_at hl 3 rfl) ?_
    refine lv_iload C.1 C.2.1 dX4_putInto_18 (lv_at hl 1 rfl) ?_
    refine cm_cV1 (q0 := 0) 2 C (k_X4_empty l D cI cZ cJ ad X I A w (hm1 s0 key) (by omega) (by omega)) tw_612 tw_614 ts_20 tw_5 tw_615 rfl rfl (rfl) rfl (by decide +kernel) ⟨Nat.le_of_ble_eq_true rfl, Nat.le_of_ble_eq_true rfl⟩ ⟨Nat.zero_le _, Nat.zero_le _⟩ hP hD hS hl.1 rfl rfl (Nat.le_of_ble_eq_true rfl) dX4_putInto_20 (fun H locs hP hD hS => ?_)
    rw [e2, optA_some]
    refine lv_istore (lv' := [(8, _), (7, _), (6, _), (0, _), (1, _), (2, _), (3, _), (4, _), (5, _)]) C.1 C.2.1 dX4_putInto_23 hl (by decide) rfl (fun ls hl => ?_)
    refine lv_iload C.1 C.2.1 dX4_putInto_25 (lv_at hl 0 rfl) ?_
    refine lv_if_ge (tgt := 40) C.1 C.2.1 dX4_putInto_27 (by decide) (fun _ => ?_) (fun h => absurd (nI_pos' (by omega)) h)
    refine lv_iload C.1 C.2.1 dX4_putInto_40 (lv_at hl 0 rfl) ?_
    refine lv_istore (lv' := [(8, _), (7, _), (6, _), (0, _), (1, _), (2, _), (3, _), (4, _), (5, _)]) C.1 C.2.1 dX4_putInto_42 hl (by decide) rfl (fun ls hl => ?_)
    refine lv_iload C.1 C.2.1 dX4_putInto_44 (lv_at hl 0 rfl) ?_
    refine lv_if_lt (tgt := 62) C.1 C.2.1 dX4_putInto_46 (by decide) (fun h => absurd h (nI_pos (by omega))) (fun _ => ?_)
    refine lv_aload_n C.1 C.2.1 dX4_putInto_49 rfl (lv_at hl 3 rfl) ?_
    refine lv_iload C.1 C.2.1 dX4_putInto_50 (lv_at hl 0 rfl) ?_
    refine lv_iload_n C.1 C.2.1 dX4_putInto_52 rfl (lv_at hl 6 rfl) ?_
    refine lv_iload C.1 C.2.1 dX4_putInto_53 (lv_at hl 7 rfl) ?_
    refine lv_iload C.1 C.2.1 dX4_putInto_55 (lv_at hl 8 rfl) ?_
    refine cm_cV0 (q0 := 0) 4 C (k_X4_fill0 l D cI cZ cJ ad X I A (36 * w + p9) (by omega) key val) tw_588 tw_590 ts_14 tw_5 tw_591 rfl rfl (rfl) rfl (by decide +kernel) ⟨Nat.le_of_ble_eq_true rfl, Nat.le_of_ble_eq_true rfl⟩ ⟨Nat.zero_le _, Nat.zero_le _⟩ hP hD hS hl.1 rfl rfl (Nat.le_of_ble_eq_true rfl) dX4_putInto_57 (fun H locs hP hD hS => ?_)
    refine lv_iconst (v := nI 1) C.1 C.2.1 dX4_putInto_60 (by decide +kernel) ?_
    exact cr_iret C hP hD hS dX4_putInto_61 ⟨_, _, rfl, by simp [ch0, e2], fun i _ h29 => rfl, fun i h1 h2 h3 _ _ _ h30 => (va_up_ne _ _ h3).trans ((va_up_ne _ _ h2).trans (va_up_ne _ _ h1)), fun h => absurd h (by simp [ch0, e2]; decide), fun _ => by simp only [ch0, e2]; exact ⟨rfl, rfl, rfl⟩⟩
  | none =>
    cases e3 : emS (uM A w) (hm2 s0 key) with
    | some p9 =>
      have q3 := (emS_lt e3 (by omega)).1
      refine lv_iload_n C.1 C.2.1 dX4_putInto_0 rfl (lv_at hl 3 rfl) ?_
      refine lv_iload_n C.1 C.2.1 dX4_putInto_1 rfl (lv_at hl 2 rfl) ?_
      refine lv_iconst (v := nI 0) C.1 C.2.1 dX4_putInto_2 (by decide +kernel) ?_
      refine cm_cS1 3 C (k_X4_homeBy1 l D cI cZ cJ (mw ad cI cZ X I A) key s0) tw_572 tw_573 tw_5 tw_574 rfl rfl (by decide +kernel) ⟨Nat.le_of_ble_eq_true rfl, Nat.le_of_ble_eq_true rfl⟩ ⟨Nat.zero_le _, Nat.zero_le _⟩ hP hD hS hl.1 rfl rfl (Nat.le_of_ble_eq_true rfl) dX4_putInto_3 (fun H locs hP hD hS => ?_)
      refine lv_istore (lv' := [(6, _), (0, _), (1, _), (2, _), (3, _), (4, _), (5, _)]) C.1 C.2.1 dX4_putInto_6 hl (by decide) rfl (fun ls hl => ?_)
      refine lv_iload_n C.1 C.2.1 dX4_putInto_8 rfl (lv_at hl 4 rfl) ?_
      refine lv_iload_n C.1 C.2.1 dX4_putInto_9 rfl (lv_at hl 3 rfl) ?_
      refine lv_iconst (v := nI 1) C.1 C.2.1 dX4_putInto_10 (by decide +kernel) ?_
      refine cm_cS1 3 C (k_X4_homeBy2 l D cI cZ cJ (mw ad cI cZ X I A) key s0) tw_572 tw_573 tw_5 tw_574 rfl rfl (by decide +kernel) ⟨Nat.le_of_ble_eq_true rfl, Nat.le_of_ble_eq_true rfl⟩ ⟨Nat.zero_le _, Nat.zero_le _⟩ hP hD hS hl.1 rfl rfl (Nat.le_of_ble_eq_true rfl) dX4_putInto_11 (fun H locs hP hD hS => ?_)
      refine lv_istore (lv' := [(7, _), (6, _), (0, _), (1, _), (2, _), (3, _), (4, _), (5, _)]) C.1 C.2.1 dX4_putInto_14 hl (by decide) rfl (fun ls hl => ?_)
      refine lv_aload_n C.1 C.2.1 dX4_putInto_16 rfl (lv_at hl 2 rfl) ?_
      refine lv_iload_n C.1 C.2.1 dX4_putInto_17 rfl (lv_at hl 3 rfl) ?_
      refine lv_iload C.1 C.2.1 dX4_putInto_18 (lv_at hl 1 rfl) ?_
      refine cm_cV1 (q0 := 0) 2 C (k_X4_empty l D cI cZ cJ ad X I A w (hm1 s0 key) (by omega) (by omega)) tw_612 tw_614 ts_20 tw_5 tw_615 rfl rfl (rfl) rfl (by decide +kernel) ⟨Nat.le_of_ble_eq_true rfl, Nat.le_of_ble_eq_true rfl⟩ ⟨Nat.zero_le _, Nat.zero_le _⟩ hP hD hS hl.1 rfl rfl (Nat.le_of_ble_eq_true rfl) dX4_putInto_20 (fun H locs hP hD hS => ?_)
      rw [e2, optA_none]
      refine lv_istore (lv' := [(8, _), (7, _), (6, _), (0, _), (1, _), (2, _), (3, _), (4, _), (5, _)]) C.1 C.2.1 dX4_putInto_23 hl (by decide) rfl (fun ls hl => ?_)
      refine lv_iload C.1 C.2.1 dX4_putInto_25 (lv_at hl 0 rfl) ?_
      refine lv_if_ge (tgt := 40) C.1 C.2.1 dX4_putInto_27 (by decide) (fun h => absurd h (by decide)) (fun _ => ?_)
      refine lv_aload_n C.1 C.2.1 dX4_putInto_30 rfl (lv_at hl 3 rfl) ?_
      refine lv_iload_n C.1 C.2.1 dX4_putInto_31 rfl (lv_at hl 4 rfl) ?_
      refine lv_iload C.1 C.2.1 dX4_putInto_32 (lv_at hl 1 rfl) ?_
      refine cm_cV1 (q0 := 0) 2 C (k_X4_empty l D cI cZ cJ ad X I A w (hm2 s0 key) (by omega) (by omega)) tw_612 tw_614 ts_20 tw_5 tw_615 rfl rfl (rfl) rfl (by decide +kernel) ⟨Nat.le_of_ble_eq_true rfl, Nat.le_of_ble_eq_true rfl⟩ ⟨Nat.zero_le _, Nat.zero_le _⟩ hP hD hS hl.1 rfl rfl (Nat.le_of_ble_eq_true rfl) dX4_putInto_34 (fun H locs hP hD hS => ?_)
      rw [e3, optA_some]
      refine lv_goto (tgt := 42) C.1 C.2.1 dX4_putInto_37 (by decide) ?_
      refine lv_istore (lv' := [(8, _), (7, _), (6, _), (0, _), (1, _), (2, _), (3, _), (4, _), (5, _)]) C.1 C.2.1 dX4_putInto_42 hl (by decide) rfl (fun ls hl => ?_)
      refine lv_iload C.1 C.2.1 dX4_putInto_44 (lv_at hl 0 rfl) ?_
      refine lv_if_lt (tgt := 62) C.1 C.2.1 dX4_putInto_46 (by decide) (fun h => absurd h (nI_pos (by omega))) (fun _ => ?_)
      refine lv_aload_n C.1 C.2.1 dX4_putInto_49 rfl (lv_at hl 3 rfl) ?_
      refine lv_iload C.1 C.2.1 dX4_putInto_50 (lv_at hl 0 rfl) ?_
      refine lv_iload_n C.1 C.2.1 dX4_putInto_52 rfl (lv_at hl 6 rfl) ?_
      refine lv_iload C.1 C.2.1 dX4_putInto_53 (lv_at hl 7 rfl) ?_
      refine lv_iload C.1 C.2.1 dX4_putInto_55 (lv_at hl 8 rfl) ?_
      refine cm_cV0 (q0 := 0) 4 C (k_X4_fill0 l D cI cZ cJ ad X I A (36 * w + p9) (by omega) key val) tw_588 tw_590 ts_14 tw_5 tw_591 rfl rfl (rfl) rfl (by decide +kernel) ⟨Nat.le_of_ble_eq_true rfl, Nat.le_of_ble_eq_true rfl⟩ ⟨Nat.zero_le _, Nat.zero_le _⟩ hP hD hS hl.1 rfl rfl (Nat.le_of_ble_eq_true rfl) dX4_putInto_57 (fun H locs hP hD hS => ?_)
      refine lv_iconst (v := nI 1) C.1 C.2.1 dX4_putInto_60 (by decide +kernel) ?_
      exact cr_iret C hP hD hS dX4_putInto_61 ⟨_, _, rfl, by simp [ch0, e2, e3], fun i _ h29 => rfl, fun i h1 h2 h3 _ _ _ h30 => (va_up_ne _ _ h3).trans ((va_up_ne _ _ h2).trans (va_up_ne _ _ h1)), fun h => absurd h (by simp [ch0, e2, e3]; decide), fun _ => by simp only [ch0, e2, e3]; exact ⟨rfl, rfl, rfl⟩⟩
    | none =>
      by_cases e4 : (pathS (uM A w) (kM A w) s0 6 0 (hm1 s0 key) []).1 = true
      · refine lv_iload_n C.1 C.2.1 dX4_putInto_0 rfl (lv_at hl 3 rfl) ?_
        refine lv_iload_n C.1 C.2.1 dX4_putInto_1 rfl (lv_at hl 2 rfl) ?_
        refine lv_iconst (v := nI 0) C.1 C.2.1 dX4_putInto_2 (by decide +kernel) ?_
        refine cm_cS1 3 C (k_X4_homeBy1 l D cI cZ cJ (mw ad cI cZ X I A) key s0) tw_572 tw_573 tw_5 tw_574 rfl rfl (by decide +kernel) ⟨Nat.le_of_ble_eq_true rfl, Nat.le_of_ble_eq_true rfl⟩ ⟨Nat.zero_le _, Nat.zero_le _⟩ hP hD hS hl.1 rfl rfl (Nat.le_of_ble_eq_true rfl) dX4_putInto_3 (fun H locs hP hD hS => ?_)
        refine lv_istore (lv' := [(6, _), (0, _), (1, _), (2, _), (3, _), (4, _), (5, _)]) C.1 C.2.1 dX4_putInto_6 hl (by decide) rfl (fun ls hl => ?_)
        refine lv_iload_n C.1 C.2.1 dX4_putInto_8 rfl (lv_at hl 4 rfl) ?_
        refine lv_iload_n C.1 C.2.1 dX4_putInto_9 rfl (lv_at hl 3 rfl) ?_
        refine lv_iconst (v := nI 1) C.1 C.2.1 dX4_putInto_10 (by decide +kernel) ?_
        refine cm_cS1 3 C (k_X4_homeBy2 l D cI cZ cJ (mw ad cI cZ X I A) key s0) tw_572 tw_573 tw_5 tw_574 rfl rfl (by decide +kernel) ⟨Nat.le_of_ble_eq_true rfl, Nat.le_of_ble_eq_true rfl⟩ ⟨Nat.zero_le _, Nat.zero_le _⟩ hP hD hS hl.1 rfl rfl (Nat.le_of_ble_eq_true rfl) dX4_putInto_11 (fun H locs hP hD hS => ?_)
        refine lv_istore (lv' := [(7, _), (6, _), (0, _), (1, _), (2, _), (3, _), (4, _), (5, _)]) C.1 C.2.1 dX4_putInto_14 hl (by decide) rfl (fun ls hl => ?_)
        refine lv_aload_n C.1 C.2.1 dX4_putInto_16 rfl (lv_at hl 2 rfl) ?_
        refine lv_iload_n C.1 C.2.1 dX4_putInto_17 rfl (lv_at hl 3 rfl) ?_
        refine lv_iload C.1 C.2.1 dX4_putInto_18 (lv_at hl 1 rfl) ?_
        refine cm_cV1 (q0 := 0) 2 C (k_X4_empty l D cI cZ cJ ad X I A w (hm1 s0 key) (by omega) (by omega)) tw_612 tw_614 ts_20 tw_5 tw_615 rfl rfl (rfl) rfl (by decide +kernel) ⟨Nat.le_of_ble_eq_true rfl, Nat.le_of_ble_eq_true rfl⟩ ⟨Nat.zero_le _, Nat.zero_le _⟩ hP hD hS hl.1 rfl rfl (Nat.le_of_ble_eq_true rfl) dX4_putInto_20 (fun H locs hP hD hS => ?_)
        rw [e2, optA_none]
        refine lv_istore (lv' := [(8, _), (7, _), (6, _), (0, _), (1, _), (2, _), (3, _), (4, _), (5, _)]) C.1 C.2.1 dX4_putInto_23 hl (by decide) rfl (fun ls hl => ?_)
        refine lv_iload C.1 C.2.1 dX4_putInto_25 (lv_at hl 0 rfl) ?_
        refine lv_if_ge (tgt := 40) C.1 C.2.1 dX4_putInto_27 (by decide) (fun h => absurd h (by decide)) (fun _ => ?_)
        refine lv_aload_n C.1 C.2.1 dX4_putInto_30 rfl (lv_at hl 3 rfl) ?_
        refine lv_iload_n C.1 C.2.1 dX4_putInto_31 rfl (lv_at hl 4 rfl) ?_
        refine lv_iload C.1 C.2.1 dX4_putInto_32 (lv_at hl 1 rfl) ?_
        refine cm_cV1 (q0 := 0) 2 C (k_X4_empty l D cI cZ cJ ad X I A w (hm2 s0 key) (by omega) (by omega)) tw_612 tw_614 ts_20 tw_5 tw_615 rfl rfl (rfl) rfl (by decide +kernel) ⟨Nat.le_of_ble_eq_true rfl, Nat.le_of_ble_eq_true rfl⟩ ⟨Nat.zero_le _, Nat.zero_le _⟩ hP hD hS hl.1 rfl rfl (Nat.le_of_ble_eq_true rfl) dX4_putInto_34 (fun H locs hP hD hS => ?_)
        rw [e3, optA_none]
        refine lv_goto (tgt := 42) C.1 C.2.1 dX4_putInto_37 (by decide) ?_
        refine lv_istore (lv' := [(8, _), (7, _), (6, _), (0, _), (1, _), (2, _), (3, _), (4, _), (5, _)]) C.1 C.2.1 dX4_putInto_42 hl (by decide) rfl (fun ls hl => ?_)
        refine lv_iload C.1 C.2.1 dX4_putInto_44 (lv_at hl 0 rfl) ?_
        refine lv_if_lt (tgt := 62) C.1 C.2.1 dX4_putInto_46 (by decide) (fun _ => ?_) (fun h => absurd (by decide) h)
        refine lv_aload_n C.1 C.2.1 dX4_putInto_62 rfl (lv_at hl 3 rfl) ?_
        refine lv_iload_n C.1 C.2.1 dX4_putInto_63 rfl (lv_at hl 4 rfl) ?_
        refine lv_iload_n C.1 C.2.1 dX4_putInto_64 rfl (lv_at hl 5 rfl) ?_
        refine lv_iload C.1 C.2.1 dX4_putInto_65 (lv_at hl 2 rfl) ?_
        refine cm_cV1 (q0 := 0) 3 C (k_X4_hasPath l D cI cZ cJ ad X I A w (hm1 s0 key) (by omega) (by omega) s0) tw_616 tw_618 ts_21 tw_5 tw_619 rfl rfl (rfl) rfl (by decide +kernel) ⟨Nat.le_of_ble_eq_true rfl, Nat.le_of_ble_eq_true rfl⟩ ⟨Nat.zero_le _, Nat.zero_le _⟩ hP hD hS hl.1 rfl rfl (Nat.le_of_ble_eq_true rfl) dX4_putInto_67 (fun H locs hP hD hS => ?_)
        rw [e4]
        refine lv_if_ne (tgt := 84) C.1 C.2.1 dX4_putInto_70 (by decide) (fun _ => ?_) (fun h => absurd h (by decide))
        refine lv_aload_n C.1 C.2.1 dX4_putInto_84 rfl (lv_at hl 3 rfl) ?_
        refine lv_iload_n C.1 C.2.1 dX4_putInto_85 rfl (lv_at hl 6 rfl) ?_
        refine lv_iload C.1 C.2.1 dX4_putInto_86 (lv_at hl 7 rfl) ?_
        refine lv_iload C.1 C.2.1 dX4_putInto_88 (lv_at hl 8 rfl) ?_
        refine cm_cV0 (q0 := 0) 3 C (k_X4_goAlong0 l D cI cZ cJ ad X (va_up I 29 (nI (pathS (uM A w) (kM A w) s0 6 0 (hm1 s0 key) []).2.length)) (va_up A 30 (plA w (A 30) 0 (pathS (uM A w) (kM A w) s0 6 0 (hm1 s0 key) []).2)) w hw0 (pathS (uM A w) (kM A w) s0 6 0 (hm1 s0 key) []).2 ((pathS_ok (uM A w) (kM A w) s0 6 0 (hm1 s0 key) [] (by omega) (fun q hq => by cases hq)).2) ((pathS_ok (uM A w) (kM A w) s0 6 0 (hm1 s0 key) [] (by omega) (fun q hq => by cases hq)).1) rfl (fun i q hq => by have h := plA_get w (pathS (uM A w) (kM A w) s0 6 0 (hm1 s0 key) []).2 (A 30) 0 i q hq; rwa [Nat.zero_add] at h) key val) tw_624 tw_626 ts_23 tw_5 tw_627 rfl rfl (rfl) rfl (by decide +kernel) ⟨Nat.le_of_ble_eq_true rfl, Nat.le_of_ble_eq_true rfl⟩ ⟨Nat.zero_le _, Nat.zero_le _⟩ hP hD hS hl.1 rfl rfl (Nat.le_of_ble_eq_true rfl) dX4_putInto_90 (fun H locs hP hD hS => ?_)
        refine lv_iconst (v := nI 2) C.1 C.2.1 dX4_putInto_93 (by decide +kernel) ?_
        exact cr_iret C hP hD hS dX4_putInto_94 ⟨_, _, rfl, by simp [ch0, e2, e3, e4], fun i h7 h29 => (va_up_ne _ _ h7).trans ((va_up_ne _ _ h7).trans (va_up_ne _ _ h29)), fun i h1 h2 h3 h8 h9 h10 h30 => (flR_o i h1 h2 h3 _ _).trans ((va_up_ne _ _ h10).trans ((va_up_ne _ _ h9).trans ((va_up_ne _ _ h8).trans (va_up_ne _ _ h30)))), fun h => absurd h (by simp [ch0, e2, e3, e4]; decide), fun _ => by simp only [ch0, e2, e3, e4, if_true, Bool.false_eq_true, if_false]; exact flR_c _ _ _ rfl rfl rfl⟩
      · have e4 : (pathS (uM A w) (kM A w) s0 6 0 (hm1 s0 key) []).1 = false := by simpa using e4
        by_cases e5 : (pathS (uM A w) (kM A w) s0 6 0 (hm2 s0 key) []).1 = true
        · refine lv_iload_n C.1 C.2.1 dX4_putInto_0 rfl (lv_at hl 3 rfl) ?_
          refine lv_iload_n C.1 C.2.1 dX4_putInto_1 rfl (lv_at hl 2 rfl) ?_
          refine lv_iconst (v := nI 0) C.1 C.2.1 dX4_putInto_2 (by decide +kernel) ?_
          refine cm_cS1 3 C (k_X4_homeBy1 l D cI cZ cJ (mw ad cI cZ X I A) key s0) tw_572 tw_573 tw_5 tw_574 rfl rfl (by decide +kernel) ⟨Nat.le_of_ble_eq_true rfl, Nat.le_of_ble_eq_true rfl⟩ ⟨Nat.zero_le _, Nat.zero_le _⟩ hP hD hS hl.1 rfl rfl (Nat.le_of_ble_eq_true rfl) dX4_putInto_3 (fun H locs hP hD hS => ?_)
          refine lv_istore (lv' := [(6, _), (0, _), (1, _), (2, _), (3, _), (4, _), (5, _)]) C.1 C.2.1 dX4_putInto_6 hl (by decide) rfl (fun ls hl => ?_)
          refine lv_iload_n C.1 C.2.1 dX4_putInto_8 rfl (lv_at hl 4 rfl) ?_
          refine lv_iload_n C.1 C.2.1 dX4_putInto_9 rfl (lv_at hl 3 rfl) ?_
          refine lv_iconst (v := nI 1) C.1 C.2.1 dX4_putInto_10 (by decide +kernel) ?_
          refine cm_cS1 3 C (k_X4_homeBy2 l D cI cZ cJ (mw ad cI cZ X I A) key s0) tw_572 tw_573 tw_5 tw_574 rfl rfl (by decide +kernel) ⟨Nat.le_of_ble_eq_true rfl, Nat.le_of_ble_eq_true rfl⟩ ⟨Nat.zero_le _, Nat.zero_le _⟩ hP hD hS hl.1 rfl rfl (Nat.le_of_ble_eq_true rfl) dX4_putInto_11 (fun H locs hP hD hS => ?_)
          refine lv_istore (lv' := [(7, _), (6, _), (0, _), (1, _), (2, _), (3, _), (4, _), (5, _)]) C.1 C.2.1 dX4_putInto_14 hl (by decide) rfl (fun ls hl => ?_)
          refine lv_aload_n C.1 C.2.1 dX4_putInto_16 rfl (lv_at hl 2 rfl) ?_
          refine lv_iload_n C.1 C.2.1 dX4_putInto_17 rfl (lv_at hl 3 rfl) ?_
          refine lv_iload C.1 C.2.1 dX4_putInto_18 (lv_at hl 1 rfl) ?_
          refine cm_cV1 (q0 := 0) 2 C (k_X4_empty l D cI cZ cJ ad X I A w (hm1 s0 key) (by omega) (by omega)) tw_612 tw_614 ts_20 tw_5 tw_615 rfl rfl (rfl) rfl (by decide +kernel) ⟨Nat.le_of_ble_eq_true rfl, Nat.le_of_ble_eq_true rfl⟩ ⟨Nat.zero_le _, Nat.zero_le _⟩ hP hD hS hl.1 rfl rfl (Nat.le_of_ble_eq_true rfl) dX4_putInto_20 (fun H locs hP hD hS => ?_)
          rw [e2, optA_none]
          refine lv_istore (lv' := [(8, _), (7, _), (6, _), (0, _), (1, _), (2, _), (3, _), (4, _), (5, _)]) C.1 C.2.1 dX4_putInto_23 hl (by decide) rfl (fun ls hl => ?_)
          refine lv_iload C.1 C.2.1 dX4_putInto_25 (lv_at hl 0 rfl) ?_
          refine lv_if_ge (tgt := 40) C.1 C.2.1 dX4_putInto_27 (by decide) (fun h => absurd h (by decide)) (fun _ => ?_)
          refine lv_aload_n C.1 C.2.1 dX4_putInto_30 rfl (lv_at hl 3 rfl) ?_
          refine lv_iload_n C.1 C.2.1 dX4_putInto_31 rfl (lv_at hl 4 rfl) ?_
          refine lv_iload C.1 C.2.1 dX4_putInto_32 (lv_at hl 1 rfl) ?_
          refine cm_cV1 (q0 := 0) 2 C (k_X4_empty l D cI cZ cJ ad X I A w (hm2 s0 key) (by omega) (by omega)) tw_612 tw_614 ts_20 tw_5 tw_615 rfl rfl (rfl) rfl (by decide +kernel) ⟨Nat.le_of_ble_eq_true rfl, Nat.le_of_ble_eq_true rfl⟩ ⟨Nat.zero_le _, Nat.zero_le _⟩ hP hD hS hl.1 rfl rfl (Nat.le_of_ble_eq_true rfl) dX4_putInto_34 (fun H locs hP hD hS => ?_)
          rw [e3, optA_none]
          refine lv_goto (tgt := 42) C.1 C.2.1 dX4_putInto_37 (by decide) ?_
          refine lv_istore (lv' := [(8, _), (7, _), (6, _), (0, _), (1, _), (2, _), (3, _), (4, _), (5, _)]) C.1 C.2.1 dX4_putInto_42 hl (by decide) rfl (fun ls hl => ?_)
          refine lv_iload C.1 C.2.1 dX4_putInto_44 (lv_at hl 0 rfl) ?_
          refine lv_if_lt (tgt := 62) C.1 C.2.1 dX4_putInto_46 (by decide) (fun _ => ?_) (fun h => absurd (by decide) h)
          refine lv_aload_n C.1 C.2.1 dX4_putInto_62 rfl (lv_at hl 3 rfl) ?_
          refine lv_iload_n C.1 C.2.1 dX4_putInto_63 rfl (lv_at hl 4 rfl) ?_
          refine lv_iload_n C.1 C.2.1 dX4_putInto_64 rfl (lv_at hl 5 rfl) ?_
          refine lv_iload C.1 C.2.1 dX4_putInto_65 (lv_at hl 2 rfl) ?_
          refine cm_cV1 (q0 := 0) 3 C (k_X4_hasPath l D cI cZ cJ ad X I A w (hm1 s0 key) (by omega) (by omega) s0) tw_616 tw_618 ts_21 tw_5 tw_619 rfl rfl (rfl) rfl (by decide +kernel) ⟨Nat.le_of_ble_eq_true rfl, Nat.le_of_ble_eq_true rfl⟩ ⟨Nat.zero_le _, Nat.zero_le _⟩ hP hD hS hl.1 rfl rfl (Nat.le_of_ble_eq_true rfl) dX4_putInto_67 (fun H locs hP hD hS => ?_)
          rw [e4]
          refine lv_if_ne (tgt := 84) C.1 C.2.1 dX4_putInto_70 (by decide) (fun h => absurd (by decide) h) (fun _ => ?_)
          refine lv_aload_n C.1 C.2.1 dX4_putInto_73 rfl (lv_at hl 3 rfl) ?_
          refine lv_iload_n C.1 C.2.1 dX4_putInto_74 rfl (lv_at hl 4 rfl) ?_
          refine lv_iload_n C.1 C.2.1 dX4_putInto_75 rfl (lv_at hl 5 rfl) ?_
          refine lv_iload C.1 C.2.1 dX4_putInto_76 (lv_at hl 1 rfl) ?_
          refine cm_cV1 (q0 := 0) 3 C (k_X4_hasPath l D cI cZ cJ ad X (va_up I 29 (nI (pathS (uM A w) (kM A w) s0 6 0 (hm1 s0 key) []).2.length)) (va_up A 30 (plA w (A 30) 0 (pathS (uM A w) (kM A w) s0 6 0 (hm1 s0 key) []).2)) w (hm2 s0 key) (by omega) (by omega) s0) tw_616 tw_618 ts_21 tw_5 tw_619 rfl rfl (rfl) rfl (by decide +kernel) ⟨Nat.le_of_ble_eq_true rfl, Nat.le_of_ble_eq_true rfl⟩ ⟨Nat.zero_le _, Nat.zero_le _⟩ hP hD hS hl.1 rfl rfl (Nat.le_of_ble_eq_true rfl) dX4_putInto_78 (fun H locs hP hD hS => ?_)
          rw [show pathS (uM (va_up A 30 (plA w (A 30) 0 (pathS (uM A w) (kM A w) s0 6 0 (hm1 s0 key) []).2)) w) (kM (va_up A 30 (plA w (A 30) 0 (pathS (uM A w) (kM A w) s0 6 0 (hm1 s0 key) []).2)) w) s0 6 0 (hm2 s0 key) [] = (pathS (uM A w) (kM A w) s0 6 0 (hm2 s0 key) []) from rfl] at hP hD ⊢
          rw [e5]
          refine lv_if_eq (tgt := 95) C.1 C.2.1 dX4_putInto_81 (by decide) (fun h => absurd h (by decide)) (fun _ => ?_)
          refine lv_aload_n C.1 C.2.1 dX4_putInto_84 rfl (lv_at hl 3 rfl) ?_
          refine lv_iload_n C.1 C.2.1 dX4_putInto_85 rfl (lv_at hl 6 rfl) ?_
          refine lv_iload C.1 C.2.1 dX4_putInto_86 (lv_at hl 7 rfl) ?_
          refine lv_iload C.1 C.2.1 dX4_putInto_88 (lv_at hl 8 rfl) ?_
          refine cm_cV0 (q0 := 0) 3 C (k_X4_goAlong0 l D cI cZ cJ ad X (va_up (va_up I 29 (nI (pathS (uM A w) (kM A w) s0 6 0 (hm1 s0 key) []).2.length)) 29 (nI (pathS (uM A w) (kM A w) s0 6 0 (hm2 s0 key) []).2.length)) (va_up (va_up A 30 (plA w (A 30) 0 (pathS (uM A w) (kM A w) s0 6 0 (hm1 s0 key) []).2)) 30 (plA w ((va_up A 30 (plA w (A 30) 0 (pathS (uM A w) (kM A w) s0 6 0 (hm1 s0 key) []).2)) 30) 0 (pathS (uM A w) (kM A w) s0 6 0 (hm2 s0 key) []).2)) w hw0 (pathS (uM A w) (kM A w) s0 6 0 (hm2 s0 key) []).2 ((pathS_ok (uM A w) (kM A w) s0 6 0 (hm2 s0 key) [] (by omega) (fun q hq => by cases hq)).2) ((pathS_ok (uM A w) (kM A w) s0 6 0 (hm2 s0 key) [] (by omega) (fun q hq => by cases hq)).1) rfl (fun i q hq => by have h := plA_get w (pathS (uM A w) (kM A w) s0 6 0 (hm2 s0 key) []).2 ((va_up A 30 (plA w (A 30) 0 (pathS (uM A w) (kM A w) s0 6 0 (hm1 s0 key) []).2)) 30) 0 i q hq; rwa [Nat.zero_add] at h) key val) tw_624 tw_626 ts_23 tw_5 tw_627 rfl rfl (rfl) rfl (by decide +kernel) ⟨Nat.le_of_ble_eq_true rfl, Nat.le_of_ble_eq_true rfl⟩ ⟨Nat.zero_le _, Nat.zero_le _⟩ hP hD hS hl.1 rfl rfl (Nat.le_of_ble_eq_true rfl) dX4_putInto_90 (fun H locs hP hD hS => ?_)
          refine lv_iconst (v := nI 2) C.1 C.2.1 dX4_putInto_93 (by decide +kernel) ?_
          exact cr_iret C hP hD hS dX4_putInto_94 ⟨_, _, rfl, by simp [ch0, e2, e3, e4, e5], fun i h7 h29 => (va_up_ne _ _ h7).trans ((va_up_ne _ _ h7).trans ((va_up_ne _ _ h29).trans (va_up_ne _ _ h29))), fun i h1 h2 h3 h8 h9 h10 h30 => (flR_o i h1 h2 h3 _ _).trans ((va_up_ne _ _ h10).trans ((va_up_ne _ _ h9).trans ((va_up_ne _ _ h8).trans ((va_up_ne _ _ h30).trans (va_up_ne _ _ h30))))), fun h => absurd h (by simp [ch0, e2, e3, e4, e5]; decide), fun _ => by simp only [ch0, e2, e3, e4, e5, if_true, Bool.false_eq_true, if_false]; exact flR_c _ _ _ rfl rfl rfl⟩
        · have e5 : (pathS (uM A w) (kM A w) s0 6 0 (hm2 s0 key) []).1 = false := by simpa using e5
          cases e6 : emS (uM A w) 8 with
          | some p9 =>
            have q3 := (emS_lt e6 (by omega)).1
            refine lv_iload_n C.1 C.2.1 dX4_putInto_0 rfl (lv_at hl 3 rfl) ?_
            refine lv_iload_n C.1 C.2.1 dX4_putInto_1 rfl (lv_at hl 2 rfl) ?_
            refine lv_iconst (v := nI 0) C.1 C.2.1 dX4_putInto_2 (by decide +kernel) ?_
            refine cm_cS1 3 C (k_X4_homeBy1 l D cI cZ cJ (mw ad cI cZ X I A) key s0) tw_572 tw_573 tw_5 tw_574 rfl rfl (by decide +kernel) ⟨Nat.le_of_ble_eq_true rfl, Nat.le_of_ble_eq_true rfl⟩ ⟨Nat.zero_le _, Nat.zero_le _⟩ hP hD hS hl.1 rfl rfl (Nat.le_of_ble_eq_true rfl) dX4_putInto_3 (fun H locs hP hD hS => ?_)
            refine lv_istore (lv' := [(6, _), (0, _), (1, _), (2, _), (3, _), (4, _), (5, _)]) C.1 C.2.1 dX4_putInto_6 hl (by decide) rfl (fun ls hl => ?_)
            refine lv_iload_n C.1 C.2.1 dX4_putInto_8 rfl (lv_at hl 4 rfl) ?_
            refine lv_iload_n C.1 C.2.1 dX4_putInto_9 rfl (lv_at hl 3 rfl) ?_
            refine lv_iconst (v := nI 1) C.1 C.2.1 dX4_putInto_10 (by decide +kernel) ?_
            refine cm_cS1 3 C (k_X4_homeBy2 l D cI cZ cJ (mw ad cI cZ X I A) key s0) tw_572 tw_573 tw_5 tw_574 rfl rfl (by decide +kernel) ⟨Nat.le_of_ble_eq_true rfl, Nat.le_of_ble_eq_true rfl⟩ ⟨Nat.zero_le _, Nat.zero_le _⟩ hP hD hS hl.1 rfl rfl (Nat.le_of_ble_eq_true rfl) dX4_putInto_11 (fun H locs hP hD hS => ?_)
            refine lv_istore (lv' := [(7, _), (6, _), (0, _), (1, _), (2, _), (3, _), (4, _), (5, _)]) C.1 C.2.1 dX4_putInto_14 hl (by decide) rfl (fun ls hl => ?_)
            refine lv_aload_n C.1 C.2.1 dX4_putInto_16 rfl (lv_at hl 2 rfl) ?_
            refine lv_iload_n C.1 C.2.1 dX4_putInto_17 rfl (lv_at hl 3 rfl) ?_
            refine lv_iload C.1 C.2.1 dX4_putInto_18 (lv_at hl 1 rfl) ?_
            refine cm_cV1 (q0 := 0) 2 C (k_X4_empty l D cI cZ cJ ad X I A w (hm1 s0 key) (by omega) (by omega)) tw_612 tw_614 ts_20 tw_5 tw_615 rfl rfl (rfl) rfl (by decide +kernel) ⟨Nat.le_of_ble_eq_true rfl, Nat.le_of_ble_eq_true rfl⟩ ⟨Nat.zero_le _, Nat.zero_le _⟩ hP hD hS hl.1 rfl rfl (Nat.le_of_ble_eq_true rfl) dX4_putInto_20 (fun H locs hP hD hS => ?_)
            rw [e2, optA_none]
            refine lv_istore (lv' := [(8, _), (7, _), (6, _), (0, _), (1, _), (2, _), (3, _), (4, _), (5, _)]) C.1 C.2.1 dX4_putInto_23 hl (by decide) rfl (fun ls hl => ?_)
            refine lv_iload C.1 C.2.1 dX4_putInto_25 (lv_at hl 0 rfl) ?_
            refine lv_if_ge (tgt := 40) C.1 C.2.1 dX4_putInto_27 (by decide) (fun h => absurd h (by decide)) (fun _ => ?_)
            refine lv_aload_n C.1 C.2.1 dX4_putInto_30 rfl (lv_at hl 3 rfl) ?_
            refine lv_iload_n C.1 C.2.1 dX4_putInto_31 rfl (lv_at hl 4 rfl) ?_
            refine lv_iload C.1 C.2.1 dX4_putInto_32 (lv_at hl 1 rfl) ?_
            refine cm_cV1 (q0 := 0) 2 C (k_X4_empty l D cI cZ cJ ad X I A w (hm2 s0 key) (by omega) (by omega)) tw_612 tw_614 ts_20 tw_5 tw_615 rfl rfl (rfl) rfl (by decide +kernel) ⟨Nat.le_of_ble_eq_true rfl, Nat.le_of_ble_eq_true rfl⟩ ⟨Nat.zero_le _, Nat.zero_le _⟩ hP hD hS hl.1 rfl rfl (Nat.le_of_ble_eq_true rfl) dX4_putInto_34 (fun H locs hP hD hS => ?_)
            rw [e3, optA_none]
            refine lv_goto (tgt := 42) C.1 C.2.1 dX4_putInto_37 (by decide) ?_
            refine lv_istore (lv' := [(8, _), (7, _), (6, _), (0, _), (1, _), (2, _), (3, _), (4, _), (5, _)]) C.1 C.2.1 dX4_putInto_42 hl (by decide) rfl (fun ls hl => ?_)
            refine lv_iload C.1 C.2.1 dX4_putInto_44 (lv_at hl 0 rfl) ?_
            refine lv_if_lt (tgt := 62) C.1 C.2.1 dX4_putInto_46 (by decide) (fun _ => ?_) (fun h => absurd (by decide) h)
            refine lv_aload_n C.1 C.2.1 dX4_putInto_62 rfl (lv_at hl 3 rfl) ?_
            refine lv_iload_n C.1 C.2.1 dX4_putInto_63 rfl (lv_at hl 4 rfl) ?_
            refine lv_iload_n C.1 C.2.1 dX4_putInto_64 rfl (lv_at hl 5 rfl) ?_
            refine lv_iload C.1 C.2.1 dX4_putInto_65 (lv_at hl 2 rfl) ?_
            refine cm_cV1 (q0 := 0) 3 C (k_X4_hasPath l D cI cZ cJ ad X I A w (hm1 s0 key) (by omega) (by omega) s0) tw_616 tw_618 ts_21 tw_5 tw_619 rfl rfl (rfl) rfl (by decide +kernel) ⟨Nat.le_of_ble_eq_true rfl, Nat.le_of_ble_eq_true rfl⟩ ⟨Nat.zero_le _, Nat.zero_le _⟩ hP hD hS hl.1 rfl rfl (Nat.le_of_ble_eq_true rfl) dX4_putInto_67 (fun H locs hP hD hS => ?_)
            rw [e4]
            refine lv_if_ne (tgt := 84) C.1 C.2.1 dX4_putInto_70 (by decide) (fun h => absurd (by decide) h) (fun _ => ?_)
            refine lv_aload_n C.1 C.2.1 dX4_putInto_73 rfl (lv_at hl 3 rfl) ?_
            refine lv_iload_n C.1 C.2.1 dX4_putInto_74 rfl (lv_at hl 4 rfl) ?_
            refine lv_iload_n C.1 C.2.1 dX4_putInto_75 rfl (lv_at hl 5 rfl) ?_
            refine lv_iload C.1 C.2.1 dX4_putInto_76 (lv_at hl 1 rfl) ?_
            refine cm_cV1 (q0 := 0) 3 C (k_X4_hasPath l D cI cZ cJ ad X (va_up I 29 (nI (pathS (uM A w) (kM A w) s0 6 0 (hm1 s0 key) []).2.length)) (va_up A 30 (plA w (A 30) 0 (pathS (uM A w) (kM A w) s0 6 0 (hm1 s0 key) []).2)) w (hm2 s0 key) (by omega) (by omega) s0) tw_616 tw_618 ts_21 tw_5 tw_619 rfl rfl (rfl) rfl (by decide +kernel) ⟨Nat.le_of_ble_eq_true rfl, Nat.le_of_ble_eq_true rfl⟩ ⟨Nat.zero_le _, Nat.zero_le _⟩ hP hD hS hl.1 rfl rfl (Nat.le_of_ble_eq_true rfl) dX4_putInto_78 (fun H locs hP hD hS => ?_)
            rw [show pathS (uM (va_up A 30 (plA w (A 30) 0 (pathS (uM A w) (kM A w) s0 6 0 (hm1 s0 key) []).2)) w) (kM (va_up A 30 (plA w (A 30) 0 (pathS (uM A w) (kM A w) s0 6 0 (hm1 s0 key) []).2)) w) s0 6 0 (hm2 s0 key) [] = (pathS (uM A w) (kM A w) s0 6 0 (hm2 s0 key) []) from rfl] at hP hD ⊢
            rw [e5]
            refine lv_if_eq (tgt := 95) C.1 C.2.1 dX4_putInto_81 (by decide) (fun _ => ?_) (fun h => absurd (by decide) h)
            refine lv_aload_n C.1 C.2.1 dX4_putInto_95 rfl (lv_at hl 3 rfl) ?_
            refine lv_iload_n C.1 C.2.1 dX4_putInto_96 rfl (lv_at hl 4 rfl) ?_
            refine lv_bipush (v := nI 8) C.1 C.2.1 dX4_putInto_97 (by decide +kernel) ?_
            refine cm_cV1 (q0 := 0) 2 C (k_X4_empty l D cI cZ cJ ad X (va_up (va_up I 29 (nI (pathS (uM A w) (kM A w) s0 6 0 (hm1 s0 key) []).2.length)) 29 (nI (pathS (uM A w) (kM A w) s0 6 0 (hm2 s0 key) []).2.length)) (va_up (va_up A 30 (plA w (A 30) 0 (pathS (uM A w) (kM A w) s0 6 0 (hm1 s0 key) []).2)) 30 (plA w ((va_up A 30 (plA w (A 30) 0 (pathS (uM A w) (kM A w) s0 6 0 (hm1 s0 key) []).2)) 30) 0 (pathS (uM A w) (kM A w) s0 6 0 (hm2 s0 key) []).2)) w 8 (by omega) (by omega)) tw_612 tw_614 ts_20 tw_5 tw_615 rfl rfl (rfl) rfl (by decide +kernel) ⟨Nat.le_of_ble_eq_true rfl, Nat.le_of_ble_eq_true rfl⟩ ⟨Nat.zero_le _, Nat.zero_le _⟩ hP hD hS hl.1 rfl rfl (Nat.le_of_ble_eq_true rfl) dX4_putInto_99 (fun H locs hP hD hS => ?_)
            rw [show emS (uM (va_up (va_up A 30 (plA w (A 30) 0 (pathS (uM A w) (kM A w) s0 6 0 (hm1 s0 key) []).2)) 30 (plA w ((va_up A 30 (plA w (A 30) 0 (pathS (uM A w) (kM A w) s0 6 0 (hm1 s0 key) []).2)) 30) 0 (pathS (uM A w) (kM A w) s0 6 0 (hm2 s0 key) []).2)) w) 8 = emS (uM A w) 8 from rfl, e6, optA_some]
            refine lv_istore (lv' := [(8, _), (7, _), (6, _), (0, _), (1, _), (2, _), (3, _), (4, _), (5, _)]) C.1 C.2.1 dX4_putInto_102 hl (by decide) rfl (fun ls hl => ?_)
            refine lv_iload C.1 C.2.1 dX4_putInto_104 (lv_at hl 0 rfl) ?_
            refine lv_if_ge (tgt := 112) C.1 C.2.1 dX4_putInto_106 (by decide) (fun _ => ?_) (fun h => absurd (nI_pos' (by omega)) h)
            refine lv_aload_n C.1 C.2.1 dX4_putInto_112 rfl (lv_at hl 3 rfl) ?_
            refine lv_iload C.1 C.2.1 dX4_putInto_113 (lv_at hl 0 rfl) ?_
            refine lv_iload_n C.1 C.2.1 dX4_putInto_115 rfl (lv_at hl 6 rfl) ?_
            refine lv_iload C.1 C.2.1 dX4_putInto_116 (lv_at hl 7 rfl) ?_
            refine lv_iload C.1 C.2.1 dX4_putInto_118 (lv_at hl 8 rfl) ?_
            refine cm_cV0 (q0 := 0) 4 C (k_X4_fill0 l D cI cZ cJ ad X (va_up (va_up I 29 (nI (pathS (uM A w) (kM A w) s0 6 0 (hm1 s0 key) []).2.length)) 29 (nI (pathS (uM A w) (kM A w) s0 6 0 (hm2 s0 key) []).2.length)) (va_up (va_up A 30 (plA w (A 30) 0 (pathS (uM A w) (kM A w) s0 6 0 (hm1 s0 key) []).2)) 30 (plA w ((va_up A 30 (plA w (A 30) 0 (pathS (uM A w) (kM A w) s0 6 0 (hm1 s0 key) []).2)) 30) 0 (pathS (uM A w) (kM A w) s0 6 0 (hm2 s0 key) []).2)) (36 * w + p9) (by omega) key val) tw_588 tw_590 ts_14 tw_5 tw_591 rfl rfl (rfl) rfl (by decide +kernel) ⟨Nat.le_of_ble_eq_true rfl, Nat.le_of_ble_eq_true rfl⟩ ⟨Nat.zero_le _, Nat.zero_le _⟩ hP hD hS hl.1 rfl rfl (Nat.le_of_ble_eq_true rfl) dX4_putInto_120 (fun H locs hP hD hS => ?_)
            refine lv_iconst (v := nI 3) C.1 C.2.1 dX4_putInto_123 (by decide +kernel) ?_
            exact cr_iret C hP hD hS dX4_putInto_124 ⟨_, _, rfl, by simp [ch0, e2, e3, e4, e5, e6], fun i _ h29 => (va_up_ne _ _ h29).trans (va_up_ne _ _ h29), fun i h1 h2 h3 _ _ _ h30 => (va_up_ne _ _ h3).trans ((va_up_ne _ _ h2).trans ((va_up_ne _ _ h1).trans ((va_up_ne _ _ h30).trans (va_up_ne _ _ h30)))), fun h => absurd h (by simp [ch0, e2, e3, e4, e5, e6]; decide), fun _ => by simp only [ch0, e2, e3, e4, e5, e6]; exact ⟨rfl, rfl, rfl⟩⟩
          | none =>
            refine lv_iload_n C.1 C.2.1 dX4_putInto_0 rfl (lv_at hl 3 rfl) ?_
            refine lv_iload_n C.1 C.2.1 dX4_putInto_1 rfl (lv_at hl 2 rfl) ?_
            refine lv_iconst (v := nI 0) C.1 C.2.1 dX4_putInto_2 (by decide +kernel) ?_
            refine cm_cS1 3 C (k_X4_homeBy1 l D cI cZ cJ (mw ad cI cZ X I A) key s0) tw_572 tw_573 tw_5 tw_574 rfl rfl (by decide +kernel) ⟨Nat.le_of_ble_eq_true rfl, Nat.le_of_ble_eq_true rfl⟩ ⟨Nat.zero_le _, Nat.zero_le _⟩ hP hD hS hl.1 rfl rfl (Nat.le_of_ble_eq_true rfl) dX4_putInto_3 (fun H locs hP hD hS => ?_)
            refine lv_istore (lv' := [(6, _), (0, _), (1, _), (2, _), (3, _), (4, _), (5, _)]) C.1 C.2.1 dX4_putInto_6 hl (by decide) rfl (fun ls hl => ?_)
            refine lv_iload_n C.1 C.2.1 dX4_putInto_8 rfl (lv_at hl 4 rfl) ?_
            refine lv_iload_n C.1 C.2.1 dX4_putInto_9 rfl (lv_at hl 3 rfl) ?_
            refine lv_iconst (v := nI 1) C.1 C.2.1 dX4_putInto_10 (by decide +kernel) ?_
            refine cm_cS1 3 C (k_X4_homeBy2 l D cI cZ cJ (mw ad cI cZ X I A) key s0) tw_572 tw_573 tw_5 tw_574 rfl rfl (by decide +kernel) ⟨Nat.le_of_ble_eq_true rfl, Nat.le_of_ble_eq_true rfl⟩ ⟨Nat.zero_le _, Nat.zero_le _⟩ hP hD hS hl.1 rfl rfl (Nat.le_of_ble_eq_true rfl) dX4_putInto_11 (fun H locs hP hD hS => ?_)
            refine lv_istore (lv' := [(7, _), (6, _), (0, _), (1, _), (2, _), (3, _), (4, _), (5, _)]) C.1 C.2.1 dX4_putInto_14 hl (by decide) rfl (fun ls hl => ?_)
            refine lv_aload_n C.1 C.2.1 dX4_putInto_16 rfl (lv_at hl 2 rfl) ?_
            refine lv_iload_n C.1 C.2.1 dX4_putInto_17 rfl (lv_at hl 3 rfl) ?_
            refine lv_iload C.1 C.2.1 dX4_putInto_18 (lv_at hl 1 rfl) ?_
            refine cm_cV1 (q0 := 0) 2 C (k_X4_empty l D cI cZ cJ ad X I A w (hm1 s0 key) (by omega) (by omega)) tw_612 tw_614 ts_20 tw_5 tw_615 rfl rfl (rfl) rfl (by decide +kernel) ⟨Nat.le_of_ble_eq_true rfl, Nat.le_of_ble_eq_true rfl⟩ ⟨Nat.zero_le _, Nat.zero_le _⟩ hP hD hS hl.1 rfl rfl (Nat.le_of_ble_eq_true rfl) dX4_putInto_20 (fun H locs hP hD hS => ?_)
            rw [e2, optA_none]
            refine lv_istore (lv' := [(8, _), (7, _), (6, _), (0, _), (1, _), (2, _), (3, _), (4, _), (5, _)]) C.1 C.2.1 dX4_putInto_23 hl (by decide) rfl (fun ls hl => ?_)
            refine lv_iload C.1 C.2.1 dX4_putInto_25 (lv_at hl 0 rfl) ?_
            refine lv_if_ge (tgt := 40) C.1 C.2.1 dX4_putInto_27 (by decide) (fun h => absurd h (by decide)) (fun _ => ?_)
            refine lv_aload_n C.1 C.2.1 dX4_putInto_30 rfl (lv_at hl 3 rfl) ?_
            refine lv_iload_n C.1 C.2.1 dX4_putInto_31 rfl (lv_at hl 4 rfl) ?_
            refine lv_iload C.1 C.2.1 dX4_putInto_32 (lv_at hl 1 rfl) ?_
            refine cm_cV1 (q0 := 0) 2 C (k_X4_empty l D cI cZ cJ ad X I A w (hm2 s0 key) (by omega) (by omega)) tw_612 tw_614 ts_20 tw_5 tw_615 rfl rfl (rfl) rfl (by decide +kernel) ⟨Nat.le_of_ble_eq_true rfl, Nat.le_of_ble_eq_true rfl⟩ ⟨Nat.zero_le _, Nat.zero_le _⟩ hP hD hS hl.1 rfl rfl (Nat.le_of_ble_eq_true rfl) dX4_putInto_34 (fun H locs hP hD hS => ?_)
            rw [e3, optA_none]
            refine lv_goto (tgt := 42) C.1 C.2.1 dX4_putInto_37 (by decide) ?_
            refine lv_istore (lv' := [(8, _), (7, _), (6, _), (0, _), (1, _), (2, _), (3, _), (4, _), (5, _)]) C.1 C.2.1 dX4_putInto_42 hl (by decide) rfl (fun ls hl => ?_)
            refine lv_iload C.1 C.2.1 dX4_putInto_44 (lv_at hl 0 rfl) ?_
            refine lv_if_lt (tgt := 62) C.1 C.2.1 dX4_putInto_46 (by decide) (fun _ => ?_) (fun h => absurd (by decide) h)
            refine lv_aload_n C.1 C.2.1 dX4_putInto_62 rfl (lv_at hl 3 rfl) ?_
            refine lv_iload_n C.1 C.2.1 dX4_putInto_63 rfl (lv_at hl 4 rfl) ?_
            refine lv_iload_n C.1 C.2.1 dX4_putInto_64 rfl (lv_at hl 5 rfl) ?_
            refine lv_iload C.1 C.2.1 dX4_putInto_65 (lv_at hl 2 rfl) ?_
            refine cm_cV1 (q0 := 0) 3 C (k_X4_hasPath l D cI cZ cJ ad X I A w (hm1 s0 key) (by omega) (by omega) s0) tw_616 tw_618 ts_21 tw_5 tw_619 rfl rfl (rfl) rfl (by decide +kernel) ⟨Nat.le_of_ble_eq_true rfl, Nat.le_of_ble_eq_true rfl⟩ ⟨Nat.zero_le _, Nat.zero_le _⟩ hP hD hS hl.1 rfl rfl (Nat.le_of_ble_eq_true rfl) dX4_putInto_67 (fun H locs hP hD hS => ?_)
            rw [e4]
            refine lv_if_ne (tgt := 84) C.1 C.2.1 dX4_putInto_70 (by decide) (fun h => absurd (by decide) h) (fun _ => ?_)
            refine lv_aload_n C.1 C.2.1 dX4_putInto_73 rfl (lv_at hl 3 rfl) ?_
            refine lv_iload_n C.1 C.2.1 dX4_putInto_74 rfl (lv_at hl 4 rfl) ?_
            refine lv_iload_n C.1 C.2.1 dX4_putInto_75 rfl (lv_at hl 5 rfl) ?_
            refine lv_iload C.1 C.2.1 dX4_putInto_76 (lv_at hl 1 rfl) ?_
            refine cm_cV1 (q0 := 0) 3 C (k_X4_hasPath l D cI cZ cJ ad X (va_up I 29 (nI (pathS (uM A w) (kM A w) s0 6 0 (hm1 s0 key) []).2.length)) (va_up A 30 (plA w (A 30) 0 (pathS (uM A w) (kM A w) s0 6 0 (hm1 s0 key) []).2)) w (hm2 s0 key) (by omega) (by omega) s0) tw_616 tw_618 ts_21 tw_5 tw_619 rfl rfl (rfl) rfl (by decide +kernel) ⟨Nat.le_of_ble_eq_true rfl, Nat.le_of_ble_eq_true rfl⟩ ⟨Nat.zero_le _, Nat.zero_le _⟩ hP hD hS hl.1 rfl rfl (Nat.le_of_ble_eq_true rfl) dX4_putInto_78 (fun H locs hP hD hS => ?_)
            rw [show pathS (uM (va_up A 30 (plA w (A 30) 0 (pathS (uM A w) (kM A w) s0 6 0 (hm1 s0 key) []).2)) w) (kM (va_up A 30 (plA w (A 30) 0 (pathS (uM A w) (kM A w) s0 6 0 (hm1 s0 key) []).2)) w) s0 6 0 (hm2 s0 key) [] = (pathS (uM A w) (kM A w) s0 6 0 (hm2 s0 key) []) from rfl] at hP hD ⊢
            rw [e5]
            refine lv_if_eq (tgt := 95) C.1 C.2.1 dX4_putInto_81 (by decide) (fun _ => ?_) (fun h => absurd (by decide) h)
            refine lv_aload_n C.1 C.2.1 dX4_putInto_95 rfl (lv_at hl 3 rfl) ?_
            refine lv_iload_n C.1 C.2.1 dX4_putInto_96 rfl (lv_at hl 4 rfl) ?_
            refine lv_bipush (v := nI 8) C.1 C.2.1 dX4_putInto_97 (by decide +kernel) ?_
            refine cm_cV1 (q0 := 0) 2 C (k_X4_empty l D cI cZ cJ ad X (va_up (va_up I 29 (nI (pathS (uM A w) (kM A w) s0 6 0 (hm1 s0 key) []).2.length)) 29 (nI (pathS (uM A w) (kM A w) s0 6 0 (hm2 s0 key) []).2.length)) (va_up (va_up A 30 (plA w (A 30) 0 (pathS (uM A w) (kM A w) s0 6 0 (hm1 s0 key) []).2)) 30 (plA w ((va_up A 30 (plA w (A 30) 0 (pathS (uM A w) (kM A w) s0 6 0 (hm1 s0 key) []).2)) 30) 0 (pathS (uM A w) (kM A w) s0 6 0 (hm2 s0 key) []).2)) w 8 (by omega) (by omega)) tw_612 tw_614 ts_20 tw_5 tw_615 rfl rfl (rfl) rfl (by decide +kernel) ⟨Nat.le_of_ble_eq_true rfl, Nat.le_of_ble_eq_true rfl⟩ ⟨Nat.zero_le _, Nat.zero_le _⟩ hP hD hS hl.1 rfl rfl (Nat.le_of_ble_eq_true rfl) dX4_putInto_99 (fun H locs hP hD hS => ?_)
            rw [show emS (uM (va_up (va_up A 30 (plA w (A 30) 0 (pathS (uM A w) (kM A w) s0 6 0 (hm1 s0 key) []).2)) 30 (plA w ((va_up A 30 (plA w (A 30) 0 (pathS (uM A w) (kM A w) s0 6 0 (hm1 s0 key) []).2)) 30) 0 (pathS (uM A w) (kM A w) s0 6 0 (hm2 s0 key) []).2)) w) 8 = emS (uM A w) 8 from rfl, e6, optA_none]
            refine lv_istore (lv' := [(8, _), (7, _), (6, _), (0, _), (1, _), (2, _), (3, _), (4, _), (5, _)]) C.1 C.2.1 dX4_putInto_102 hl (by decide) rfl (fun ls hl => ?_)
            refine lv_iload C.1 C.2.1 dX4_putInto_104 (lv_at hl 0 rfl) ?_
            refine lv_if_ge (tgt := 112) C.1 C.2.1 dX4_putInto_106 (by decide) (fun h => absurd h (by decide)) (fun _ => ?_)
            refine lv_bipush (v := (-2)) C.1 C.2.1 dX4_putInto_109 (by decide +kernel) ?_
            exact cr_iret C hP hD hS dX4_putInto_111 ⟨_, _, rfl, by simp [ch0, e2, e3, e4, e5, e6], fun i _ h29 => (va_up_ne _ _ h29).trans (va_up_ne _ _ h29), fun i h1 h2 h3 _ _ _ h30 => (va_up_ne _ _ h30).trans (va_up_ne _ _ h30), fun _ => ⟨rfl, rfl, rfl⟩, fun h => absurd (by simp [ch0, e2, e3, e4, e5, e6]) h⟩
set_option maxHeartbeats 4000000 in
set_option maxRecDepth 100000 in
/-- putInto -/
theorem k_X4_putInto1 (l : Launch) (D : va_G) (cI cZ cJ : ClassId) (ad : Nat → Nat) (X : va_W) (I : Nat → Int32) (A : Nat → Nat → Int32) (w : Nat) (hw0 : w < 2) (t : Nat) (hok : okW t (I, A)) (s0 key val : Int32) : CRi l D (cm_T cI cZ cJ) yX4_putInto cX4_putInto 9 (some .int) (cm_rm 6 139) [.ref (ad 0), .int (nI w), .int s0, .int key, .int val, .int (nI 1)] (mw ad cI cZ X I A) (piE1 ad cI cZ X I A w t s0 key val) := by
  refine CRi.of (by decide) (Nat.le_of_ble_eq_true rfl) ?_
  intro p e s m below meth c ls H locs C hl hP hD hS
  have q1 := hm1_lt s0 key
  have q2 := hm2_lt s0 key
  cases e2 : emS (uM A w) (hm1 s0 key) with
  | some p9 =>
    have q3 := (emS_lt e2 (by omega)).1
    refine lv_iload_n C.1 C.2.1 dX4_putInto_0 rfl (lv_at hl 3 rfl) ?_
    refine lv_iload_n C.1 C.2.1 dX4_putInto_1 rfl (lv_at hl 2 rfl) ?_
    refine lv_iconst (v := nI 0) C.1 C.2.1 dX4_putInto_2 (by decide +kernel) ?_
    refine cm_cS1 3 C (k_X4_homeBy1 l D cI cZ cJ (mw ad cI cZ X I A) key s0) tw_572 tw_573 tw_5 tw_574 rfl rfl (by decide +kernel) ⟨Nat.le_of_ble_eq_true rfl, Nat.le_of_ble_eq_true rfl⟩ ⟨Nat.zero_le _, Nat.zero_le _⟩ hP hD hS hl.1 rfl rfl (Nat.le_of_ble_eq_true rfl) dX4_putInto_3 (fun H locs hP hD hS => ?_)
    refine lv_istore (lv' := [(6, _), (0, _), (1, _), (2, _), (3, _), (4, _), (5, _)]) C.1 C.2.1 dX4_putInto_6 hl (by decide) rfl (fun ls hl => ?_)
    refine lv_iload_n C.1 C.2.1 dX4_putInto_8 rfl (lv_at hl 4 rfl) ?_
    refine lv_iload_n C.1 C.2.1 dX4_putInto_9 rfl (lv_at hl 3 rfl) ?_
    refine lv_iconst (v := nI 1) C.1 C.2.1 dX4_putInto_10 (by decide +kernel) ?_
    refine cm_cS1 3 C (k_X4_homeBy2 l D cI cZ cJ (mw ad cI cZ X I A) key s0) tw_572 tw_573 tw_5 tw_574 rfl rfl (by decide +kernel) ⟨Nat.le_of_ble_eq_true rfl, Nat.le_of_ble_eq_true rfl⟩ ⟨Nat.zero_le _, Nat.zero_le _⟩ hP hD hS hl.1 rfl rfl (Nat.le_of_ble_eq_true rfl) dX4_putInto_11 (fun H locs hP hD hS => ?_)
    refine lv_istore (lv' := [(7, _), (6, _), (0, _), (1, _), (2, _), (3, _), (4, _), (5, _)]) C.1 C.2.1 dX4_putInto_14 hl (by decide) rfl (fun ls hl => ?_)
    refine lv_aload_n C.1 C.2.1 dX4_putInto_16 rfl (lv_at hl 2 rfl) ?_
    refine lv_iload_n C.1 C.2.1 dX4_putInto_17 rfl (lv_at hl 3 rfl) ?_
    refine lv_iload C.1 C.2.1 dX4_putInto_18 (lv_at hl 1 rfl) ?_
    refine cm_cV1 (q0 := 0) 2 C (k_X4_empty l D cI cZ cJ ad X I A w (hm1 s0 key) (by omega) (by omega)) tw_612 tw_614 ts_20 tw_5 tw_615 rfl rfl (rfl) rfl (by decide +kernel) ⟨Nat.le_of_ble_eq_true rfl, Nat.le_of_ble_eq_true rfl⟩ ⟨Nat.zero_le _, Nat.zero_le _⟩ hP hD hS hl.1 rfl rfl (Nat.le_of_ble_eq_true rfl) dX4_putInto_20 (fun H locs hP hD hS => ?_)
    rw [e2, optA_some]
    refine lv_istore (lv' := [(8, _), (7, _), (6, _), (0, _), (1, _), (2, _), (3, _), (4, _), (5, _)]) C.1 C.2.1 dX4_putInto_23 hl (by decide) rfl (fun ls hl => ?_)
    refine lv_iload C.1 C.2.1 dX4_putInto_25 (lv_at hl 0 rfl) ?_
    refine lv_if_ge (tgt := 40) C.1 C.2.1 dX4_putInto_27 (by decide) (fun _ => ?_) (fun h => absurd (nI_pos' (by omega)) h)
    refine lv_iload C.1 C.2.1 dX4_putInto_40 (lv_at hl 0 rfl) ?_
    refine lv_istore (lv' := [(8, _), (7, _), (6, _), (0, _), (1, _), (2, _), (3, _), (4, _), (5, _)]) C.1 C.2.1 dX4_putInto_42 hl (by decide) rfl (fun ls hl => ?_)
    refine lv_iload C.1 C.2.1 dX4_putInto_44 (lv_at hl 0 rfl) ?_
    refine lv_if_lt (tgt := 62) C.1 C.2.1 dX4_putInto_46 (by decide) (fun h => absurd h (nI_pos (by omega))) (fun _ => ?_)
    refine lv_aload_n C.1 C.2.1 dX4_putInto_49 rfl (lv_at hl 3 rfl) ?_
    refine lv_iload C.1 C.2.1 dX4_putInto_50 (lv_at hl 0 rfl) ?_
    refine lv_iload_n C.1 C.2.1 dX4_putInto_52 rfl (lv_at hl 6 rfl) ?_
    refine lv_iload C.1 C.2.1 dX4_putInto_53 (lv_at hl 7 rfl) ?_
    refine lv_iload C.1 C.2.1 dX4_putInto_55 (lv_at hl 8 rfl) ?_
    refine cm_cV0 (q0 := 0) 4 C (k_X4_fill1 l D cI cZ cJ ad X I A t hok.1 hok.2.1 hok.2.2 (36 * w + p9) (by omega) key val) tw_588 tw_590 ts_14 tw_5 tw_591 rfl rfl (rfl) rfl (by decide +kernel) ⟨Nat.le_of_ble_eq_true rfl, Nat.le_of_ble_eq_true rfl⟩ ⟨Nat.zero_le _, Nat.zero_le _⟩ hP hD hS hl.1 rfl rfl (Nat.le_of_ble_eq_true rfl) dX4_putInto_57 (fun H locs hP hD hS => ?_)
    refine lv_iconst (v := nI 1) C.1 C.2.1 dX4_putInto_60 (by decide +kernel) ?_
    exact cr_iret C hP hD hS dX4_putInto_61 ⟨I, A, fun i h29 => rfl, fun i h30 => rfl, by simp [ch0, e2], Or.inr (Or.inl ⟨p9, by simp [ch0, e2], q3, by simp [ch0, e2], rfl⟩)⟩
  | none =>
    cases e3 : emS (uM A w) (hm2 s0 key) with
    | some p9 =>
      have q3 := (emS_lt e3 (by omega)).1
      refine lv_iload_n C.1 C.2.1 dX4_putInto_0 rfl (lv_at hl 3 rfl) ?_
      refine lv_iload_n C.1 C.2.1 dX4_putInto_1 rfl (lv_at hl 2 rfl) ?_
      refine lv_iconst (v := nI 0) C.1 C.2.1 dX4_putInto_2 (by decide +kernel) ?_
      refine cm_cS1 3 C (k_X4_homeBy1 l D cI cZ cJ (mw ad cI cZ X I A) key s0) tw_572 tw_573 tw_5 tw_574 rfl rfl (by decide +kernel) ⟨Nat.le_of_ble_eq_true rfl, Nat.le_of_ble_eq_true rfl⟩ ⟨Nat.zero_le _, Nat.zero_le _⟩ hP hD hS hl.1 rfl rfl (Nat.le_of_ble_eq_true rfl) dX4_putInto_3 (fun H locs hP hD hS => ?_)
      refine lv_istore (lv' := [(6, _), (0, _), (1, _), (2, _), (3, _), (4, _), (5, _)]) C.1 C.2.1 dX4_putInto_6 hl (by decide) rfl (fun ls hl => ?_)
      refine lv_iload_n C.1 C.2.1 dX4_putInto_8 rfl (lv_at hl 4 rfl) ?_
      refine lv_iload_n C.1 C.2.1 dX4_putInto_9 rfl (lv_at hl 3 rfl) ?_
      refine lv_iconst (v := nI 1) C.1 C.2.1 dX4_putInto_10 (by decide +kernel) ?_
      refine cm_cS1 3 C (k_X4_homeBy2 l D cI cZ cJ (mw ad cI cZ X I A) key s0) tw_572 tw_573 tw_5 tw_574 rfl rfl (by decide +kernel) ⟨Nat.le_of_ble_eq_true rfl, Nat.le_of_ble_eq_true rfl⟩ ⟨Nat.zero_le _, Nat.zero_le _⟩ hP hD hS hl.1 rfl rfl (Nat.le_of_ble_eq_true rfl) dX4_putInto_11 (fun H locs hP hD hS => ?_)
      refine lv_istore (lv' := [(7, _), (6, _), (0, _), (1, _), (2, _), (3, _), (4, _), (5, _)]) C.1 C.2.1 dX4_putInto_14 hl (by decide) rfl (fun ls hl => ?_)
      refine lv_aload_n C.1 C.2.1 dX4_putInto_16 rfl (lv_at hl 2 rfl) ?_
      refine lv_iload_n C.1 C.2.1 dX4_putInto_17 rfl (lv_at hl 3 rfl) ?_
      refine lv_iload C.1 C.2.1 dX4_putInto_18 (lv_at hl 1 rfl) ?_
      refine cm_cV1 (q0 := 0) 2 C (k_X4_empty l D cI cZ cJ ad X I A w (hm1 s0 key) (by omega) (by omega)) tw_612 tw_614 ts_20 tw_5 tw_615 rfl rfl (rfl) rfl (by decide +kernel) ⟨Nat.le_of_ble_eq_true rfl, Nat.le_of_ble_eq_true rfl⟩ ⟨Nat.zero_le _, Nat.zero_le _⟩ hP hD hS hl.1 rfl rfl (Nat.le_of_ble_eq_true rfl) dX4_putInto_20 (fun H locs hP hD hS => ?_)
      rw [e2, optA_none]
      refine lv_istore (lv' := [(8, _), (7, _), (6, _), (0, _), (1, _), (2, _), (3, _), (4, _), (5, _)]) C.1 C.2.1 dX4_putInto_23 hl (by decide) rfl (fun ls hl => ?_)
      refine lv_iload C.1 C.2.1 dX4_putInto_25 (lv_at hl 0 rfl) ?_
      refine lv_if_ge (tgt := 40) C.1 C.2.1 dX4_putInto_27 (by decide) (fun h => absurd h (by decide)) (fun _ => ?_)
      refine lv_aload_n C.1 C.2.1 dX4_putInto_30 rfl (lv_at hl 3 rfl) ?_
      refine lv_iload_n C.1 C.2.1 dX4_putInto_31 rfl (lv_at hl 4 rfl) ?_
      refine lv_iload C.1 C.2.1 dX4_putInto_32 (lv_at hl 1 rfl) ?_
      refine cm_cV1 (q0 := 0) 2 C (k_X4_empty l D cI cZ cJ ad X I A w (hm2 s0 key) (by omega) (by omega)) tw_612 tw_614 ts_20 tw_5 tw_615 rfl rfl (rfl) rfl (by decide +kernel) ⟨Nat.le_of_ble_eq_true rfl, Nat.le_of_ble_eq_true rfl⟩ ⟨Nat.zero_le _, Nat.zero_le _⟩ hP hD hS hl.1 rfl rfl (Nat.le_of_ble_eq_true rfl) dX4_putInto_34 (fun H locs hP hD hS => ?_)
      rw [e3, optA_some]
      refine lv_goto (tgt := 42) C.1 C.2.1 dX4_putInto_37 (by decide) ?_
      refine lv_istore (lv' := [(8, _), (7, _), (6, _), (0, _), (1, _), (2, _), (3, _), (4, _), (5, _)]) C.1 C.2.1 dX4_putInto_42 hl (by decide) rfl (fun ls hl => ?_)
      refine lv_iload C.1 C.2.1 dX4_putInto_44 (lv_at hl 0 rfl) ?_
      refine lv_if_lt (tgt := 62) C.1 C.2.1 dX4_putInto_46 (by decide) (fun h => absurd h (nI_pos (by omega))) (fun _ => ?_)
      refine lv_aload_n C.1 C.2.1 dX4_putInto_49 rfl (lv_at hl 3 rfl) ?_
      refine lv_iload C.1 C.2.1 dX4_putInto_50 (lv_at hl 0 rfl) ?_
      refine lv_iload_n C.1 C.2.1 dX4_putInto_52 rfl (lv_at hl 6 rfl) ?_
      refine lv_iload C.1 C.2.1 dX4_putInto_53 (lv_at hl 7 rfl) ?_
      refine lv_iload C.1 C.2.1 dX4_putInto_55 (lv_at hl 8 rfl) ?_
      refine cm_cV0 (q0 := 0) 4 C (k_X4_fill1 l D cI cZ cJ ad X I A t hok.1 hok.2.1 hok.2.2 (36 * w + p9) (by omega) key val) tw_588 tw_590 ts_14 tw_5 tw_591 rfl rfl (rfl) rfl (by decide +kernel) ⟨Nat.le_of_ble_eq_true rfl, Nat.le_of_ble_eq_true rfl⟩ ⟨Nat.zero_le _, Nat.zero_le _⟩ hP hD hS hl.1 rfl rfl (Nat.le_of_ble_eq_true rfl) dX4_putInto_57 (fun H locs hP hD hS => ?_)
      refine lv_iconst (v := nI 1) C.1 C.2.1 dX4_putInto_60 (by decide +kernel) ?_
      exact cr_iret C hP hD hS dX4_putInto_61 ⟨I, A, fun i h29 => rfl, fun i h30 => rfl, by simp [ch0, e2, e3], Or.inr (Or.inl ⟨p9, by simp [ch0, e2, e3], q3, by simp [ch0, e2, e3], rfl⟩)⟩
    | none =>
      by_cases e4 : (pathS (uM A w) (kM A w) s0 6 0 (hm1 s0 key) []).1 = true
      · refine lv_iload_n C.1 C.2.1 dX4_putInto_0 rfl (lv_at hl 3 rfl) ?_
        refine lv_iload_n C.1 C.2.1 dX4_putInto_1 rfl (lv_at hl 2 rfl) ?_
        refine lv_iconst (v := nI 0) C.1 C.2.1 dX4_putInto_2 (by decide +kernel) ?_
        refine cm_cS1 3 C (k_X4_homeBy1 l D cI cZ cJ (mw ad cI cZ X I A) key s0) tw_572 tw_573 tw_5 tw_574 rfl rfl (by decide +kernel) ⟨Nat.le_of_ble_eq_true rfl, Nat.le_of_ble_eq_true rfl⟩ ⟨Nat.zero_le _, Nat.zero_le _⟩ hP hD hS hl.1 rfl rfl (Nat.le_of_ble_eq_true rfl) dX4_putInto_3 (fun H locs hP hD hS => ?_)
        refine lv_istore (lv' := [(6, _), (0, _), (1, _), (2, _), (3, _), (4, _), (5, _)]) C.1 C.2.1 dX4_putInto_6 hl (by decide) rfl (fun ls hl => ?_)
        refine lv_iload_n C.1 C.2.1 dX4_putInto_8 rfl (lv_at hl 4 rfl) ?_
        refine lv_iload_n C.1 C.2.1 dX4_putInto_9 rfl (lv_at hl 3 rfl) ?_
        refine lv_iconst (v := nI 1) C.1 C.2.1 dX4_putInto_10 (by decide +kernel) ?_
        refine cm_cS1 3 C (k_X4_homeBy2 l D cI cZ cJ (mw ad cI cZ X I A) key s0) tw_572 tw_573 tw_5 tw_574 rfl rfl (by decide +kernel) ⟨Nat.le_of_ble_eq_true rfl, Nat.le_of_ble_eq_true rfl⟩ ⟨Nat.zero_le _, Nat.zero_le _⟩ hP hD hS hl.1 rfl rfl (Nat.le_of_ble_eq_true rfl) dX4_putInto_11 (fun H locs hP hD hS => ?_)
        refine lv_istore (lv' := [(7, _), (6, _), (0, _), (1, _), (2, _), (3, _), (4, _), (5, _)]) C.1 C.2.1 dX4_putInto_14 hl (by decide) rfl (fun ls hl => ?_)
        refine lv_aload_n C.1 C.2.1 dX4_putInto_16 rfl (lv_at hl 2 rfl) ?_
        refine lv_iload_n C.1 C.2.1 dX4_putInto_17 rfl (lv_at hl 3 rfl) ?_
        refine lv_iload C.1 C.2.1 dX4_putInto_18 (lv_at hl 1 rfl) ?_
        refine cm_cV1 (q0 := 0) 2 C (k_X4_empty l D cI cZ cJ ad X I A w (hm1 s0 key) (by omega) (by omega)) tw_612 tw_614 ts_20 tw_5 tw_615 rfl rfl (rfl) rfl (by decide +kernel) ⟨Nat.le_of_ble_eq_true rfl, Nat.le_of_ble_eq_true rfl⟩ ⟨Nat.zero_le _, Nat.zero_le _⟩ hP hD hS hl.1 rfl rfl (Nat.le_of_ble_eq_true rfl) dX4_putInto_20 (fun H locs hP hD hS => ?_)
        rw [e2, optA_none]
        refine lv_istore (lv' := [(8, _), (7, _), (6, _), (0, _), (1, _), (2, _), (3, _), (4, _), (5, _)]) C.1 C.2.1 dX4_putInto_23 hl (by decide) rfl (fun ls hl => ?_)
        refine lv_iload C.1 C.2.1 dX4_putInto_25 (lv_at hl 0 rfl) ?_
        refine lv_if_ge (tgt := 40) C.1 C.2.1 dX4_putInto_27 (by decide) (fun h => absurd h (by decide)) (fun _ => ?_)
        refine lv_aload_n C.1 C.2.1 dX4_putInto_30 rfl (lv_at hl 3 rfl) ?_
        refine lv_iload_n C.1 C.2.1 dX4_putInto_31 rfl (lv_at hl 4 rfl) ?_
        refine lv_iload C.1 C.2.1 dX4_putInto_32 (lv_at hl 1 rfl) ?_
        refine cm_cV1 (q0 := 0) 2 C (k_X4_empty l D cI cZ cJ ad X I A w (hm2 s0 key) (by omega) (by omega)) tw_612 tw_614 ts_20 tw_5 tw_615 rfl rfl (rfl) rfl (by decide +kernel) ⟨Nat.le_of_ble_eq_true rfl, Nat.le_of_ble_eq_true rfl⟩ ⟨Nat.zero_le _, Nat.zero_le _⟩ hP hD hS hl.1 rfl rfl (Nat.le_of_ble_eq_true rfl) dX4_putInto_34 (fun H locs hP hD hS => ?_)
        rw [e3, optA_none]
        refine lv_goto (tgt := 42) C.1 C.2.1 dX4_putInto_37 (by decide) ?_
        refine lv_istore (lv' := [(8, _), (7, _), (6, _), (0, _), (1, _), (2, _), (3, _), (4, _), (5, _)]) C.1 C.2.1 dX4_putInto_42 hl (by decide) rfl (fun ls hl => ?_)
        refine lv_iload C.1 C.2.1 dX4_putInto_44 (lv_at hl 0 rfl) ?_
        refine lv_if_lt (tgt := 62) C.1 C.2.1 dX4_putInto_46 (by decide) (fun _ => ?_) (fun h => absurd (by decide) h)
        refine lv_aload_n C.1 C.2.1 dX4_putInto_62 rfl (lv_at hl 3 rfl) ?_
        refine lv_iload_n C.1 C.2.1 dX4_putInto_63 rfl (lv_at hl 4 rfl) ?_
        refine lv_iload_n C.1 C.2.1 dX4_putInto_64 rfl (lv_at hl 5 rfl) ?_
        refine lv_iload C.1 C.2.1 dX4_putInto_65 (lv_at hl 2 rfl) ?_
        refine cm_cV1 (q0 := 0) 3 C (k_X4_hasPath l D cI cZ cJ ad X I A w (hm1 s0 key) (by omega) (by omega) s0) tw_616 tw_618 ts_21 tw_5 tw_619 rfl rfl (rfl) rfl (by decide +kernel) ⟨Nat.le_of_ble_eq_true rfl, Nat.le_of_ble_eq_true rfl⟩ ⟨Nat.zero_le _, Nat.zero_le _⟩ hP hD hS hl.1 rfl rfl (Nat.le_of_ble_eq_true rfl) dX4_putInto_67 (fun H locs hP hD hS => ?_)
        rw [e4]
        refine lv_if_ne (tgt := 84) C.1 C.2.1 dX4_putInto_70 (by decide) (fun _ => ?_) (fun h => absurd h (by decide))
        refine lv_aload_n C.1 C.2.1 dX4_putInto_84 rfl (lv_at hl 3 rfl) ?_
        refine lv_iload_n C.1 C.2.1 dX4_putInto_85 rfl (lv_at hl 6 rfl) ?_
        refine lv_iload C.1 C.2.1 dX4_putInto_86 (lv_at hl 7 rfl) ?_
        refine lv_iload C.1 C.2.1 dX4_putInto_88 (lv_at hl 8 rfl) ?_
        refine cm_cV0 (q0 := 0) 3 C (k_X4_goAlong1 l D cI cZ cJ ad X (va_up I 29 (nI (pathS (uM A w) (kM A w) s0 6 0 (hm1 s0 key) []).2.length)) (va_up A 30 (plA w (A 30) 0 (pathS (uM A w) (kM A w) s0 6 0 (hm1 s0 key) []).2)) w hw0 (pathS (uM A w) (kM A w) s0 6 0 (hm1 s0 key) []).2 ((pathS_ok (uM A w) (kM A w) s0 6 0 (hm1 s0 key) [] (by omega) (fun q hq => by cases hq)).2) ((pathS_ok (uM A w) (kM A w) s0 6 0 (hm1 s0 key) [] (by omega) (fun q hq => by cases hq)).1) rfl (fun i q hq => by have h := plA_get w (pathS (uM A w) (kM A w) s0 6 0 (hm1 s0 key) []).2 (A 30) 0 i q hq; rwa [Nat.zero_add] at h) key val t ⟨hok.1, hok.2.1, hok.2.2⟩) tw_624 tw_626 ts_23 tw_5 tw_627 rfl rfl (rfl) rfl (by decide +kernel) ⟨Nat.le_of_ble_eq_true rfl, Nat.le_of_ble_eq_true rfl⟩ ⟨Nat.zero_le _, Nat.zero_le _⟩ hP hD hS hl.1 rfl rfl (Nat.le_of_ble_eq_true rfl) dX4_putInto_90 (fun H locs hP hD hS => ?_)
        refine lv_iconst (v := nI 2) C.1 C.2.1 dX4_putInto_93 (by decide +kernel) ?_
        exact cr_iret C hP hD hS dX4_putInto_94 ⟨(va_up I 29 (nI (pathS (uM A w) (kM A w) s0 6 0 (hm1 s0 key) []).2.length)), (va_up A 30 (plA w (A 30) 0 (pathS (uM A w) (kM A w) s0 6 0 (hm1 s0 key) []).2)), fun i h29 => va_up_ne _ _ h29, fun i h30 => va_up_ne _ _ h30, by simp [ch0, e2, e3, e4], Or.inr (Or.inr ⟨by simp [ch0, e2, e3, e4], by simp only [ch0, e2, e3, e4, if_true, Bool.false_eq_true, if_false, mvS_len]; exact goT_enc (w := w) (A := (va_up A 30 (plA w (A 30) 0 (pathS (uM A w) (kM A w) s0 6 0 (hm1 s0 key) []).2))) (by omega) ((pathS_ok (uM A w) (kM A w) s0 6 0 (hm1 s0 key) [] (by omega) (fun q hq => by cases hq)).2) (fun i q hq => by have h := plA_get w (pathS (uM A w) (kM A w) s0 6 0 (hm1 s0 key) []).2 (A 30) 0 i q hq; rwa [Nat.zero_add] at h), by simp only [ch0, e2, e3, e4, if_true, Bool.false_eq_true, if_false, mvS_len]; rfl⟩)⟩
      · have e4 : (pathS (uM A w) (kM A w) s0 6 0 (hm1 s0 key) []).1 = false := by simpa using e4
        by_cases e5 : (pathS (uM A w) (kM A w) s0 6 0 (hm2 s0 key) []).1 = true
        · refine lv_iload_n C.1 C.2.1 dX4_putInto_0 rfl (lv_at hl 3 rfl) ?_
          refine lv_iload_n C.1 C.2.1 dX4_putInto_1 rfl (lv_at hl 2 rfl) ?_
          refine lv_iconst (v := nI 0) C.1 C.2.1 dX4_putInto_2 (by decide +kernel) ?_
          refine cm_cS1 3 C (k_X4_homeBy1 l D cI cZ cJ (mw ad cI cZ X I A) key s0) tw_572 tw_573 tw_5 tw_574 rfl rfl (by decide +kernel) ⟨Nat.le_of_ble_eq_true rfl, Nat.le_of_ble_eq_true rfl⟩ ⟨Nat.zero_le _, Nat.zero_le _⟩ hP hD hS hl.1 rfl rfl (Nat.le_of_ble_eq_true rfl) dX4_putInto_3 (fun H locs hP hD hS => ?_)
          refine lv_istore (lv' := [(6, _), (0, _), (1, _), (2, _), (3, _), (4, _), (5, _)]) C.1 C.2.1 dX4_putInto_6 hl (by decide) rfl (fun ls hl => ?_)
          refine lv_iload_n C.1 C.2.1 dX4_putInto_8 rfl (lv_at hl 4 rfl) ?_
          refine lv_iload_n C.1 C.2.1 dX4_putInto_9 rfl (lv_at hl 3 rfl) ?_
          refine lv_iconst (v := nI 1) C.1 C.2.1 dX4_putInto_10 (by decide +kernel) ?_
          refine cm_cS1 3 C (k_X4_homeBy2 l D cI cZ cJ (mw ad cI cZ X I A) key s0) tw_572 tw_573 tw_5 tw_574 rfl rfl (by decide +kernel) ⟨Nat.le_of_ble_eq_true rfl, Nat.le_of_ble_eq_true rfl⟩ ⟨Nat.zero_le _, Nat.zero_le _⟩ hP hD hS hl.1 rfl rfl (Nat.le_of_ble_eq_true rfl) dX4_putInto_11 (fun H locs hP hD hS => ?_)
          refine lv_istore (lv' := [(7, _), (6, _), (0, _), (1, _), (2, _), (3, _), (4, _), (5, _)]) C.1 C.2.1 dX4_putInto_14 hl (by decide) rfl (fun ls hl => ?_)
          refine lv_aload_n C.1 C.2.1 dX4_putInto_16 rfl (lv_at hl 2 rfl) ?_
          refine lv_iload_n C.1 C.2.1 dX4_putInto_17 rfl (lv_at hl 3 rfl) ?_
          refine lv_iload C.1 C.2.1 dX4_putInto_18 (lv_at hl 1 rfl) ?_
          refine cm_cV1 (q0 := 0) 2 C (k_X4_empty l D cI cZ cJ ad X I A w (hm1 s0 key) (by omega) (by omega)) tw_612 tw_614 ts_20 tw_5 tw_615 rfl rfl (rfl) rfl (by decide +kernel) ⟨Nat.le_of_ble_eq_true rfl, Nat.le_of_ble_eq_true rfl⟩ ⟨Nat.zero_le _, Nat.zero_le _⟩ hP hD hS hl.1 rfl rfl (Nat.le_of_ble_eq_true rfl) dX4_putInto_20 (fun H locs hP hD hS => ?_)
          rw [e2, optA_none]
          refine lv_istore (lv' := [(8, _), (7, _), (6, _), (0, _), (1, _), (2, _), (3, _), (4, _), (5, _)]) C.1 C.2.1 dX4_putInto_23 hl (by decide) rfl (fun ls hl => ?_)
          refine lv_iload C.1 C.2.1 dX4_putInto_25 (lv_at hl 0 rfl) ?_
          refine lv_if_ge (tgt := 40) C.1 C.2.1 dX4_putInto_27 (by decide) (fun h => absurd h (by decide)) (fun _ => ?_)
          refine lv_aload_n C.1 C.2.1 dX4_putInto_30 rfl (lv_at hl 3 rfl) ?_
          refine lv_iload_n C.1 C.2.1 dX4_putInto_31 rfl (lv_at hl 4 rfl) ?_
          refine lv_iload C.1 C.2.1 dX4_putInto_32 (lv_at hl 1 rfl) ?_
          refine cm_cV1 (q0 := 0) 2 C (k_X4_empty l D cI cZ cJ ad X I A w (hm2 s0 key) (by omega) (by omega)) tw_612 tw_614 ts_20 tw_5 tw_615 rfl rfl (rfl) rfl (by decide +kernel) ⟨Nat.le_of_ble_eq_true rfl, Nat.le_of_ble_eq_true rfl⟩ ⟨Nat.zero_le _, Nat.zero_le _⟩ hP hD hS hl.1 rfl rfl (Nat.le_of_ble_eq_true rfl) dX4_putInto_34 (fun H locs hP hD hS => ?_)
          rw [e3, optA_none]
          refine lv_goto (tgt := 42) C.1 C.2.1 dX4_putInto_37 (by decide) ?_
          refine lv_istore (lv' := [(8, _), (7, _), (6, _), (0, _), (1, _), (2, _), (3, _), (4, _), (5, _)]) C.1 C.2.1 dX4_putInto_42 hl (by decide) rfl (fun ls hl => ?_)
          refine lv_iload C.1 C.2.1 dX4_putInto_44 (lv_at hl 0 rfl) ?_
          refine lv_if_lt (tgt := 62) C.1 C.2.1 dX4_putInto_46 (by decide) (fun _ => ?_) (fun h => absurd (by decide) h)
          refine lv_aload_n C.1 C.2.1 dX4_putInto_62 rfl (lv_at hl 3 rfl) ?_
          refine lv_iload_n C.1 C.2.1 dX4_putInto_63 rfl (lv_at hl 4 rfl) ?_
          refine lv_iload_n C.1 C.2.1 dX4_putInto_64 rfl (lv_at hl 5 rfl) ?_
          refine lv_iload C.1 C.2.1 dX4_putInto_65 (lv_at hl 2 rfl) ?_
          refine cm_cV1 (q0 := 0) 3 C (k_X4_hasPath l D cI cZ cJ ad X I A w (hm1 s0 key) (by omega) (by omega) s0) tw_616 tw_618 ts_21 tw_5 tw_619 rfl rfl (rfl) rfl (by decide +kernel) ⟨Nat.le_of_ble_eq_true rfl, Nat.le_of_ble_eq_true rfl⟩ ⟨Nat.zero_le _, Nat.zero_le _⟩ hP hD hS hl.1 rfl rfl (Nat.le_of_ble_eq_true rfl) dX4_putInto_67 (fun H locs hP hD hS => ?_)
          rw [e4]
          refine lv_if_ne (tgt := 84) C.1 C.2.1 dX4_putInto_70 (by decide) (fun h => absurd (by decide) h) (fun _ => ?_)
          refine lv_aload_n C.1 C.2.1 dX4_putInto_73 rfl (lv_at hl 3 rfl) ?_
          refine lv_iload_n C.1 C.2.1 dX4_putInto_74 rfl (lv_at hl 4 rfl) ?_
          refine lv_iload_n C.1 C.2.1 dX4_putInto_75 rfl (lv_at hl 5 rfl) ?_
          refine lv_iload C.1 C.2.1 dX4_putInto_76 (lv_at hl 1 rfl) ?_
          refine cm_cV1 (q0 := 0) 3 C (k_X4_hasPath l D cI cZ cJ ad X (va_up I 29 (nI (pathS (uM A w) (kM A w) s0 6 0 (hm1 s0 key) []).2.length)) (va_up A 30 (plA w (A 30) 0 (pathS (uM A w) (kM A w) s0 6 0 (hm1 s0 key) []).2)) w (hm2 s0 key) (by omega) (by omega) s0) tw_616 tw_618 ts_21 tw_5 tw_619 rfl rfl (rfl) rfl (by decide +kernel) ⟨Nat.le_of_ble_eq_true rfl, Nat.le_of_ble_eq_true rfl⟩ ⟨Nat.zero_le _, Nat.zero_le _⟩ hP hD hS hl.1 rfl rfl (Nat.le_of_ble_eq_true rfl) dX4_putInto_78 (fun H locs hP hD hS => ?_)
          rw [show pathS (uM (va_up A 30 (plA w (A 30) 0 (pathS (uM A w) (kM A w) s0 6 0 (hm1 s0 key) []).2)) w) (kM (va_up A 30 (plA w (A 30) 0 (pathS (uM A w) (kM A w) s0 6 0 (hm1 s0 key) []).2)) w) s0 6 0 (hm2 s0 key) [] = (pathS (uM A w) (kM A w) s0 6 0 (hm2 s0 key) []) from rfl] at hP hD ⊢
          rw [e5]
          refine lv_if_eq (tgt := 95) C.1 C.2.1 dX4_putInto_81 (by decide) (fun h => absurd h (by decide)) (fun _ => ?_)
          refine lv_aload_n C.1 C.2.1 dX4_putInto_84 rfl (lv_at hl 3 rfl) ?_
          refine lv_iload_n C.1 C.2.1 dX4_putInto_85 rfl (lv_at hl 6 rfl) ?_
          refine lv_iload C.1 C.2.1 dX4_putInto_86 (lv_at hl 7 rfl) ?_
          refine lv_iload C.1 C.2.1 dX4_putInto_88 (lv_at hl 8 rfl) ?_
          refine cm_cV0 (q0 := 0) 3 C (k_X4_goAlong1 l D cI cZ cJ ad X (va_up (va_up I 29 (nI (pathS (uM A w) (kM A w) s0 6 0 (hm1 s0 key) []).2.length)) 29 (nI (pathS (uM A w) (kM A w) s0 6 0 (hm2 s0 key) []).2.length)) (va_up (va_up A 30 (plA w (A 30) 0 (pathS (uM A w) (kM A w) s0 6 0 (hm1 s0 key) []).2)) 30 (plA w ((va_up A 30 (plA w (A 30) 0 (pathS (uM A w) (kM A w) s0 6 0 (hm1 s0 key) []).2)) 30) 0 (pathS (uM A w) (kM A w) s0 6 0 (hm2 s0 key) []).2)) w hw0 (pathS (uM A w) (kM A w) s0 6 0 (hm2 s0 key) []).2 ((pathS_ok (uM A w) (kM A w) s0 6 0 (hm2 s0 key) [] (by omega) (fun q hq => by cases hq)).2) ((pathS_ok (uM A w) (kM A w) s0 6 0 (hm2 s0 key) [] (by omega) (fun q hq => by cases hq)).1) rfl (fun i q hq => by have h := plA_get w (pathS (uM A w) (kM A w) s0 6 0 (hm2 s0 key) []).2 ((va_up A 30 (plA w (A 30) 0 (pathS (uM A w) (kM A w) s0 6 0 (hm1 s0 key) []).2)) 30) 0 i q hq; rwa [Nat.zero_add] at h) key val t ⟨hok.1, hok.2.1, hok.2.2⟩) tw_624 tw_626 ts_23 tw_5 tw_627 rfl rfl (rfl) rfl (by decide +kernel) ⟨Nat.le_of_ble_eq_true rfl, Nat.le_of_ble_eq_true rfl⟩ ⟨Nat.zero_le _, Nat.zero_le _⟩ hP hD hS hl.1 rfl rfl (Nat.le_of_ble_eq_true rfl) dX4_putInto_90 (fun H locs hP hD hS => ?_)
          refine lv_iconst (v := nI 2) C.1 C.2.1 dX4_putInto_93 (by decide +kernel) ?_
          exact cr_iret C hP hD hS dX4_putInto_94 ⟨(va_up (va_up I 29 (nI (pathS (uM A w) (kM A w) s0 6 0 (hm1 s0 key) []).2.length)) 29 (nI (pathS (uM A w) (kM A w) s0 6 0 (hm2 s0 key) []).2.length)), (va_up (va_up A 30 (plA w (A 30) 0 (pathS (uM A w) (kM A w) s0 6 0 (hm1 s0 key) []).2)) 30 (plA w ((va_up A 30 (plA w (A 30) 0 (pathS (uM A w) (kM A w) s0 6 0 (hm1 s0 key) []).2)) 30) 0 (pathS (uM A w) (kM A w) s0 6 0 (hm2 s0 key) []).2)), fun i h29 => (va_up_ne _ _ h29).trans (va_up_ne _ _ h29), fun i h30 => (va_up_ne _ _ h30).trans (va_up_ne _ _ h30), by simp [ch0, e2, e3, e4, e5], Or.inr (Or.inr ⟨by simp [ch0, e2, e3, e4, e5], by simp only [ch0, e2, e3, e4, e5, if_true, Bool.false_eq_true, if_false, mvS_len]; exact goT_enc (w := w) (A := (va_up (va_up A 30 (plA w (A 30) 0 (pathS (uM A w) (kM A w) s0 6 0 (hm1 s0 key) []).2)) 30 (plA w ((va_up A 30 (plA w (A 30) 0 (pathS (uM A w) (kM A w) s0 6 0 (hm1 s0 key) []).2)) 30) 0 (pathS (uM A w) (kM A w) s0 6 0 (hm2 s0 key) []).2))) (by omega) ((pathS_ok (uM A w) (kM A w) s0 6 0 (hm2 s0 key) [] (by omega) (fun q hq => by cases hq)).2) (fun i q hq => by have h := plA_get w (pathS (uM A w) (kM A w) s0 6 0 (hm2 s0 key) []).2 ((va_up A 30 (plA w (A 30) 0 (pathS (uM A w) (kM A w) s0 6 0 (hm1 s0 key) []).2)) 30) 0 i q hq; rwa [Nat.zero_add] at h), by simp only [ch0, e2, e3, e4, e5, if_true, Bool.false_eq_true, if_false, mvS_len]; rfl⟩)⟩
        · have e5 : (pathS (uM A w) (kM A w) s0 6 0 (hm2 s0 key) []).1 = false := by simpa using e5
          cases e6 : emS (uM A w) 8 with
          | some p9 =>
            have q3 := (emS_lt e6 (by omega)).1
            refine lv_iload_n C.1 C.2.1 dX4_putInto_0 rfl (lv_at hl 3 rfl) ?_
            refine lv_iload_n C.1 C.2.1 dX4_putInto_1 rfl (lv_at hl 2 rfl) ?_
            refine lv_iconst (v := nI 0) C.1 C.2.1 dX4_putInto_2 (by decide +kernel) ?_
            refine cm_cS1 3 C (k_X4_homeBy1 l D cI cZ cJ (mw ad cI cZ X I A) key s0) tw_572 tw_573 tw_5 tw_574 rfl rfl (by decide +kernel) ⟨Nat.le_of_ble_eq_true rfl, Nat.le_of_ble_eq_true rfl⟩ ⟨Nat.zero_le _, Nat.zero_le _⟩ hP hD hS hl.1 rfl rfl (Nat.le_of_ble_eq_true rfl) dX4_putInto_3 (fun H locs hP hD hS => ?_)
            refine lv_istore (lv' := [(6, _), (0, _), (1, _), (2, _), (3, _), (4, _), (5, _)]) C.1 C.2.1 dX4_putInto_6 hl (by decide) rfl (fun ls hl => ?_)
            refine lv_iload_n C.1 C.2.1 dX4_putInto_8 rfl (lv_at hl 4 rfl) ?_
            refine lv_iload_n C.1 C.2.1 dX4_putInto_9 rfl (lv_at hl 3 rfl) ?_
            refine lv_iconst (v := nI 1) C.1 C.2.1 dX4_putInto_10 (by decide +kernel) ?_
            refine cm_cS1 3 C (k_X4_homeBy2 l D cI cZ cJ (mw ad cI cZ X I A) key s0) tw_572 tw_573 tw_5 tw_574 rfl rfl (by decide +kernel) ⟨Nat.le_of_ble_eq_true rfl, Nat.le_of_ble_eq_true rfl⟩ ⟨Nat.zero_le _, Nat.zero_le _⟩ hP hD hS hl.1 rfl rfl (Nat.le_of_ble_eq_true rfl) dX4_putInto_11 (fun H locs hP hD hS => ?_)
            refine lv_istore (lv' := [(7, _), (6, _), (0, _), (1, _), (2, _), (3, _), (4, _), (5, _)]) C.1 C.2.1 dX4_putInto_14 hl (by decide) rfl (fun ls hl => ?_)
            refine lv_aload_n C.1 C.2.1 dX4_putInto_16 rfl (lv_at hl 2 rfl) ?_
            refine lv_iload_n C.1 C.2.1 dX4_putInto_17 rfl (lv_at hl 3 rfl) ?_
            refine lv_iload C.1 C.2.1 dX4_putInto_18 (lv_at hl 1 rfl) ?_
            refine cm_cV1 (q0 := 0) 2 C (k_X4_empty l D cI cZ cJ ad X I A w (hm1 s0 key) (by omega) (by omega)) tw_612 tw_614 ts_20 tw_5 tw_615 rfl rfl (rfl) rfl (by decide +kernel) ⟨Nat.le_of_ble_eq_true rfl, Nat.le_of_ble_eq_true rfl⟩ ⟨Nat.zero_le _, Nat.zero_le _⟩ hP hD hS hl.1 rfl rfl (Nat.le_of_ble_eq_true rfl) dX4_putInto_20 (fun H locs hP hD hS => ?_)
            rw [e2, optA_none]
            refine lv_istore (lv' := [(8, _), (7, _), (6, _), (0, _), (1, _), (2, _), (3, _), (4, _), (5, _)]) C.1 C.2.1 dX4_putInto_23 hl (by decide) rfl (fun ls hl => ?_)
            refine lv_iload C.1 C.2.1 dX4_putInto_25 (lv_at hl 0 rfl) ?_
            refine lv_if_ge (tgt := 40) C.1 C.2.1 dX4_putInto_27 (by decide) (fun h => absurd h (by decide)) (fun _ => ?_)
            refine lv_aload_n C.1 C.2.1 dX4_putInto_30 rfl (lv_at hl 3 rfl) ?_
            refine lv_iload_n C.1 C.2.1 dX4_putInto_31 rfl (lv_at hl 4 rfl) ?_
            refine lv_iload C.1 C.2.1 dX4_putInto_32 (lv_at hl 1 rfl) ?_
            refine cm_cV1 (q0 := 0) 2 C (k_X4_empty l D cI cZ cJ ad X I A w (hm2 s0 key) (by omega) (by omega)) tw_612 tw_614 ts_20 tw_5 tw_615 rfl rfl (rfl) rfl (by decide +kernel) ⟨Nat.le_of_ble_eq_true rfl, Nat.le_of_ble_eq_true rfl⟩ ⟨Nat.zero_le _, Nat.zero_le _⟩ hP hD hS hl.1 rfl rfl (Nat.le_of_ble_eq_true rfl) dX4_putInto_34 (fun H locs hP hD hS => ?_)
            rw [e3, optA_none]
            refine lv_goto (tgt := 42) C.1 C.2.1 dX4_putInto_37 (by decide) ?_
            refine lv_istore (lv' := [(8, _), (7, _), (6, _), (0, _), (1, _), (2, _), (3, _), (4, _), (5, _)]) C.1 C.2.1 dX4_putInto_42 hl (by decide) rfl (fun ls hl => ?_)
            refine lv_iload C.1 C.2.1 dX4_putInto_44 (lv_at hl 0 rfl) ?_
            refine lv_if_lt (tgt := 62) C.1 C.2.1 dX4_putInto_46 (by decide) (fun _ => ?_) (fun h => absurd (by decide) h)
            refine lv_aload_n C.1 C.2.1 dX4_putInto_62 rfl (lv_at hl 3 rfl) ?_
            refine lv_iload_n C.1 C.2.1 dX4_putInto_63 rfl (lv_at hl 4 rfl) ?_
            refine lv_iload_n C.1 C.2.1 dX4_putInto_64 rfl (lv_at hl 5 rfl) ?_
            refine lv_iload C.1 C.2.1 dX4_putInto_65 (lv_at hl 2 rfl) ?_
            refine cm_cV1 (q0 := 0) 3 C (k_X4_hasPath l D cI cZ cJ ad X I A w (hm1 s0 key) (by omega) (by omega) s0) tw_616 tw_618 ts_21 tw_5 tw_619 rfl rfl (rfl) rfl (by decide +kernel) ⟨Nat.le_of_ble_eq_true rfl, Nat.le_of_ble_eq_true rfl⟩ ⟨Nat.zero_le _, Nat.zero_le _⟩ hP hD hS hl.1 rfl rfl (Nat.le_of_ble_eq_true rfl) dX4_putInto_67 (fun H locs hP hD hS => ?_)
            rw [e4]
            refine lv_if_ne (tgt := 84) C.1 C.2.1 dX4_putInto_70 (by decide) (fun h => absurd (by decide) h) (fun _ => ?_)
            refine lv_aload_n C.1 C.2.1 dX4_putInto_73 rfl (lv_at hl 3 rfl) ?_
            refine lv_iload_n C.1 C.2.1 dX4_putInto_74 rfl (lv_at hl 4 rfl) ?_
            refine lv_iload_n C.1 C.2.1 dX4_putInto_75 rfl (lv_at hl 5 rfl) ?_
            refine lv_iload C.1 C.2.1 dX4_putInto_76 (lv_at hl 1 rfl) ?_
            refine cm_cV1 (q0 := 0) 3 C (k_X4_hasPath l D cI cZ cJ ad X (va_up I 29 (nI (pathS (uM A w) (kM A w) s0 6 0 (hm1 s0 key) []).2.length)) (va_up A 30 (plA w (A 30) 0 (pathS (uM A w) (kM A w) s0 6 0 (hm1 s0 key) []).2)) w (hm2 s0 key) (by omega) (by omega) s0) tw_616 tw_618 ts_21 tw_5 tw_619 rfl rfl (rfl) rfl (by decide +kernel) ⟨Nat.le_of_ble_eq_true rfl, Nat.le_of_ble_eq_true rfl⟩ ⟨Nat.zero_le _, Nat.zero_le _⟩ hP hD hS hl.1 rfl rfl (Nat.le_of_ble_eq_true rfl) dX4_putInto_78 (fun H locs hP hD hS => ?_)
            rw [show pathS (uM (va_up A 30 (plA w (A 30) 0 (pathS (uM A w) (kM A w) s0 6 0 (hm1 s0 key) []).2)) w) (kM (va_up A 30 (plA w (A 30) 0 (pathS (uM A w) (kM A w) s0 6 0 (hm1 s0 key) []).2)) w) s0 6 0 (hm2 s0 key) [] = (pathS (uM A w) (kM A w) s0 6 0 (hm2 s0 key) []) from rfl] at hP hD ⊢
            rw [e5]
            refine lv_if_eq (tgt := 95) C.1 C.2.1 dX4_putInto_81 (by decide) (fun _ => ?_) (fun h => absurd (by decide) h)
            refine lv_aload_n C.1 C.2.1 dX4_putInto_95 rfl (lv_at hl 3 rfl) ?_
            refine lv_iload_n C.1 C.2.1 dX4_putInto_96 rfl (lv_at hl 4 rfl) ?_
            refine lv_bipush (v := nI 8) C.1 C.2.1 dX4_putInto_97 (by decide +kernel) ?_
            refine cm_cV1 (q0 := 0) 2 C (k_X4_empty l D cI cZ cJ ad X (va_up (va_up I 29 (nI (pathS (uM A w) (kM A w) s0 6 0 (hm1 s0 key) []).2.length)) 29 (nI (pathS (uM A w) (kM A w) s0 6 0 (hm2 s0 key) []).2.length)) (va_up (va_up A 30 (plA w (A 30) 0 (pathS (uM A w) (kM A w) s0 6 0 (hm1 s0 key) []).2)) 30 (plA w ((va_up A 30 (plA w (A 30) 0 (pathS (uM A w) (kM A w) s0 6 0 (hm1 s0 key) []).2)) 30) 0 (pathS (uM A w) (kM A w) s0 6 0 (hm2 s0 key) []).2)) w 8 (by omega) (by omega)) tw_612 tw_614 ts_20 tw_5 tw_615 rfl rfl (rfl) rfl (by decide +kernel) ⟨Nat.le_of_ble_eq_true rfl, Nat.le_of_ble_eq_true rfl⟩ ⟨Nat.zero_le _, Nat.zero_le _⟩ hP hD hS hl.1 rfl rfl (Nat.le_of_ble_eq_true rfl) dX4_putInto_99 (fun H locs hP hD hS => ?_)
            rw [show emS (uM (va_up (va_up A 30 (plA w (A 30) 0 (pathS (uM A w) (kM A w) s0 6 0 (hm1 s0 key) []).2)) 30 (plA w ((va_up A 30 (plA w (A 30) 0 (pathS (uM A w) (kM A w) s0 6 0 (hm1 s0 key) []).2)) 30) 0 (pathS (uM A w) (kM A w) s0 6 0 (hm2 s0 key) []).2)) w) 8 = emS (uM A w) 8 from rfl, e6, optA_some]
            refine lv_istore (lv' := [(8, _), (7, _), (6, _), (0, _), (1, _), (2, _), (3, _), (4, _), (5, _)]) C.1 C.2.1 dX4_putInto_102 hl (by decide) rfl (fun ls hl => ?_)
            refine lv_iload C.1 C.2.1 dX4_putInto_104 (lv_at hl 0 rfl) ?_
            refine lv_if_ge (tgt := 112) C.1 C.2.1 dX4_putInto_106 (by decide) (fun _ => ?_) (fun h => absurd (nI_pos' (by omega)) h)
            refine lv_aload_n C.1 C.2.1 dX4_putInto_112 rfl (lv_at hl 3 rfl) ?_
            refine lv_iload C.1 C.2.1 dX4_putInto_113 (lv_at hl 0 rfl) ?_
            refine lv_iload_n C.1 C.2.1 dX4_putInto_115 rfl (lv_at hl 6 rfl) ?_
            refine lv_iload C.1 C.2.1 dX4_putInto_116 (lv_at hl 7 rfl) ?_
            refine lv_iload C.1 C.2.1 dX4_putInto_118 (lv_at hl 8 rfl) ?_
            refine cm_cV0 (q0 := 0) 4 C (k_X4_fill1 l D cI cZ cJ ad X (va_up (va_up I 29 (nI (pathS (uM A w) (kM A w) s0 6 0 (hm1 s0 key) []).2.length)) 29 (nI (pathS (uM A w) (kM A w) s0 6 0 (hm2 s0 key) []).2.length)) (va_up (va_up A 30 (plA w (A 30) 0 (pathS (uM A w) (kM A w) s0 6 0 (hm1 s0 key) []).2)) 30 (plA w ((va_up A 30 (plA w (A 30) 0 (pathS (uM A w) (kM A w) s0 6 0 (hm1 s0 key) []).2)) 30) 0 (pathS (uM A w) (kM A w) s0 6 0 (hm2 s0 key) []).2)) t hok.1 hok.2.1 hok.2.2 (36 * w + p9) (by omega) key val) tw_588 tw_590 ts_14 tw_5 tw_591 rfl rfl (rfl) rfl (by decide +kernel) ⟨Nat.le_of_ble_eq_true rfl, Nat.le_of_ble_eq_true rfl⟩ ⟨Nat.zero_le _, Nat.zero_le _⟩ hP hD hS hl.1 rfl rfl (Nat.le_of_ble_eq_true rfl) dX4_putInto_120 (fun H locs hP hD hS => ?_)
            refine lv_iconst (v := nI 3) C.1 C.2.1 dX4_putInto_123 (by decide +kernel) ?_
            exact cr_iret C hP hD hS dX4_putInto_124 ⟨(va_up (va_up I 29 (nI (pathS (uM A w) (kM A w) s0 6 0 (hm1 s0 key) []).2.length)) 29 (nI (pathS (uM A w) (kM A w) s0 6 0 (hm2 s0 key) []).2.length)), (va_up (va_up A 30 (plA w (A 30) 0 (pathS (uM A w) (kM A w) s0 6 0 (hm1 s0 key) []).2)) 30 (plA w ((va_up A 30 (plA w (A 30) 0 (pathS (uM A w) (kM A w) s0 6 0 (hm1 s0 key) []).2)) 30) 0 (pathS (uM A w) (kM A w) s0 6 0 (hm2 s0 key) []).2)), fun i h29 => (va_up_ne _ _ h29).trans (va_up_ne _ _ h29), fun i h30 => (va_up_ne _ _ h30).trans (va_up_ne _ _ h30), by simp [ch0, e2, e3, e4, e5, e6], Or.inr (Or.inl ⟨p9, by simp [ch0, e2, e3, e4, e5, e6], q3, by simp [ch0, e2, e3, e4, e5, e6], rfl⟩)⟩
          | none =>
            refine lv_iload_n C.1 C.2.1 dX4_putInto_0 rfl (lv_at hl 3 rfl) ?_
            refine lv_iload_n C.1 C.2.1 dX4_putInto_1 rfl (lv_at hl 2 rfl) ?_
            refine lv_iconst (v := nI 0) C.1 C.2.1 dX4_putInto_2 (by decide +kernel) ?_
            refine cm_cS1 3 C (k_X4_homeBy1 l D cI cZ cJ (mw ad cI cZ X I A) key s0) tw_572 tw_573 tw_5 tw_574 rfl rfl (by decide +kernel) ⟨Nat.le_of_ble_eq_true rfl, Nat.le_of_ble_eq_true rfl⟩ ⟨Nat.zero_le _, Nat.zero_le _⟩ hP hD hS hl.1 rfl rfl (Nat.le_of_ble_eq_true rfl) dX4_putInto_3 (fun H locs hP hD hS => ?_)
            refine lv_istore (lv' := [(6, _), (0, _), (1, _), (2, _), (3, _), (4, _), (5, _)]) C.1 C.2.1 dX4_putInto_6 hl (by decide) rfl (fun ls hl => ?_)
            refine lv_iload_n C.1 C.2.1 dX4_putInto_8 rfl (lv_at hl 4 rfl) ?_
            refine lv_iload_n C.1 C.2.1 dX4_putInto_9 rfl (lv_at hl 3 rfl) ?_
            refine lv_iconst (v := nI 1) C.1 C.2.1 dX4_putInto_10 (by decide +kernel) ?_
            refine cm_cS1 3 C (k_X4_homeBy2 l D cI cZ cJ (mw ad cI cZ X I A) key s0) tw_572 tw_573 tw_5 tw_574 rfl rfl (by decide +kernel) ⟨Nat.le_of_ble_eq_true rfl, Nat.le_of_ble_eq_true rfl⟩ ⟨Nat.zero_le _, Nat.zero_le _⟩ hP hD hS hl.1 rfl rfl (Nat.le_of_ble_eq_true rfl) dX4_putInto_11 (fun H locs hP hD hS => ?_)
            refine lv_istore (lv' := [(7, _), (6, _), (0, _), (1, _), (2, _), (3, _), (4, _), (5, _)]) C.1 C.2.1 dX4_putInto_14 hl (by decide) rfl (fun ls hl => ?_)
            refine lv_aload_n C.1 C.2.1 dX4_putInto_16 rfl (lv_at hl 2 rfl) ?_
            refine lv_iload_n C.1 C.2.1 dX4_putInto_17 rfl (lv_at hl 3 rfl) ?_
            refine lv_iload C.1 C.2.1 dX4_putInto_18 (lv_at hl 1 rfl) ?_
            refine cm_cV1 (q0 := 0) 2 C (k_X4_empty l D cI cZ cJ ad X I A w (hm1 s0 key) (by omega) (by omega)) tw_612 tw_614 ts_20 tw_5 tw_615 rfl rfl (rfl) rfl (by decide +kernel) ⟨Nat.le_of_ble_eq_true rfl, Nat.le_of_ble_eq_true rfl⟩ ⟨Nat.zero_le _, Nat.zero_le _⟩ hP hD hS hl.1 rfl rfl (Nat.le_of_ble_eq_true rfl) dX4_putInto_20 (fun H locs hP hD hS => ?_)
            rw [e2, optA_none]
            refine lv_istore (lv' := [(8, _), (7, _), (6, _), (0, _), (1, _), (2, _), (3, _), (4, _), (5, _)]) C.1 C.2.1 dX4_putInto_23 hl (by decide) rfl (fun ls hl => ?_)
            refine lv_iload C.1 C.2.1 dX4_putInto_25 (lv_at hl 0 rfl) ?_
            refine lv_if_ge (tgt := 40) C.1 C.2.1 dX4_putInto_27 (by decide) (fun h => absurd h (by decide)) (fun _ => ?_)
            refine lv_aload_n C.1 C.2.1 dX4_putInto_30 rfl (lv_at hl 3 rfl) ?_
            refine lv_iload_n C.1 C.2.1 dX4_putInto_31 rfl (lv_at hl 4 rfl) ?_
            refine lv_iload C.1 C.2.1 dX4_putInto_32 (lv_at hl 1 rfl) ?_
            refine cm_cV1 (q0 := 0) 2 C (k_X4_empty l D cI cZ cJ ad X I A w (hm2 s0 key) (by omega) (by omega)) tw_612 tw_614 ts_20 tw_5 tw_615 rfl rfl (rfl) rfl (by decide +kernel) ⟨Nat.le_of_ble_eq_true rfl, Nat.le_of_ble_eq_true rfl⟩ ⟨Nat.zero_le _, Nat.zero_le _⟩ hP hD hS hl.1 rfl rfl (Nat.le_of_ble_eq_true rfl) dX4_putInto_34 (fun H locs hP hD hS => ?_)
            rw [e3, optA_none]
            refine lv_goto (tgt := 42) C.1 C.2.1 dX4_putInto_37 (by decide) ?_
            refine lv_istore (lv' := [(8, _), (7, _), (6, _), (0, _), (1, _), (2, _), (3, _), (4, _), (5, _)]) C.1 C.2.1 dX4_putInto_42 hl (by decide) rfl (fun ls hl => ?_)
            refine lv_iload C.1 C.2.1 dX4_putInto_44 (lv_at hl 0 rfl) ?_
            refine lv_if_lt (tgt := 62) C.1 C.2.1 dX4_putInto_46 (by decide) (fun _ => ?_) (fun h => absurd (by decide) h)
            refine lv_aload_n C.1 C.2.1 dX4_putInto_62 rfl (lv_at hl 3 rfl) ?_
            refine lv_iload_n C.1 C.2.1 dX4_putInto_63 rfl (lv_at hl 4 rfl) ?_
            refine lv_iload_n C.1 C.2.1 dX4_putInto_64 rfl (lv_at hl 5 rfl) ?_
            refine lv_iload C.1 C.2.1 dX4_putInto_65 (lv_at hl 2 rfl) ?_
            refine cm_cV1 (q0 := 0) 3 C (k_X4_hasPath l D cI cZ cJ ad X I A w (hm1 s0 key) (by omega) (by omega) s0) tw_616 tw_618 ts_21 tw_5 tw_619 rfl rfl (rfl) rfl (by decide +kernel) ⟨Nat.le_of_ble_eq_true rfl, Nat.le_of_ble_eq_true rfl⟩ ⟨Nat.zero_le _, Nat.zero_le _⟩ hP hD hS hl.1 rfl rfl (Nat.le_of_ble_eq_true rfl) dX4_putInto_67 (fun H locs hP hD hS => ?_)
            rw [e4]
            refine lv_if_ne (tgt := 84) C.1 C.2.1 dX4_putInto_70 (by decide) (fun h => absurd (by decide) h) (fun _ => ?_)
            refine lv_aload_n C.1 C.2.1 dX4_putInto_73 rfl (lv_at hl 3 rfl) ?_
            refine lv_iload_n C.1 C.2.1 dX4_putInto_74 rfl (lv_at hl 4 rfl) ?_
            refine lv_iload_n C.1 C.2.1 dX4_putInto_75 rfl (lv_at hl 5 rfl) ?_
            refine lv_iload C.1 C.2.1 dX4_putInto_76 (lv_at hl 1 rfl) ?_
            refine cm_cV1 (q0 := 0) 3 C (k_X4_hasPath l D cI cZ cJ ad X (va_up I 29 (nI (pathS (uM A w) (kM A w) s0 6 0 (hm1 s0 key) []).2.length)) (va_up A 30 (plA w (A 30) 0 (pathS (uM A w) (kM A w) s0 6 0 (hm1 s0 key) []).2)) w (hm2 s0 key) (by omega) (by omega) s0) tw_616 tw_618 ts_21 tw_5 tw_619 rfl rfl (rfl) rfl (by decide +kernel) ⟨Nat.le_of_ble_eq_true rfl, Nat.le_of_ble_eq_true rfl⟩ ⟨Nat.zero_le _, Nat.zero_le _⟩ hP hD hS hl.1 rfl rfl (Nat.le_of_ble_eq_true rfl) dX4_putInto_78 (fun H locs hP hD hS => ?_)
            rw [show pathS (uM (va_up A 30 (plA w (A 30) 0 (pathS (uM A w) (kM A w) s0 6 0 (hm1 s0 key) []).2)) w) (kM (va_up A 30 (plA w (A 30) 0 (pathS (uM A w) (kM A w) s0 6 0 (hm1 s0 key) []).2)) w) s0 6 0 (hm2 s0 key) [] = (pathS (uM A w) (kM A w) s0 6 0 (hm2 s0 key) []) from rfl] at hP hD ⊢
            rw [e5]
            refine lv_if_eq (tgt := 95) C.1 C.2.1 dX4_putInto_81 (by decide) (fun _ => ?_) (fun h => absurd (by decide) h)
            refine lv_aload_n C.1 C.2.1 dX4_putInto_95 rfl (lv_at hl 3 rfl) ?_
            refine lv_iload_n C.1 C.2.1 dX4_putInto_96 rfl (lv_at hl 4 rfl) ?_
            refine lv_bipush (v := nI 8) C.1 C.2.1 dX4_putInto_97 (by decide +kernel) ?_
            refine cm_cV1 (q0 := 0) 2 C (k_X4_empty l D cI cZ cJ ad X (va_up (va_up I 29 (nI (pathS (uM A w) (kM A w) s0 6 0 (hm1 s0 key) []).2.length)) 29 (nI (pathS (uM A w) (kM A w) s0 6 0 (hm2 s0 key) []).2.length)) (va_up (va_up A 30 (plA w (A 30) 0 (pathS (uM A w) (kM A w) s0 6 0 (hm1 s0 key) []).2)) 30 (plA w ((va_up A 30 (plA w (A 30) 0 (pathS (uM A w) (kM A w) s0 6 0 (hm1 s0 key) []).2)) 30) 0 (pathS (uM A w) (kM A w) s0 6 0 (hm2 s0 key) []).2)) w 8 (by omega) (by omega)) tw_612 tw_614 ts_20 tw_5 tw_615 rfl rfl (rfl) rfl (by decide +kernel) ⟨Nat.le_of_ble_eq_true rfl, Nat.le_of_ble_eq_true rfl⟩ ⟨Nat.zero_le _, Nat.zero_le _⟩ hP hD hS hl.1 rfl rfl (Nat.le_of_ble_eq_true rfl) dX4_putInto_99 (fun H locs hP hD hS => ?_)
            rw [show emS (uM (va_up (va_up A 30 (plA w (A 30) 0 (pathS (uM A w) (kM A w) s0 6 0 (hm1 s0 key) []).2)) 30 (plA w ((va_up A 30 (plA w (A 30) 0 (pathS (uM A w) (kM A w) s0 6 0 (hm1 s0 key) []).2)) 30) 0 (pathS (uM A w) (kM A w) s0 6 0 (hm2 s0 key) []).2)) w) 8 = emS (uM A w) 8 from rfl, e6, optA_none]
            refine lv_istore (lv' := [(8, _), (7, _), (6, _), (0, _), (1, _), (2, _), (3, _), (4, _), (5, _)]) C.1 C.2.1 dX4_putInto_102 hl (by decide) rfl (fun ls hl => ?_)
            refine lv_iload C.1 C.2.1 dX4_putInto_104 (lv_at hl 0 rfl) ?_
            refine lv_if_ge (tgt := 112) C.1 C.2.1 dX4_putInto_106 (by decide) (fun h => absurd h (by decide)) (fun _ => ?_)
            refine lv_bipush (v := (-2)) C.1 C.2.1 dX4_putInto_109 (by decide +kernel) ?_
            exact cr_iret C hP hD hS dX4_putInto_111 ⟨(va_up (va_up I 29 (nI (pathS (uM A w) (kM A w) s0 6 0 (hm1 s0 key) []).2.length)) 29 (nI (pathS (uM A w) (kM A w) s0 6 0 (hm2 s0 key) []).2.length)), (va_up (va_up A 30 (plA w (A 30) 0 (pathS (uM A w) (kM A w) s0 6 0 (hm1 s0 key) []).2)) 30 (plA w ((va_up A 30 (plA w (A 30) 0 (pathS (uM A w) (kM A w) s0 6 0 (hm1 s0 key) []).2)) 30) 0 (pathS (uM A w) (kM A w) s0 6 0 (hm2 s0 key) []).2)), fun i h29 => (va_up_ne _ _ h29).trans (va_up_ne _ _ h29), fun i h30 => (va_up_ne _ _ h30).trans (va_up_ne _ _ h30), by simp [ch0, e2, e3, e4, e5, e6], Or.inl ⟨by simp [ch0, e2, e3, e4, e5, e6], rfl⟩⟩
