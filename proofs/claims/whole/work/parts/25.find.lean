theorem optA_some (z i : Nat) : optA z (some i) = nI (36 * z + i) := rfl
theorem optA_none (z : Nat) : optA z none = -1 := rfl
/-! ===== moves told in a row, and the class's search: find, nextOnPath, layPath, choose ===== -/
def encA (z : Nat) : (Nat → Int32) → Nat → List (Nat × Int32 × Int32) → (Nat → Int32)
  | fm, _, [] => fm
  | fm, t, m :: M => encA z (addM fm t (nI (36 * z + m.1)) m.2.1 m.2.2) (t + 1) M
theorem encA_app (z : Nat) (m : Nat × Int32 × Int32) : ∀ (M : List (Nat × Int32 × Int32)) (fm : Nat → Int32) (t : Nat), encA z fm t (M ++ [m]) = addM (encA z fm t M) (t + M.length) (nI (36 * z + m.1)) m.2.1 m.2.2 := by
  intro M
  induction M with
  | nil => intro fm t; rfl
  | cons a M ih =>
    intro fm t
    simp only [List.cons_append, encA, List.length_cons]
    rw [ih, show t + 1 + M.length = t + (M.length + 1) by omega]
theorem addM_0 (fm : Nat → Int32) (t : Nat) (a k v : Int32) : addM fm t a k v 0 = nI (t + 1) := by simp [addM, upd]
theorem addM_old (fm : Nat → Int32) (t : Nat) (a k v : Int32) (i j : Nat) (hi : 1 ≤ i) (hi2 : i ≤ 3) (hj : j < t) : addM fm t a k v (i + j * 3) = fm (i + j * 3) := by
  unfold addM
  rw [pk_un (by omega), pk_un (by omega), pk_un (by omega), pk_un (by omega)]
theorem addM_1 (fm : Nat → Int32) (t : Nat) (a k v : Int32) : addM fm t a k v (1 + t * 3) = a := by
  unfold addM
  rw [pk_un (by omega), pk_un (by omega), pk_un (by omega), pk_us]
theorem addM_2 (fm : Nat → Int32) (t : Nat) (a k v : Int32) : addM fm t a k v (2 + t * 3) = k := by
  unfold addM
  rw [pk_un (by omega), pk_un (by omega), pk_us]
theorem addM_3 (fm : Nat → Int32) (t : Nat) (a k v : Int32) : addM fm t a k v (3 + t * 3) = v := by
  unfold addM
  rw [pk_un (by omega), pk_us]
theorem encA_0 (z : Nat) : ∀ (M : List (Nat × Int32 × Int32)) (fm : Nat → Int32) (t : Nat), fm 0 = nI t → encA z fm t M 0 = nI (t + M.length) := by
  intro M
  induction M with
  | nil => intro fm t h; exact h
  | cons a M ih =>
    intro fm t h
    simp only [encA, List.length_cons]
    rw [ih _ _ (addM_0 _ _ _ _ _), show t + 1 + M.length = t + (M.length + 1) by omega]
theorem encA_old (z i j : Nat) (hi : 1 ≤ i) (hi2 : i ≤ 3) : ∀ (M : List (Nat × Int32 × Int32)) (fm : Nat → Int32) (t : Nat), j < t → encA z fm t M (i + j * 3) = fm (i + j * 3) := by
  intro M
  induction M with
  | nil => intro fm t h; rfl
  | cons a M ih =>
    intro fm t h
    simp only [encA]
    rw [ih _ _ (by omega), addM_old _ _ _ _ _ _ _ hi hi2 h]
theorem encA_get (z : Nat) : ∀ (M : List (Nat × Int32 × Int32)) (fm : Nat → Int32) (t j : Nat) (m : Nat × Int32 × Int32), M[j]? = some m → encA z fm t M (1 + (t + j) * 3) = nI (36 * z + m.1) ∧ encA z fm t M (2 + (t + j) * 3) = m.2.1 ∧ encA z fm t M (3 + (t + j) * 3) = m.2.2 := by
  intro M
  induction M with
  | nil => intro fm t j m h; simp at h
  | cons a M ih =>
    intro fm t j m h
    simp only [encA]
    cases j with
    | zero =>
      have h : a = m := by simpa using h
      subst h
      simp only [Nat.add_zero]
      refine ⟨?_, ?_, ?_⟩
      · rw [encA_old z 1 t (by omega) (by omega) M _ (t + 1) (by omega)]; exact addM_1 _ _ _ _ _
      · rw [encA_old z 2 t (by omega) (by omega) M _ (t + 1) (by omega)]; exact addM_2 _ _ _ _ _
      · rw [encA_old z 3 t (by omega) (by omega) M _ (t + 1) (by omega)]; exact addM_3 _ _ _ _ _
    | succ j =>
      have h : M[j]? = some m := by simpa using h
      rw [show t + (j + 1) = t + 1 + j by omega]
      exact ih _ _ j m h
theorem mvS_get (k v : Nat → Int32) : ∀ (L : List Nat) (a b : Int32) (j : Nat), ((mvS k v a b L)[j]?).map (·.1) = L[j]? := by
  intro L
  induction L with
  | nil => intro a b j; simp [mvS]
  | cons q L ih =>
    intro a b j
    cases j with
    | zero => simp [mvS]
    | succ j => simp only [mvS, List.getElem?_cons_succ]; exact ih _ _ j
theorem anyB_iff (P : Nat → Bool) : ∀ (k j : Nat), anyB P j k = true ↔ ∃ i, j ≤ i ∧ i < j + k ∧ P i = true := by
  intro k
  induction k with
  | zero => intro j; constructor
            · intro h; cases h
            · rintro ⟨i, h1, h2, -⟩; omega
  | succ k ih =>
    intro j
    simp only [anyB, Bool.or_eq_true, ih]
    constructor
    · rintro (h | ⟨i, h1, h2, h3⟩)
      · exact ⟨j, Nat.le_refl j, by omega, h⟩
      · exact ⟨i, by omega, by omega, h3⟩
    · rintro ⟨i, h1, h2, h3⟩
      rcases Nat.lt_or_ge j i with q | q
      · exact Or.inr ⟨i, by omega, by omega, h3⟩
      · obtain rfl : i = j := by omega
        exact Or.inl h3
theorem says_iff (z : Nat) (hz : z < 2) (fm0 : Nat → Int32) (k v : Nat → Int32) (a b : Int32) (L : List Nat) (hL : ∀ q ∈ L, q < 36) (q : Nat) (hq : q < 36) : anyB (saysP (encA z fm0 0 (mvS k v a b L)) (nI (36 * z + q))) 0 L.length = decide (q ∈ L) := by
  rw [Bool.eq_iff_iff, anyB_iff, decide_eq_true_eq]
  have key : ∀ i p, L[i]? = some p → encA z fm0 0 (mvS k v a b L) (1 + i * 3) = nI (36 * z + p) := by
    intro i p h
    have h1 := mvS_get k v L a b i
    rw [h] at h1
    cases hm : (mvS k v a b L)[i]? with
    | none => rw [hm] at h1; cases h1
    | some m =>
      rw [hm] at h1
      have h2 := (encA_get z _ fm0 0 i m hm).1
      rw [Nat.zero_add] at h2
      rw [h2, ← Option.some.inj h1]
  constructor
  · rintro ⟨i, -, h2, h3⟩
    have hi : L[i]? = some (L[i]'(by omega)) := List.getElem?_eq_getElem (by omega)
    have h4 := key i _ hi
    simp only [saysP, decide_eq_true_eq] at h3
    rw [h4] at h3
    have hlt := hL _ (List.getElem_mem (l := L) (n := i) (by omega))
    have h5 := (nI_eq (by omega) (by omega)).mp h3
    have h6 : L[i]'(by omega) = q := by omega
    rw [← h6]; exact List.getElem_mem _
  · intro h
    obtain ⟨i, hi, rfl⟩ := List.getElem_of_mem h
    refine ⟨i, Nat.zero_le _, by omega, ?_⟩
    simp only [saysP, decide_eq_true_eq]
    exact key i _ (List.getElem?_eq_getElem hi)
theorem kX_otherRow (l : Launch) (D : va_G) (cI cZ cJ : ClassId) (ws : va_W) (z b : Nat) (hz0 : z < 2) (hb0 : b < 8) (s0 k : Int32) : CM l D (cm_T cI cZ cJ) yX3_otherRow cX3_otherRow 5 (some .int) (cm_rm 1 27) [.int (nI (z * 9 + b)), .int s0, .int k] ws (some (.int (nI (z * 9 + otherS s0 k b)))) ws := by
  have h := c_otherRow l D cI cZ cJ ws z b hz0 hb0 s0 k
  rw [Nat.mul_comm 9 z] at h
  exact h
set_option maxHeartbeats 4000000 in
set_option maxRecDepth 100000 in
/-- find -/
theorem k_X3_find (l : Launch) (D : va_G) (cI cZ cJ : ClassId) (ws : va_W) {qI qA im ad : Nat} {f : Nat → Int32} (hI : ws[qI]? = some (im, .inr (0, [.ref ad]))) (hA : ws[qA]? = some (ad, .inl (cI, 440, .inl f))) (z : Nat) (hz0 : z < 2) (hz : f 396 = nI z) (s0 key : Int32) : CM l D (cm_T cI cZ cJ) yX3_find cX3_find 4 (some .int) (cm_rm 3 64) [.ref im, .int s0, .int key] ws (some (.int (optA z (findS (uR f z) (kR f z) s0 key)))) (ws) := by
  refine CM.of (by decide) (Nat.le_of_ble_eq_true rfl) ?_
  intro p e s m below meth c ls H locs C hl hP hD hS
  have q1 := hm1_lt s0 key
  have q2 := hm2_lt s0 key
  cases e1 : atS (uR f z) (kR f z) key (hm1 s0 key) with
  | some i =>
    have q3 := (atS_lt e1 (by omega)).1
    refine lv_aload_n C.1 C.2.1 dX3_find_0 rfl (lv_at hl 0 rfl) ?_
    refine lv_aload_n C.1 C.2.1 dX3_find_1 rfl (lv_at hl 0 rfl) ?_
    refine lv_iload_n C.1 C.2.1 dX3_find_2 rfl (lv_at hl 1 rfl) ?_
    refine lv_iload_n C.1 C.2.1 dX3_find_3 rfl (lv_at hl 2 rfl) ?_
    refine lv_iconst (v := nI 0) C.1 C.2.1 dX3_find_4 (by decide +kernel) ?_
    refine cm_cS1 3 C (c_homeBy1 l D cI cZ cJ _ s0 key) tw_114 tw_115 tw_1 tw_116 rfl rfl (by decide +kernel) ⟨Nat.le_of_ble_eq_true rfl, Nat.le_of_ble_eq_true rfl⟩ ⟨Nat.zero_le _, Nat.zero_le _⟩ hP hD hS hl.1 rfl rfl (Nat.le_of_ble_eq_true rfl) dX3_find_5 (fun H locs hP hD hS => ?_)
    refine cm_cV1 (q0 := qI) 1 C (k_X0_rowInUse l D cI cZ cJ _ hI hA z (hm1 s0 key) hz) tw_120 tw_121 tw_122 tw_2 tw_123 rfl rfl (hI) rfl (by decide +kernel) ⟨Nat.le_of_ble_eq_true rfl, Nat.le_of_ble_eq_true rfl⟩ ⟨Nat.zero_le _, Nat.zero_le _⟩ hP hD hS hl.1 rfl rfl (Nat.le_of_ble_eq_true rfl) dX3_find_8 (fun H locs hP hD hS => ?_)
    refine lv_iload_n C.1 C.2.1 dX3_find_11 rfl (lv_at hl 2 rfl) ?_
    refine cm_cV1 (q0 := qI) 2 C (k_X0_placeIn l D cI cZ cJ _ hI hA (z * 9 + hm1 s0 key) (by omega) key) tw_128 tw_129 tw_130 tw_2 tw_131 rfl rfl (hI) rfl (by decide +kernel) ⟨Nat.le_of_ble_eq_true rfl, Nat.le_of_ble_eq_true rfl⟩ ⟨Nat.zero_le _, Nat.zero_le _⟩ hP hD hS hl.1 rfl rfl (Nat.le_of_ble_eq_true rfl) dX3_find_12 (fun H locs hP hD hS => ?_)
    rw [at_abs, e1, optA_some]
    refine lv_istore_n (lv' := [(3, _), (0, _), (1, _), (2, _)]) C.1 C.2.1 dX3_find_15 rfl hl (by decide) rfl (fun ls hl => ?_)
    refine lv_iload_n C.1 C.2.1 dX3_find_16 rfl (lv_at hl 0 rfl) ?_
    refine lv_iconst (v := (-1)) C.1 C.2.1 dX3_find_17 (by decide +kernel) ?_
    refine lv_icmp_ne (tgt := 37) C.1 C.2.1 dX3_find_18 (by decide) (fun _ => ?_) (fun h => absurd h (nI_m1 (by omega)))
    refine lv_iload_n C.1 C.2.1 dX3_find_37 rfl (lv_at hl 0 rfl) ?_
    refine lv_iconst (v := (-1)) C.1 C.2.1 dX3_find_38 (by decide +kernel) ?_
    refine lv_icmp_ne (tgt := 54) C.1 C.2.1 dX3_find_39 (by decide) (fun _ => ?_) (fun h => absurd h (nI_m1 (by omega)))
    refine lv_iload_n C.1 C.2.1 dX3_find_54 rfl (lv_at hl 0 rfl) ?_
    exact cm_iret C hP hD hS dX3_find_55 (by unfold findS; rw [e1]; rfl) rfl
  | none =>
    cases e2 : atS (uR f z) (kR f z) key (hm2 s0 key) with
    | some i =>
      have q3 := (atS_lt e2 (by omega)).1
      refine lv_aload_n C.1 C.2.1 dX3_find_0 rfl (lv_at hl 0 rfl) ?_
      refine lv_aload_n C.1 C.2.1 dX3_find_1 rfl (lv_at hl 0 rfl) ?_
      refine lv_iload_n C.1 C.2.1 dX3_find_2 rfl (lv_at hl 1 rfl) ?_
      refine lv_iload_n C.1 C.2.1 dX3_find_3 rfl (lv_at hl 2 rfl) ?_
      refine lv_iconst (v := nI 0) C.1 C.2.1 dX3_find_4 (by decide +kernel) ?_
      refine cm_cS1 3 C (c_homeBy1 l D cI cZ cJ _ s0 key) tw_114 tw_115 tw_1 tw_116 rfl rfl (by decide +kernel) ⟨Nat.le_of_ble_eq_true rfl, Nat.le_of_ble_eq_true rfl⟩ ⟨Nat.zero_le _, Nat.zero_le _⟩ hP hD hS hl.1 rfl rfl (Nat.le_of_ble_eq_true rfl) dX3_find_5 (fun H locs hP hD hS => ?_)
      refine cm_cV1 (q0 := qI) 1 C (k_X0_rowInUse l D cI cZ cJ _ hI hA z (hm1 s0 key) hz) tw_120 tw_121 tw_122 tw_2 tw_123 rfl rfl (hI) rfl (by decide +kernel) ⟨Nat.le_of_ble_eq_true rfl, Nat.le_of_ble_eq_true rfl⟩ ⟨Nat.zero_le _, Nat.zero_le _⟩ hP hD hS hl.1 rfl rfl (Nat.le_of_ble_eq_true rfl) dX3_find_8 (fun H locs hP hD hS => ?_)
      refine lv_iload_n C.1 C.2.1 dX3_find_11 rfl (lv_at hl 2 rfl) ?_
      refine cm_cV1 (q0 := qI) 2 C (k_X0_placeIn l D cI cZ cJ _ hI hA (z * 9 + hm1 s0 key) (by omega) key) tw_128 tw_129 tw_130 tw_2 tw_131 rfl rfl (hI) rfl (by decide +kernel) ⟨Nat.le_of_ble_eq_true rfl, Nat.le_of_ble_eq_true rfl⟩ ⟨Nat.zero_le _, Nat.zero_le _⟩ hP hD hS hl.1 rfl rfl (Nat.le_of_ble_eq_true rfl) dX3_find_12 (fun H locs hP hD hS => ?_)
      rw [at_abs, e1, optA_none]
      refine lv_istore_n (lv' := [(3, _), (0, _), (1, _), (2, _)]) C.1 C.2.1 dX3_find_15 rfl hl (by decide) rfl (fun ls hl => ?_)
      refine lv_iload_n C.1 C.2.1 dX3_find_16 rfl (lv_at hl 0 rfl) ?_
      refine lv_iconst (v := (-1)) C.1 C.2.1 dX3_find_17 (by decide +kernel) ?_
      refine lv_icmp_ne (tgt := 37) C.1 C.2.1 dX3_find_18 (by decide) (fun h => absurd (rfl) h) (fun _ => ?_)
      refine lv_aload_n C.1 C.2.1 dX3_find_21 rfl (lv_at hl 1 rfl) ?_
      refine lv_aload_n C.1 C.2.1 dX3_find_22 rfl (lv_at hl 1 rfl) ?_
      refine lv_iload_n C.1 C.2.1 dX3_find_23 rfl (lv_at hl 2 rfl) ?_
      refine lv_iload_n C.1 C.2.1 dX3_find_24 rfl (lv_at hl 3 rfl) ?_
      refine lv_iconst (v := nI 1) C.1 C.2.1 dX3_find_25 (by decide +kernel) ?_
      refine cm_cS1 3 C (c_homeBy2 l D cI cZ cJ _ s0 key) tw_114 tw_115 tw_1 tw_116 rfl rfl (by decide +kernel) ⟨Nat.le_of_ble_eq_true rfl, Nat.le_of_ble_eq_true rfl⟩ ⟨Nat.zero_le _, Nat.zero_le _⟩ hP hD hS hl.1 rfl rfl (Nat.le_of_ble_eq_true rfl) dX3_find_26 (fun H locs hP hD hS => ?_)
      refine cm_cV1 (q0 := qI) 1 C (k_X0_rowInUse l D cI cZ cJ _ hI hA z (hm2 s0 key) hz) tw_120 tw_121 tw_122 tw_2 tw_123 rfl rfl (hI) rfl (by decide +kernel) ⟨Nat.le_of_ble_eq_true rfl, Nat.le_of_ble_eq_true rfl⟩ ⟨Nat.zero_le _, Nat.zero_le _⟩ hP hD hS hl.1 rfl rfl (Nat.le_of_ble_eq_true rfl) dX3_find_29 (fun H locs hP hD hS => ?_)
      refine lv_iload_n C.1 C.2.1 dX3_find_32 rfl (lv_at hl 3 rfl) ?_
      refine cm_cV1 (q0 := qI) 2 C (k_X0_placeIn l D cI cZ cJ _ hI hA (z * 9 + hm2 s0 key) (by omega) key) tw_128 tw_129 tw_130 tw_2 tw_131 rfl rfl (hI) rfl (by decide +kernel) ⟨Nat.le_of_ble_eq_true rfl, Nat.le_of_ble_eq_true rfl⟩ ⟨Nat.zero_le _, Nat.zero_le _⟩ hP hD hS hl.1 rfl rfl (Nat.le_of_ble_eq_true rfl) dX3_find_33 (fun H locs hP hD hS => ?_)
      rw [at_abs, e2, optA_some]
      refine lv_istore_n (lv' := [(3, _), (0, _), (1, _), (2, _)]) C.1 C.2.1 dX3_find_36 rfl hl (by decide) rfl (fun ls hl => ?_)
      refine lv_iload_n C.1 C.2.1 dX3_find_37 rfl (lv_at hl 0 rfl) ?_
      refine lv_iconst (v := (-1)) C.1 C.2.1 dX3_find_38 (by decide +kernel) ?_
      refine lv_icmp_ne (tgt := 54) C.1 C.2.1 dX3_find_39 (by decide) (fun _ => ?_) (fun h => absurd h (nI_m1 (by omega)))
      refine lv_iload_n C.1 C.2.1 dX3_find_54 rfl (lv_at hl 0 rfl) ?_
      exact cm_iret C hP hD hS dX3_find_55 (by unfold findS; rw [e1, e2]; rfl) rfl
    | none =>
      refine lv_aload_n C.1 C.2.1 dX3_find_0 rfl (lv_at hl 0 rfl) ?_
      refine lv_aload_n C.1 C.2.1 dX3_find_1 rfl (lv_at hl 0 rfl) ?_
      refine lv_iload_n C.1 C.2.1 dX3_find_2 rfl (lv_at hl 1 rfl) ?_
      refine lv_iload_n C.1 C.2.1 dX3_find_3 rfl (lv_at hl 2 rfl) ?_
      refine lv_iconst (v := nI 0) C.1 C.2.1 dX3_find_4 (by decide +kernel) ?_
      refine cm_cS1 3 C (c_homeBy1 l D cI cZ cJ _ s0 key) tw_114 tw_115 tw_1 tw_116 rfl rfl (by decide +kernel) ⟨Nat.le_of_ble_eq_true rfl, Nat.le_of_ble_eq_true rfl⟩ ⟨Nat.zero_le _, Nat.zero_le _⟩ hP hD hS hl.1 rfl rfl (Nat.le_of_ble_eq_true rfl) dX3_find_5 (fun H locs hP hD hS => ?_)
      refine cm_cV1 (q0 := qI) 1 C (k_X0_rowInUse l D cI cZ cJ _ hI hA z (hm1 s0 key) hz) tw_120 tw_121 tw_122 tw_2 tw_123 rfl rfl (hI) rfl (by decide +kernel) ⟨Nat.le_of_ble_eq_true rfl, Nat.le_of_ble_eq_true rfl⟩ ⟨Nat.zero_le _, Nat.zero_le _⟩ hP hD hS hl.1 rfl rfl (Nat.le_of_ble_eq_true rfl) dX3_find_8 (fun H locs hP hD hS => ?_)
      refine lv_iload_n C.1 C.2.1 dX3_find_11 rfl (lv_at hl 2 rfl) ?_
      refine cm_cV1 (q0 := qI) 2 C (k_X0_placeIn l D cI cZ cJ _ hI hA (z * 9 + hm1 s0 key) (by omega) key) tw_128 tw_129 tw_130 tw_2 tw_131 rfl rfl (hI) rfl (by decide +kernel) ⟨Nat.le_of_ble_eq_true rfl, Nat.le_of_ble_eq_true rfl⟩ ⟨Nat.zero_le _, Nat.zero_le _⟩ hP hD hS hl.1 rfl rfl (Nat.le_of_ble_eq_true rfl) dX3_find_12 (fun H locs hP hD hS => ?_)
      rw [at_abs, e1, optA_none]
      refine lv_istore_n (lv' := [(3, _), (0, _), (1, _), (2, _)]) C.1 C.2.1 dX3_find_15 rfl hl (by decide) rfl (fun ls hl => ?_)
      refine lv_iload_n C.1 C.2.1 dX3_find_16 rfl (lv_at hl 0 rfl) ?_
      refine lv_iconst (v := (-1)) C.1 C.2.1 dX3_find_17 (by decide +kernel) ?_
      refine lv_icmp_ne (tgt := 37) C.1 C.2.1 dX3_find_18 (by decide) (fun h => absurd (rfl) h) (fun _ => ?_)
      refine lv_aload_n C.1 C.2.1 dX3_find_21 rfl (lv_at hl 1 rfl) ?_
      refine lv_aload_n C.1 C.2.1 dX3_find_22 rfl (lv_at hl 1 rfl) ?_
      refine lv_iload_n C.1 C.2.1 dX3_find_23 rfl (lv_at hl 2 rfl) ?_
      refine lv_iload_n C.1 C.2.1 dX3_find_24 rfl (lv_at hl 3 rfl) ?_
      refine lv_iconst (v := nI 1) C.1 C.2.1 dX3_find_25 (by decide +kernel) ?_
      refine cm_cS1 3 C (c_homeBy2 l D cI cZ cJ _ s0 key) tw_114 tw_115 tw_1 tw_116 rfl rfl (by decide +kernel) ⟨Nat.le_of_ble_eq_true rfl, Nat.le_of_ble_eq_true rfl⟩ ⟨Nat.zero_le _, Nat.zero_le _⟩ hP hD hS hl.1 rfl rfl (Nat.le_of_ble_eq_true rfl) dX3_find_26 (fun H locs hP hD hS => ?_)
      refine cm_cV1 (q0 := qI) 1 C (k_X0_rowInUse l D cI cZ cJ _ hI hA z (hm2 s0 key) hz) tw_120 tw_121 tw_122 tw_2 tw_123 rfl rfl (hI) rfl (by decide +kernel) ⟨Nat.le_of_ble_eq_true rfl, Nat.le_of_ble_eq_true rfl⟩ ⟨Nat.zero_le _, Nat.zero_le _⟩ hP hD hS hl.1 rfl rfl (Nat.le_of_ble_eq_true rfl) dX3_find_29 (fun H locs hP hD hS => ?_)
      refine lv_iload_n C.1 C.2.1 dX3_find_32 rfl (lv_at hl 3 rfl) ?_
      refine cm_cV1 (q0 := qI) 2 C (k_X0_placeIn l D cI cZ cJ _ hI hA (z * 9 + hm2 s0 key) (by omega) key) tw_128 tw_129 tw_130 tw_2 tw_131 rfl rfl (hI) rfl (by decide +kernel) ⟨Nat.le_of_ble_eq_true rfl, Nat.le_of_ble_eq_true rfl⟩ ⟨Nat.zero_le _, Nat.zero_le _⟩ hP hD hS hl.1 rfl rfl (Nat.le_of_ble_eq_true rfl) dX3_find_33 (fun H locs hP hD hS => ?_)
      rw [at_abs, e2, optA_none]
      refine lv_istore_n (lv' := [(3, _), (0, _), (1, _), (2, _)]) C.1 C.2.1 dX3_find_36 rfl hl (by decide) rfl (fun ls hl => ?_)
      refine lv_iload_n C.1 C.2.1 dX3_find_37 rfl (lv_at hl 0 rfl) ?_
      refine lv_iconst (v := (-1)) C.1 C.2.1 dX3_find_38 (by decide +kernel) ?_
      refine lv_icmp_ne (tgt := 54) C.1 C.2.1 dX3_find_39 (by decide) (fun h => absurd (rfl) h) (fun _ => ?_)
      refine lv_aload_n C.1 C.2.1 dX3_find_42 rfl (lv_at hl 1 rfl) ?_
      refine lv_aload_n C.1 C.2.1 dX3_find_43 rfl (lv_at hl 1 rfl) ?_
      refine lv_bipush (v := nI 8) C.1 C.2.1 dX3_find_44 (by decide +kernel) ?_
      refine cm_cV1 (q0 := qI) 1 C (k_X0_rowInUse l D cI cZ cJ _ hI hA z (8) hz) tw_120 tw_121 tw_122 tw_2 tw_123 rfl rfl (hI) rfl (by decide +kernel) ⟨Nat.le_of_ble_eq_true rfl, Nat.le_of_ble_eq_true rfl⟩ ⟨Nat.zero_le _, Nat.zero_le _⟩ hP hD hS hl.1 rfl rfl (Nat.le_of_ble_eq_true rfl) dX3_find_46 (fun H locs hP hD hS => ?_)
      refine lv_iload_n C.1 C.2.1 dX3_find_49 rfl (lv_at hl 3 rfl) ?_
      refine cm_cV1 (q0 := qI) 2 C (k_X0_placeIn l D cI cZ cJ _ hI hA (z * 9 + 8) (by omega) key) tw_128 tw_129 tw_130 tw_2 tw_131 rfl rfl (hI) rfl (by decide +kernel) ⟨Nat.le_of_ble_eq_true rfl, Nat.le_of_ble_eq_true rfl⟩ ⟨Nat.zero_le _, Nat.zero_le _⟩ hP hD hS hl.1 rfl rfl (Nat.le_of_ble_eq_true rfl) dX3_find_50 (fun H locs hP hD hS => ?_)
      rw [at_abs]
      refine lv_istore_n (lv' := [(3, _), (0, _), (1, _), (2, _)]) C.1 C.2.1 dX3_find_53 rfl hl (by decide) rfl (fun ls hl => ?_)
      refine lv_iload_n C.1 C.2.1 dX3_find_54 rfl (lv_at hl 0 rfl) ?_
      exact cm_iret C hP hD hS dX3_find_55 (by unfold findS; rw [e1, e2]) rfl
set_option maxHeartbeats 4000000 in
set_option maxRecDepth 100000 in
/-- seedInUse -/
theorem k_X3_seedInUse (l : Launch) (D : va_G) (cI cZ cJ : ClassId) (ws : va_W) {qO h v1 v2 v3 v4 v5 mv : Nat} {ev ta lp lr : Int32} (hO : ws[qO]? = some (h, .inr (3, [.ref v1, .ref v2, .ref v3, .ref v4, .ref v5, .ref mv, .int ev, .int ta, .int lp, .int lr]))) {qS : Nat} {sd : Nat → Int32} (hS0 : ws[qS]? = some (v1, .inl (cI, 4, .inl sd))) {qI qA im ad : Nat} {f : Nat → Int32} (hI : ws[qI]? = some (im, .inr (0, [.ref ad]))) (hA : ws[qA]? = some (ad, .inl (cI, 440, .inl f))) (y : Nat) (hy : y < 4) (h397 : f 397 = nI y) : CM l D (cm_T cI cZ cJ) yX3_seedInUse cX3_seedInUse 3 (some .int) (cm_rm 2 43) [.ref h, .ref im] ws (some (.int (sd y))) (ws) := by
  refine CM.of (by decide) (Nat.le_of_ble_eq_true rfl) ?_
  intro p e s m below meth c ls H locs C hl hP hD hS
  refine lv_aload_n C.1 C.2.1 dX3_seedInUse_0 rfl (lv_at hl 1 rfl) ?_
  refine cm_cV1 (q0 := qI) 0 C (k_X0_seedTold l D cI cZ cJ _ hI hA) tw_100 tw_101 tw_102 tw_2 tw_103 rfl rfl (hI) rfl (by decide +kernel) ⟨Nat.le_of_ble_eq_true rfl, Nat.le_of_ble_eq_true rfl⟩ ⟨Nat.zero_le _, Nat.zero_le _⟩ hP hD hS hl.1 rfl rfl (Nat.le_of_ble_eq_true rfl) dX3_seedInUse_1 (fun H locs hP hD hS => ?_)
  rw [h397]
  refine lv_istore_n (lv' := [(2, _), (0, _), (1, _)]) C.1 C.2.1 dX3_seedInUse_4 rfl hl (by decide) rfl (fun ls hl => ?_)
  refine lv_iload_n C.1 C.2.1 dX3_seedInUse_5 rfl (lv_at hl 0 rfl) ?_
  refine lv_if_lt (tgt := 27) C.1 C.2.1 dX3_seedInUse_6 (by decide) (fun h => absurd h (nI_pos (by omega))) (fun _ => ?_)
  refine lv_iload_n C.1 C.2.1 dX3_seedInUse_9 rfl (lv_at hl 0 rfl) ?_
  refine lv_aload_n C.1 C.2.1 dX3_seedInUse_10 rfl (lv_at hl 1 rfl) ?_
  refine va_get (ci := 3) (C := RX3) (T := TX3) (N := 10) C.1 C.2.1 C.2.2.2.2.2.1 ui_X3 C.2.2.2.2.1 C.2.2.2.2.2.2.2.1 hP qO (hO) rfl 0 (by decide) (C.2.2.2.2.2.1 _ tw_61) (fun _ h9 => h9) rfl dX3_seedInUse_11 ?_
  refine va_alen C.1 C.2.1 C.2.2.2.2.2.2.2.1 hP qS 0 (hS0) rfl (v := nI 4) rfl dX3_seedInUse_14 ?_
  refine lv_icmp_ge (tgt := 27) C.1 C.2.1 dX3_seedInUse_15 (by decide) (fun h => absurd h (nI_ge hy (by decide))) (fun _ => ?_)
  refine lv_aload_n C.1 C.2.1 dX3_seedInUse_18 rfl (lv_at hl 1 rfl) ?_
  refine va_get (ci := 3) (C := RX3) (T := TX3) (N := 10) C.1 C.2.1 C.2.2.2.2.2.1 ui_X3 C.2.2.2.2.1 C.2.2.2.2.2.2.2.1 hP qO (hO) rfl 0 (by decide) (C.2.2.2.2.2.1 _ tw_61) (fun _ h9 => h9) rfl dX3_seedInUse_19 ?_
  refine lv_iload_n C.1 C.2.1 dX3_seedInUse_22 rfl (lv_at hl 0 rfl) ?_
  refine va_iald C.1 C.2.1 C.2.2.2.2.2.2.2.1 hP qS 0 (hS0) rfl (vp_in_nI hy (by decide)) dX3_seedInUse_23 ?_
  rw [nI_clamp (by omega)]
  refine lv_goto (tgt := 28) C.1 C.2.1 dX3_seedInUse_24 (by decide) ?_
  exact cm_iret C hP hD hS dX3_seedInUse_28 (rfl) (rfl)
set_option maxHeartbeats 4000000 in
set_option maxRecDepth 100000 in
/-- nextOnPath -/
theorem k_X3_nextOnPath (l : Launch) (D : va_G) (cI cZ cJ : ClassId) (ws : va_W) {qO h v1 v2 v3 v4 v5 mv : Nat} {ev ta lp lr : Int32} (hO : ws[qO]? = some (h, .inr (3, [.ref v1, .ref v2, .ref v3, .ref v4, .ref v5, .ref mv, .int ev, .int ta, .int lp, .int lr]))) {an : Nat} {fm : Nat → Int32} {qM qN : Nat} (hM : ws[qM]? = some (mv, .inr (1, [.ref an]))) (hN : ws[qN]? = some (an, .inl (cI, 22, .inl fm))) (z b t0 : Nat) (hz0 : z < 2) (hb0 : b < 8) (ht0 : t0 < 4) (L : List Nat) (hLt : L.length ≤ 7) (h0 : fm 0 = nI L.length) (hsay : ∀ q, q < 36 → anyB (saysP fm (nI (36 * z + q))) 0 L.length = decide (q ∈ L)) : CM l D (cm_T cI cZ cJ) yX3_nextOnPath cX3_nextOnPath 5 (some .int) (cm_rm 2 46) [.ref h, .int (nI (z * 9 + b)), .int (nI t0)] ws (some (.int (optA z (nx L b t0 0 4)))) (ws) := by
  refine CM.of (by decide) (Nat.le_of_ble_eq_true rfl) ?_
  intro p e s m below meth c ls H locs C hl hP hD hS
  refine lv_iconst (v := nI 0) C.1 C.2.1 dX3_nextOnPath_0 (by decide +kernel) ?_
  refine lv_istore_n (lv' := [(3, _), (0, _), (1, _), (2, _)]) C.1 C.2.1 dX3_nextOnPath_1 rfl hl (by decide) rfl (fun ls hl => ?_)
  have loop : ∀ (k j : Nat), j + k = 4 → ∀ (ls : Array Slot) (H : Heap) (locs : List Loc), lv_has ls 5 [(3, .int (nI j)), (0, .ref h), (1, .int (nI (z * 9 + b))), (2, .int (nI t0))] → va_P D vwCl (ws) H → va_D (cm_A ws) (ws) → va_S (cm_A ws) s.heap H locs → W p l e (cm_rm 2 46) s m ([.ref h, .int (nI (z * 9 + b)), .int (nI t0)] : List Value).toArray below meth c H locs 0 0 (cm_Q below D [.ref h, .int (nI (z * 9 + b)), .int (nI t0)] s ws (some (.int (optA z (nx L b t0 j k)))) (ws)) (F0 m 2 ls []) := by
    intro k
    induction k with
    | zero =>
      intro j hj ls H locs hl hP hD hS
      refine lv_iload_n C.1 C.2.1 dX3_nextOnPath_2 rfl (lv_at hl 0 rfl) ?_
      refine lv_iconst (v := nI 4) C.1 C.2.1 dX3_nextOnPath_3 (by decide +kernel) ?_
      refine lv_icmp_ge (tgt := 39) C.1 C.2.1 dX3_nextOnPath_4 (by decide) (fun _ => ?_) (fun h => absurd (nI_le (by omega) (by omega)) h)
      refine lv_iconst (v := (-1)) C.1 C.2.1 dX3_nextOnPath_39 (by decide +kernel) ?_
      exact cm_iret C hP hD hS dX3_nextOnPath_40 rfl rfl
    | succ k ih =>
      intro j hj ls H locs hl hP hD hS
      refine lv_iload_n C.1 C.2.1 dX3_nextOnPath_2 rfl (lv_at hl 0 rfl) ?_
      refine lv_iconst (v := nI 4) C.1 C.2.1 dX3_nextOnPath_3 (by decide +kernel) ?_
      refine lv_icmp_ge (tgt := 39) C.1 C.2.1 dX3_nextOnPath_4 (by decide) (fun h => absurd h (nI_ge (by omega) (by decide))) (fun _ => ?_)
      refine lv_iload_n C.1 C.2.1 dX3_nextOnPath_7 rfl (lv_at hl 2 rfl) ?_
      refine lv_iload_n C.1 C.2.1 dX3_nextOnPath_8 rfl (lv_at hl 3 rfl) ?_
      refine lv_iload_n C.1 C.2.1 dX3_nextOnPath_9 rfl (lv_at hl 0 rfl) ?_
      refine lv_iadd C.1 C.2.1 dX3_nextOnPath_10 ?_
      rw [nI_add]
      refine lv_iconst (v := nI 4) C.1 C.2.1 dX3_nextOnPath_11 (by decide +kernel) ?_
      refine lv_irem C.1 C.2.1 dX3_nextOnPath_12 (by decide) ?_
      rw [pk_rem (by omega) (by decide) (by decide)]
      refine cm_cS1 2 C (c_placeOf l D cI cZ cJ _ (z * 9 + b) ((t0 + j) % 4)) tw_168 tw_133 tw_1 tw_134 rfl rfl (by decide +kernel) ⟨Nat.le_of_ble_eq_true rfl, Nat.le_of_ble_eq_true rfl⟩ ⟨Nat.zero_le _, Nat.zero_le _⟩ hP hD hS hl.1 rfl rfl (Nat.le_of_ble_eq_true rfl) dX3_nextOnPath_13 (fun H locs hP hD hS => ?_)
      rw [show (z * 9 + b) * 4 + (t0 + j) % 4 = 36 * z + (4 * b + (t0 + j) % 4) by omega]
      refine lv_istore (lv' := [(4, _), (3, _), (0, _), (1, _), (2, _)]) C.1 C.2.1 dX3_nextOnPath_16 hl (by decide) rfl (fun ls hl => ?_)
      refine lv_aload_n C.1 C.2.1 dX3_nextOnPath_18 rfl (lv_at hl 2 rfl) ?_
      refine va_get (ci := 3) (C := RX3) (T := TX3) (N := 10) C.1 C.2.1 C.2.2.2.2.2.1 ui_X3 C.2.2.2.2.1 C.2.2.2.2.2.2.2.1 hP qO (hO) rfl 5 (by decide) (C.2.2.2.2.2.1 _ tw_66) (fun _ h9 => h9) rfl dX3_nextOnPath_19 ?_
      refine lv_iload C.1 C.2.1 dX3_nextOnPath_22 (lv_at hl 0 rfl) ?_
      refine cm_cV1 (q0 := qM) 1 C (k_X1_tellOf l D cI cZ cJ _ hM hN L.length hLt h0 (nI (36 * z + (4 * b + (t0 + j) % 4)))) tw_169 tw_170 tw_171 tw_4 tw_172 rfl rfl (hM) rfl (by decide +kernel) ⟨Nat.le_of_ble_eq_true rfl, Nat.le_of_ble_eq_true rfl⟩ ⟨Nat.zero_le _, Nat.zero_le _⟩ hP hD hS hl.1 rfl rfl (Nat.le_of_ble_eq_true rfl) dX3_nextOnPath_24 (fun H locs hP hD hS => ?_)
      rw [hsay _ (by omega)]
      refine lv_if_ne (tgt := 33) C.1 C.2.1 dX3_nextOnPath_27 (by decide) (fun h27 => ?_) (fun h27 => ?_)
      · refine lv_iinc (v := nI (j + 1)) (lv' := [(3, _), (4, _), (0, _), (1, _), (2, _)]) C.1 C.2.1 dX3_nextOnPath_33 hl (k := 1) rfl (nI_1 j) (by decide) rfl (fun ls hl => ?_)
        refine lv_goto (tgt := 2) C.1 C.2.1 dX3_nextOnPath_36 (by decide) ?_
        have h27 : 4 * b + (t0 + j) % 4 ∈ L := Decidable.byContradiction (fun q => h27 (by rw [decide_eq_false q]; rfl))
        rw [show nx L b t0 j (k + 1) = nx L b t0 (j + 1) k from if_pos h27]
        exact ih (j + 1) (by omega) ls H locs (lv_sub hl [0, 2, 3, 4] rfl) hP hD hS
      · refine lv_iload C.1 C.2.1 dX3_nextOnPath_30 (lv_at hl 0 rfl) ?_
        have h27 : ¬ 4 * b + (t0 + j) % 4 ∈ L := fun q => by rw [decide_eq_true q] at h27; exact absurd h27 (by decide)
        exact cm_iret C hP hD hS dX3_nextOnPath_32 (by rw [show nx L b t0 j (k + 1) = some (4 * b + (t0 + j) % 4) from if_neg h27]; rfl) rfl
  exact loop 4 0 rfl ls H locs hl hP hD hS
