/-! ===== the reference's PATH ===== -/
def plA (w : Nat) : (Nat → Int32) → Nat → List Nat → (Nat → Int32)
  | ps, _, [] => ps
  | ps, t, q :: L => plA w (upd ps t (nI (36 * w + q))) (t + 1) L
theorem plA_app (w q : Nat) : ∀ (L : List Nat) (ps : Nat → Int32) (t : Nat), plA w ps t (L ++ [q]) = upd (plA w ps t L) (t + L.length) (nI (36 * w + q)) := by
  intro L
  induction L with
  | nil => intro ps t; rfl
  | cons a L ih =>
    intro ps t
    simp only [List.cons_append, plA, List.length_cons]
    rw [ih, show t + 1 + L.length = t + (L.length + 1) by omega]
theorem plA_old (w : Nat) : ∀ (L : List Nat) (ps : Nat → Int32) (t j : Nat), j < t → plA w ps t L j = ps j := by
  intro L
  induction L with
  | nil => intro ps t j _; rfl
  | cons a L ih => intro ps t j h; simp only [plA]; rw [ih _ _ _ (by omega), pk_un (by omega)]
theorem plA_get (w : Nat) : ∀ (L : List Nat) (ps : Nat → Int32) (t j q : Nat), L[j]? = some q → plA w ps t L (t + j) = nI (36 * w + q) := by
  intro L
  induction L with
  | nil => intro ps t j q h; simp at h
  | cons a L ih =>
    intro ps t j q h
    simp only [plA]
    cases j with
    | zero =>
      have h : a = q := by simpa using h
      subst h
      rw [plA_old _ _ _ _ _ (by omega)]
      exact pk_us
    | succ j =>
      have h : L[j]? = some q := by simpa using h
      rw [show t + (j + 1) = t + 1 + j by omega]
      exact ih _ _ j q h
theorem onP_iff (w : Nat) (hw : w < 3) (ps : Nat → Int32) (L : List Nat) (hL : ∀ q ∈ L, q < 36) (q : Nat) (hq : q < 36) : anyB (fun i => decide (plA w ps 0 L i = nI (36 * w + q))) 0 L.length = decide (q ∈ L) := by
  rw [Bool.eq_iff_iff, anyB_iff, decide_eq_true_eq]
  have key : ∀ i p, L[i]? = some p → plA w ps 0 L i = nI (36 * w + p) := by
    intro i p h
    have h2 := plA_get w L ps 0 i p h
    rwa [Nat.zero_add] at h2
  constructor
  · rintro ⟨i, -, h2, h3⟩
    have h4 := key i _ (List.getElem?_eq_getElem (l := L) (i := i) (by omega))
    simp only [decide_eq_true_eq] at h3
    rw [h4] at h3
    have hlt := hL _ (List.getElem_mem (l := L) (n := i) (by omega))
    have h5 := (nI_eq (by omega) (by omega)).mp h3
    have h6 : L[i]'(by omega) = q := by omega
    rw [← h6]; exact List.getElem_mem _
  · intro h
    obtain ⟨i, hi, rfl⟩ := List.getElem_of_mem h
    refine ⟨i, Nat.zero_le _, by omega, ?_⟩
    simp only [decide_eq_true_eq]
    exact key i _ (List.getElem?_eq_getElem hi)
theorem anyB_s (P : Nat → Bool) (j k : Nat) : anyB P j (k + 1) = (P j || anyB P (j + 1) k) := rfl
set_option maxHeartbeats 4000000 in
set_option maxRecDepth 100000 in
/-- isOnPath -/
theorem k_X4_isOnPath (l : Launch) (D : va_G) (cI cZ cJ : ClassId) (ad : Nat → Nat) (X : va_W) (I : Nat → Int32) (A : Nat → Nat → Int32) (n : Nat) (hn0 : n ≤ 8) (hn : I 29 = nI n) (x : Int32) : CM l D (cm_T cI cZ cJ) yX4_isOnPath cX4_isOnPath 4 (some .boolean) (cm_rm 0 0) [.ref (ad 0), .int x] (mw ad cI cZ X I A) (some (.int (bI (anyB (fun i => decide (A 30 i = x)) 0 n)))) (mw ad cI cZ X I A) := by
  refine CM.of (by decide) (Nat.le_of_ble_eq_true rfl) ?_
  intro p e s m below meth c ls H locs C hl hP hD hS
  refine lv_iconst (v := nI 0) C.1 C.2.1 dX4_isOnPath_0 (by decide +kernel) ?_
  refine lv_istore_n (lv' := [(2, _), (0, _), (1, _)]) C.1 C.2.1 dX4_isOnPath_1 rfl hl (by decide) rfl (fun ls hl => ?_)
  refine lv_iconst (v := nI 0) C.1 C.2.1 dX4_isOnPath_2 (by decide +kernel) ?_
  refine lv_istore_n (lv' := [(3, _), (2, _), (0, _), (1, _)]) C.1 C.2.1 dX4_isOnPath_3 rfl hl (by decide) rfl (fun ls hl => ?_)
  have loop : ∀ (k j : Nat) (acc : Bool), j + k = n → ∀ (ls : Array Slot) (H : Heap) (locs : List Loc), lv_has ls 4 [(3, .int (nI j)), (2, .int (bI acc)), (0, .ref (ad 0)), (1, .int x)] → va_P D vwCl (mw ad cI cZ X I A) H → va_D (cm_A (mw ad cI cZ X I A)) (mw ad cI cZ X I A) → va_S (cm_A (mw ad cI cZ X I A)) s.heap H locs → W p l e (cm_rm 0 0) s m ([.ref (ad 0), .int x] : List Value).toArray below meth c H locs 0 0 (cm_Q below D [.ref (ad 0), .int x] s (mw ad cI cZ X I A) (some (.int (bI (acc || anyB (fun i => decide (A 30 i = x)) j k)))) (mw ad cI cZ X I A)) (F0 m 4 ls []) := by
    intro k
    induction k with
    | zero =>
      intro j acc hj ls H locs hl hP hD hS
      refine lv_iload_n C.1 C.2.1 dX4_isOnPath_4 rfl (lv_at hl 0 rfl) ?_
      refine lv_aload_n C.1 C.2.1 dX4_isOnPath_5 rfl (lv_at hl 2 rfl) ?_
      refine va_get (ci := 4) (C := RX4) (T := TX4) (N := 34) C.1 C.2.1 C.2.2.2.2.2.1 ui_X4 C.2.2.2.2.1 C.2.2.2.2.2.2.2.1 hP 0 (rfl) rfl 29 (by decide) (C.2.2.2.2.2.1 _ tw_485) (fun _ h9 => h9) rfl dX4_isOnPath_6 ?_
      rw [hn]
      refine lv_icmp_ge (tgt := 38) C.1 C.2.1 dX4_isOnPath_9 (by decide) (fun _ => ?_) (fun h => absurd (nI_le (by omega) (by omega)) h)
      refine lv_iload_n C.1 C.2.1 dX4_isOnPath_38 rfl (lv_at hl 1 rfl) ?_
      exact cm_zret C hP hD hS dX4_isOnPath_39 (bI_nar acc) (by rw [show anyB (fun i => decide (A 30 i = x)) j 0 = false from rfl, Bool.or_false]) rfl
    | succ k ih =>
      intro j acc hj ls H locs hl hP hD hS
      have e9 := anyB_s (fun i => decide (A 30 i = x)) j k
      cases acc with
      | true =>
        refine lv_iload_n C.1 C.2.1 dX4_isOnPath_4 rfl (lv_at hl 0 rfl) ?_
        refine lv_aload_n C.1 C.2.1 dX4_isOnPath_5 rfl (lv_at hl 2 rfl) ?_
        refine va_get (v := .int (I 29)) (ci := 4) (C := RX4) (T := TX4) (N := 34) C.1 C.2.1 C.2.2.2.2.2.1 ui_X4 C.2.2.2.2.1 C.2.2.2.2.2.2.2.1 hP 0 (rfl) rfl 29 (by decide) (C.2.2.2.2.2.1 _ tw_485) (fun _ h9 => h9) rfl dX4_isOnPath_6 ?_
        rw [hn]
        refine lv_icmp_ge (tgt := 38) C.1 C.2.1 dX4_isOnPath_9 (by decide) (fun h => absurd h (nI_ge (by omega) (by omega))) (fun _ => ?_)
        refine lv_iload_n C.1 C.2.1 dX4_isOnPath_12 rfl (lv_at hl 1 rfl) ?_
        refine lv_if_ne (tgt := 26) C.1 C.2.1 dX4_isOnPath_13 (by decide) (fun _ => ?_) (fun h => absurd h (by decide))
        refine lv_iconst (v := nI 1) C.1 C.2.1 dX4_isOnPath_26 (by decide +kernel) ?_
        refine lv_goto (tgt := 31) C.1 C.2.1 dX4_isOnPath_27 (by decide) ?_
        refine lv_istore_n (lv' := [(2, _), (3, _), (0, _), (1, _)]) C.1 C.2.1 dX4_isOnPath_31 rfl hl (by decide) rfl (fun ls hl => ?_)
        refine lv_iinc (v := nI (j + 1)) (lv' := [(3, _), (2, _), (0, _), (1, _)]) C.1 C.2.1 dX4_isOnPath_32 hl (k := 1) rfl (nI_1 j) (by decide) rfl (fun ls hl => ?_)
        refine lv_goto (tgt := 4) C.1 C.2.1 dX4_isOnPath_35 (by decide) ?_
        exact ih (j + 1) true (by omega) ls H locs hl hP hD hS
      | false =>
        refine lv_iload_n C.1 C.2.1 dX4_isOnPath_4 rfl (lv_at hl 0 rfl) ?_
        refine lv_aload_n C.1 C.2.1 dX4_isOnPath_5 rfl (lv_at hl 2 rfl) ?_
        refine va_get (ci := 4) (C := RX4) (T := TX4) (N := 34) C.1 C.2.1 C.2.2.2.2.2.1 ui_X4 C.2.2.2.2.1 C.2.2.2.2.2.2.2.1 hP 0 (rfl) rfl 29 (by decide) (C.2.2.2.2.2.1 _ tw_485) (fun _ h9 => h9) rfl dX4_isOnPath_6 ?_
        rw [hn]
        refine lv_icmp_ge (tgt := 38) C.1 C.2.1 dX4_isOnPath_9 (by decide) (fun h => absurd h (nI_ge (by omega) (by omega))) (fun _ => ?_)
        refine lv_iload_n C.1 C.2.1 dX4_isOnPath_12 rfl (lv_at hl 1 rfl) ?_
        refine lv_if_ne (tgt := 26) C.1 C.2.1 dX4_isOnPath_13 (by decide) (fun h => absurd (rfl) h) (fun _ => ?_)
        refine lv_aload_n C.1 C.2.1 dX4_isOnPath_16 rfl (lv_at hl 2 rfl) ?_
        refine va_get (ci := 4) (C := RX4) (T := TX4) (N := 34) C.1 C.2.1 C.2.2.2.2.2.1 ui_X4 C.2.2.2.2.1 C.2.2.2.2.2.2.2.1 hP 0 (rfl) rfl 30 (by decide) (C.2.2.2.2.2.1 _ tw_486) (fun _ h9 => h9) rfl dX4_isOnPath_17 ?_
        refine lv_iload_n C.1 C.2.1 dX4_isOnPath_20 rfl (lv_at hl 0 rfl) ?_
        refine va_iald C.1 C.2.1 C.2.2.2.2.2.2.2.1 hP 21 0 (rfl) rfl (vp_in_nI (by omega) (by decide)) dX4_isOnPath_21 ?_
        rw [nI_clamp (by omega)]
        refine lv_iload_n C.1 C.2.1 dX4_isOnPath_22 rfl (lv_at hl 3 rfl) ?_
        refine lv_icmp_ne (tgt := 30) C.1 C.2.1 dX4_isOnPath_23 (by decide) (fun h23 => ?_) (fun h23 => ?_)
        · refine lv_iconst (v := nI 0) C.1 C.2.1 dX4_isOnPath_30 (by decide +kernel) ?_
          refine lv_istore_n (lv' := [(2, _), (3, _), (0, _), (1, _)]) C.1 C.2.1 dX4_isOnPath_31 rfl hl (by decide) rfl (fun ls hl => ?_)
          refine lv_iinc (v := nI (j + 1)) (lv' := [(3, _), (2, _), (0, _), (1, _)]) C.1 C.2.1 dX4_isOnPath_32 hl (k := 1) rfl (nI_1 j) (by decide) rfl (fun ls hl => ?_)
          refine lv_goto (tgt := 4) C.1 C.2.1 dX4_isOnPath_35 (by decide) ?_
          rw [e9, show decide (A 30 j = x) = false from decide_eq_false h23]
          exact ih (j + 1) false (by omega) ls H locs hl hP hD hS
        · refine lv_iconst (v := nI 1) C.1 C.2.1 dX4_isOnPath_26 (by decide +kernel) ?_
          refine lv_goto (tgt := 31) C.1 C.2.1 dX4_isOnPath_27 (by decide) ?_
          refine lv_istore_n (lv' := [(2, _), (3, _), (0, _), (1, _)]) C.1 C.2.1 dX4_isOnPath_31 rfl hl (by decide) rfl (fun ls hl => ?_)
          refine lv_iinc (v := nI (j + 1)) (lv' := [(3, _), (2, _), (0, _), (1, _)]) C.1 C.2.1 dX4_isOnPath_32 hl (k := 1) rfl (nI_1 j) (by decide) rfl (fun ls hl => ?_)
          refine lv_goto (tgt := 4) C.1 C.2.1 dX4_isOnPath_35 (by decide) ?_
          rw [e9, show decide (A 30 j = x) = true from decide_eq_true h23, Bool.true_or]
          exact ih (j + 1) true (by omega) ls H locs hl hP hD hS
  exact loop n 0 false (Nat.zero_add n) ls H locs hl hP hD hS
set_option maxHeartbeats 4000000 in
set_option maxRecDepth 100000 in
/-- hasPath -/
theorem k_X4_hasPath (l : Launch) (D : va_G) (cI cZ cJ : ClassId) (ad : Nat → Nat) (X : va_W) (I : Nat → Int32) (A : Nat → Nat → Int32) (w b0 : Nat) (hw0 : w < 3) (hb0 : b0 < 8) (s0 : Int32) : CM l D (cm_T cI cZ cJ) yX4_hasPath cX4_hasPath 9 (some .boolean) (cm_rm 2 47) [.ref (ad 0), .int (nI w), .int s0, .int (nI b0)] (mw ad cI cZ X I A) (some (.int (bI (pathS (uM A w) (kM A w) s0 6 0 b0 []).1))) (mw ad cI cZ X (va_up I 29 (nI (pathS (uM A w) (kM A w) s0 6 0 b0 []).2.length)) (va_up A 30 (plA w (A 30) 0 (pathS (uM A w) (kM A w) s0 6 0 b0 []).2))) := by
  refine CM.of (by decide) (Nat.le_of_ble_eq_true rfl) ?_
  intro p e s m below meth c ls H locs C hl hP hD hS
  refine lv_iload_n C.1 C.2.1 dX4_hasPath_0 rfl (lv_at hl 3 rfl) ?_
  refine lv_istore (lv' := [(4, _), (0, _), (1, _), (2, _), (3, _)]) C.1 C.2.1 dX4_hasPath_1 hl (by decide) rfl (fun ls hl => ?_)
  refine lv_aload_n C.1 C.2.1 dX4_hasPath_3 rfl (lv_at hl 1 rfl) ?_
  refine lv_iconst (v := nI 0) C.1 C.2.1 dX4_hasPath_4 (by decide +kernel) ?_
  refine va_put (ci := 4) (C := RX4) (T := TX4) (N := 34) (ty := .int) C.1 C.2.1 C.2.2.2.2.2.1 ui_X4 tyX4 tyX4_ok nmX4 C.2.2.2.2.1 C.2.2.2.2.2.2.2.1 hP hD hS 0 (rfl) rfl 29 (by decide) (C.2.2.2.2.2.1 _ tw_485) (fun _ h9 => h9) rfl (by decide +kernel) rfl rfl (Nat.le_of_ble_eq_true rfl) dX4_hasPath_5 (fun H locs hP hD hS => ?_)
  have hP : va_P D vwCl (mw ad cI cZ X (va_up I 29 (nI 0)) (va_up A 30 (plA w (A 30) 0 []))) H := hP
  have hD : va_D (cm_A (mw ad cI cZ X I A)) (mw ad cI cZ X (va_up I 29 (nI 0)) (va_up A 30 (plA w (A 30) 0 []))) := hD
  refine lv_iconst (v := nI 0) C.1 C.2.1 dX4_hasPath_8 (by decide +kernel) ?_
  refine lv_istore (lv' := [(5, _), (4, _), (0, _), (1, _), (2, _), (3, _)]) C.1 C.2.1 dX4_hasPath_9 hl (by decide) rfl (fun ls hl => ?_)
  have loop : ∀ (k j b : Nat) (L : List Nat), j + k = 6 ∧ L.length = j ∧ b < 8 ∧ (∀ q ∈ L, q < 36) → ∀ (ls : Array Slot) (H : Heap) (locs : List Loc), lv_has ls 9 [(5, .int (nI j)), (4, .int (nI b)), (0, .ref (ad 0)), (1, .int (nI w)), (2, .int s0), (3, .int (nI b0))] → va_P D vwCl (mw ad cI cZ X (va_up I 29 (nI j)) (va_up A 30 (plA w (A 30) 0 L))) H → va_D (cm_A (mw ad cI cZ X I A)) (mw ad cI cZ X (va_up I 29 (nI j)) (va_up A 30 (plA w (A 30) 0 L))) → va_S (cm_A (mw ad cI cZ X I A)) s.heap H locs → W p l e (cm_rm 2 47) s m ([.ref (ad 0), .int (nI w), .int s0, .int (nI b0)] : List Value).toArray below meth c H locs 0 0 (cm_Q below D [.ref (ad 0), .int (nI w), .int s0, .int (nI b0)] s (mw ad cI cZ X I A) (some (.int (bI (pathS (uM A w) (kM A w) s0 k j b L).1))) (mw ad cI cZ X (va_up I 29 (nI (pathS (uM A w) (kM A w) s0 k j b L).2.length)) (va_up A 30 (plA w (A 30) 0 (pathS (uM A w) (kM A w) s0 k j b L).2)))) (F0 m 11 ls []) := by
    intro k
    induction k with
    | zero =>
      intro j b L hj ls H locs hl hP hD hS
      obtain ⟨hj, hLj, hb, hL⟩ := hj
      refine lv_iload C.1 C.2.1 dX4_hasPath_11 (lv_at hl 0 rfl) ?_
      refine lv_bipush (v := nI 6) C.1 C.2.1 dX4_hasPath_13 (by decide +kernel) ?_
      refine lv_icmp_ge (tgt := 179) C.1 C.2.1 dX4_hasPath_15 (by decide) (fun _ => ?_) (fun h => absurd (nI_le (by omega) (by omega)) h)
      refine lv_iconst (v := nI 0) C.1 C.2.1 dX4_hasPath_179 (by decide +kernel) ?_
      exact cm_zret C hP hD hS dX4_hasPath_180 (by decide +kernel) rfl (by rw [← hLj]; rfl)
    | succ k ih =>
      intro j b L hj ls H locs hl hP hD hS
      obtain ⟨hj, hLj, hb, hL⟩ := hj
      have hcont : ∀ (ls : Array Slot) (H : Heap) (locs : List Loc), lv_has ls 9 [(6, .int (optA w (nx L b j 0 4))), (5, .int (nI j)), (4, .int (nI b)), (0, .ref (ad 0)), (1, .int (nI w)), (2, .int s0), (3, .int (nI b0))] → va_P D vwCl (mw ad cI cZ X (va_up I 29 (nI j)) (va_up A 30 (plA w (A 30) 0 L))) H → va_D (cm_A (mw ad cI cZ X I A)) (mw ad cI cZ X (va_up I 29 (nI j)) (va_up A 30 (plA w (A 30) 0 L))) → va_S (cm_A (mw ad cI cZ X I A)) s.heap H locs → W p l e (cm_rm 2 47) s m ([.ref (ad 0), .int (nI w), .int s0, .int (nI b0)] : List Value).toArray below meth c H locs 0 0 (cm_Q below D [.ref (ad 0), .int (nI w), .int s0, .int (nI b0)] s (mw ad cI cZ X I A) (some (.int (bI (pathS (uM A w) (kM A w) s0 (k + 1) j b L).1))) (mw ad cI cZ X (va_up I 29 (nI (pathS (uM A w) (kM A w) s0 (k + 1) j b L).2.length)) (va_up A 30 (plA w (A 30) 0 (pathS (uM A w) (kM A w) s0 (k + 1) j b L).2)))) (F0 m 68 ls []) := by
        intro ls H locs hl hP hD hS
        cases hnx : nx L b j 0 4 with
        | none =>
          rw [hnx, optA_none] at hl
          refine lv_iload C.1 C.2.1 dX4_hasPath_68 (lv_at hl 0 rfl) ?_
          refine lv_if_ge (tgt := 75) C.1 C.2.1 dX4_hasPath_70 (by decide) (fun h => absurd h (by decide)) (fun _ => ?_)
          refine lv_iconst (v := nI 0) C.1 C.2.1 dX4_hasPath_73 (by decide +kernel) ?_
          exact cm_zret C hP hD hS dX4_hasPath_74 (by decide +kernel) (by simp only [pathS, hnx]; rfl) (by simp only [pathS, hnx]; rw [← hLj])
        | some p9 =>
          rw [hnx, optA_some] at hl
          have hp := nx_some _ _ hnx
          have hor := otherS_lt s0 (kM A w p9) b
          have e1 : upd (plA w (A 30) 0 L) j (nI (36 * w + p9)) = plA w (A 30) 0 (L ++ [p9]) := by rw [plA_app, Nat.zero_add, hLj]
          have hq1 := hm1_lt s0 (kM A w p9)
          have hq2 := hm2_lt s0 (kM A w p9)
          cases hem : emS (uM A w) (otherS s0 (kM A w p9) b) with
          | some e9 =>
            have he := emS_lt hem (by omega)
            have e3 : upd (plA w (A 30) 0 (L ++ [p9])) (j + 1) (nI (36 * w + e9)) = plA w (A 30) 0 (L ++ [p9] ++ [e9]) := by rw [plA_app w e9, Nat.zero_add, List.length_append, hLj]; rfl
            by_cases hb1 : b = hm1 s0 (kM A w p9)
            · refine lv_iload C.1 C.2.1 dX4_hasPath_68 (lv_at hl 0 rfl) ?_
              refine lv_if_ge (tgt := 75) C.1 C.2.1 dX4_hasPath_70 (by decide) (fun _ => ?_) (fun h => absurd (nI_pos' (by omega)) h)
              refine lv_aload_n C.1 C.2.1 dX4_hasPath_75 rfl (lv_at hl 3 rfl) ?_
              refine va_get (ci := 4) (C := RX4) (T := TX4) (N := 34) C.1 C.2.1 C.2.2.2.2.2.1 ui_X4 C.2.2.2.2.1 C.2.2.2.2.2.2.2.1 hP 0 (rfl) rfl 30 (by decide) (C.2.2.2.2.2.1 _ tw_486) (fun _ h9 => h9) rfl dX4_hasPath_76 ?_
              refine lv_aload_n C.1 C.2.1 dX4_hasPath_79 rfl (lv_at hl 3 rfl) ?_
              refine va_get (v := .int (nI j)) (ci := 4) (C := RX4) (T := TX4) (N := 34) C.1 C.2.1 C.2.2.2.2.2.1 ui_X4 C.2.2.2.2.1 C.2.2.2.2.2.2.2.1 hP 0 (rfl) rfl 29 (by decide) (C.2.2.2.2.2.1 _ tw_485) (fun _ h9 => h9) rfl dX4_hasPath_80 ?_
              refine lv_iload C.1 C.2.1 dX4_hasPath_83 (lv_at hl 0 rfl) ?_
              refine va_iast (f := plA w (A 30) 0 L) C.1 C.2.1 C.2.2.2.2.2.2.2.1 hP hD hS 21 0 (rfl) rfl (vp_in_nI (by omega) (by decide)) dX4_hasPath_85 (fun H locs hP hD hS => ?_)
              rw [nI_clamp (by omega), e1] at hP hD
              have hP : va_P D vwCl (mw ad cI cZ X (va_up I 29 (nI j)) (va_up A 30 (plA w (A 30) 0 (L ++ [p9])))) H := hP
              have hD : va_D (cm_A (mw ad cI cZ X I A)) (mw ad cI cZ X (va_up I 29 (nI j)) (va_up A 30 (plA w (A 30) 0 (L ++ [p9])))) := hD
              refine lv_aload_n C.1 C.2.1 dX4_hasPath_86 rfl (lv_at hl 3 rfl) ?_
              refine lv_dup C.1 C.2.1 dX4_hasPath_87 rfl ?_
              refine va_get (v := .int (nI j)) (ci := 4) (C := RX4) (T := TX4) (N := 34) C.1 C.2.1 C.2.2.2.2.2.1 ui_X4 C.2.2.2.2.1 C.2.2.2.2.2.2.2.1 hP 0 (rfl) rfl 29 (by decide) (C.2.2.2.2.2.1 _ tw_485) (fun _ h9 => h9) rfl dX4_hasPath_88 ?_
              refine lv_iconst (v := nI 1) C.1 C.2.1 dX4_hasPath_91 (by decide +kernel) ?_
              refine lv_iadd C.1 C.2.1 dX4_hasPath_92 ?_
              rw [nI_add]
              refine va_put (ci := 4) (C := RX4) (T := TX4) (N := 34) (ty := .int) C.1 C.2.1 C.2.2.2.2.2.1 ui_X4 tyX4 tyX4_ok nmX4 C.2.2.2.2.1 C.2.2.2.2.2.2.2.1 hP hD hS 0 (rfl) rfl 29 (by decide) (C.2.2.2.2.2.1 _ tw_485) (fun _ h9 => h9) rfl (by decide +kernel) rfl rfl (Nat.le_of_ble_eq_true rfl) dX4_hasPath_93 (fun H locs hP hD hS => ?_)
              have hP : va_P D vwCl (mw ad cI cZ X (va_up I 29 (nI (j + 1))) (va_up A 30 (plA w (A 30) 0 (L ++ [p9])))) H := hP
              have hD : va_D (cm_A (mw ad cI cZ X I A)) (mw ad cI cZ X (va_up I 29 (nI (j + 1))) (va_up A 30 (plA w (A 30) 0 (L ++ [p9])))) := hD
              refine lv_aload_n C.1 C.2.1 dX4_hasPath_96 rfl (lv_at hl 3 rfl) ?_
              refine va_get (ci := 4) (C := RX4) (T := TX4) (N := 34) C.1 C.2.1 C.2.2.2.2.2.1 ui_X4 C.2.2.2.2.1 C.2.2.2.2.2.2.2.1 hP 0 (rfl) rfl 2 (by decide) (C.2.2.2.2.2.1 _ tw_458) (fun _ h9 => h9) rfl dX4_hasPath_97 ?_
              refine lv_iload C.1 C.2.1 dX4_hasPath_100 (lv_at hl 0 rfl) ?_
              refine va_iald (f := A 2) C.1 C.2.1 C.2.2.2.2.2.2.2.1 hP 2 0 (rfl) rfl (vp_in_nI (by omega) (by decide)) dX4_hasPath_102 ?_
              rw [nI_clamp (by omega), show A 2 (36 * w + p9) = kM A w p9 from rfl]
              refine lv_iload_n C.1 C.2.1 dX4_hasPath_103 rfl (lv_at hl 5 rfl) ?_
              refine lv_iconst (v := nI 0) C.1 C.2.1 dX4_hasPath_104 (by decide +kernel) ?_
              refine cm_cS1 3 C (k_X4_homeBy1 l D cI cZ cJ (mw ad cI cZ X (va_up I 29 (nI (j + 1))) (va_up A 30 (plA w (A 30) 0 (L ++ [p9])))) (kM A w p9) s0) tw_572 tw_573 tw_5 tw_574 rfl rfl (by decide +kernel) ⟨Nat.le_of_ble_eq_true rfl, Nat.le_of_ble_eq_true rfl⟩ ⟨Nat.zero_le _, Nat.zero_le _⟩ hP hD hS hl.1 rfl rfl (Nat.le_of_ble_eq_true rfl) dX4_hasPath_105 (fun H locs hP hD hS => ?_)
              refine lv_istore (lv' := [(7, _), (6, _), (5, _), (4, _), (0, _), (1, _), (2, _), (3, _)]) C.1 C.2.1 dX4_hasPath_108 hl (by decide) rfl (fun ls hl => ?_)
              refine lv_iload C.1 C.2.1 dX4_hasPath_110 (lv_at hl 0 rfl) ?_
              refine lv_iload C.1 C.2.1 dX4_hasPath_112 (lv_at hl 3 rfl) ?_
              refine lv_icmp_ne (tgt := 132) C.1 C.2.1 dX4_hasPath_114 (by decide) (fun h => absurd (by rw [← hb1]) h) (fun _ => ?_)
              refine lv_aload_n C.1 C.2.1 dX4_hasPath_117 rfl (lv_at hl 4 rfl) ?_
              refine va_get (ci := 4) (C := RX4) (T := TX4) (N := 34) C.1 C.2.1 C.2.2.2.2.2.1 ui_X4 C.2.2.2.2.1 C.2.2.2.2.2.2.2.1 hP 0 (rfl) rfl 2 (by decide) (C.2.2.2.2.2.1 _ tw_458) (fun _ h9 => h9) rfl dX4_hasPath_118 ?_
              refine lv_iload C.1 C.2.1 dX4_hasPath_121 (lv_at hl 1 rfl) ?_
              refine va_iald (f := A 2) C.1 C.2.1 C.2.2.2.2.2.2.2.1 hP 2 0 (rfl) rfl (vp_in_nI (by omega) (by decide)) dX4_hasPath_123 ?_
              rw [nI_clamp (by omega), show A 2 (36 * w + p9) = kM A w p9 from rfl]
              refine lv_iload_n C.1 C.2.1 dX4_hasPath_124 rfl (lv_at hl 6 rfl) ?_
              refine lv_iconst (v := nI 1) C.1 C.2.1 dX4_hasPath_125 (by decide +kernel) ?_
              refine cm_cS1 3 C (k_X4_homeBy2 l D cI cZ cJ (mw ad cI cZ X (va_up I 29 (nI (j + 1))) (va_up A 30 (plA w (A 30) 0 (L ++ [p9])))) (kM A w p9) s0) tw_572 tw_573 tw_5 tw_574 rfl rfl (by decide +kernel) ⟨Nat.le_of_ble_eq_true rfl, Nat.le_of_ble_eq_true rfl⟩ ⟨Nat.zero_le _, Nat.zero_le _⟩ hP hD hS hl.1 rfl rfl (Nat.le_of_ble_eq_true rfl) dX4_hasPath_126 (fun H locs hP hD hS => ?_)
              refine lv_goto (tgt := 134) C.1 C.2.1 dX4_hasPath_129 (by decide) ?_
              rw [show hm2 s0 (kM A w p9) = otherS s0 (kM A w p9) b from (if_pos hb1).symm]
              refine lv_istore (lv' := [(4, _), (7, _), (6, _), (5, _), (0, _), (1, _), (2, _), (3, _)]) C.1 C.2.1 dX4_hasPath_134 hl (by decide) rfl (fun ls hl => ?_)
              refine lv_aload_n C.1 C.2.1 dX4_hasPath_136 rfl (lv_at hl 4 rfl) ?_
              refine lv_iload_n C.1 C.2.1 dX4_hasPath_137 rfl (lv_at hl 5 rfl) ?_
              refine lv_iload C.1 C.2.1 dX4_hasPath_138 (lv_at hl 0 rfl) ?_
              refine cm_cV1 (q0 := 0) 2 C (k_X4_empty l D cI cZ cJ ad X (va_up I 29 (nI (j + 1))) (va_up A 30 (plA w (A 30) 0 (L ++ [p9]))) w (otherS s0 (kM A w p9) b) hw0 (by omega)) tw_612 tw_614 ts_20 tw_5 tw_615 rfl rfl (rfl) rfl (by decide +kernel) ⟨Nat.le_of_ble_eq_true rfl, Nat.le_of_ble_eq_true rfl⟩ ⟨Nat.zero_le _, Nat.zero_le _⟩ hP hD hS hl.1 rfl rfl (Nat.le_of_ble_eq_true rfl) dX4_hasPath_140 (fun H locs hP hD hS => ?_)
              rw [show uM (va_up A 30 (plA w (A 30) 0 (L ++ [p9]))) w = uM A w from rfl, hem, optA_some]
              refine lv_istore (lv' := [(8, _), (4, _), (7, _), (6, _), (5, _), (0, _), (1, _), (2, _), (3, _)]) C.1 C.2.1 dX4_hasPath_143 hl (by decide) rfl (fun ls hl => ?_)
              refine lv_iload C.1 C.2.1 dX4_hasPath_145 (lv_at hl 0 rfl) ?_
              refine lv_if_lt (tgt := 173) C.1 C.2.1 dX4_hasPath_147 (by decide) (fun h => absurd h (nI_pos (by omega))) (fun _ => ?_)
              refine lv_aload_n C.1 C.2.1 dX4_hasPath_150 rfl (lv_at hl 5 rfl) ?_
              refine va_get (ci := 4) (C := RX4) (T := TX4) (N := 34) C.1 C.2.1 C.2.2.2.2.2.1 ui_X4 C.2.2.2.2.1 C.2.2.2.2.2.2.2.1 hP 0 (rfl) rfl 30 (by decide) (C.2.2.2.2.2.1 _ tw_486) (fun _ h9 => h9) rfl dX4_hasPath_151 ?_
              refine lv_aload_n C.1 C.2.1 dX4_hasPath_154 rfl (lv_at hl 5 rfl) ?_
              refine va_get (v := .int (nI (j + 1))) (ci := 4) (C := RX4) (T := TX4) (N := 34) C.1 C.2.1 C.2.2.2.2.2.1 ui_X4 C.2.2.2.2.1 C.2.2.2.2.2.2.2.1 hP 0 (rfl) rfl 29 (by decide) (C.2.2.2.2.2.1 _ tw_485) (fun _ h9 => h9) rfl dX4_hasPath_155 ?_
              refine lv_iload C.1 C.2.1 dX4_hasPath_158 (lv_at hl 0 rfl) ?_
              refine va_iast (f := plA w (A 30) 0 (L ++ [p9])) C.1 C.2.1 C.2.2.2.2.2.2.2.1 hP hD hS 21 0 (rfl) rfl (vp_in_nI (by omega) (by decide)) dX4_hasPath_160 (fun H locs hP hD hS => ?_)
              rw [nI_clamp (by omega), e3] at hP hD
              have hP : va_P D vwCl (mw ad cI cZ X (va_up I 29 (nI (j + 1))) (va_up A 30 (plA w (A 30) 0 (L ++ [p9] ++ [e9])))) H := hP
              have hD : va_D (cm_A (mw ad cI cZ X I A)) (mw ad cI cZ X (va_up I 29 (nI (j + 1))) (va_up A 30 (plA w (A 30) 0 (L ++ [p9] ++ [e9])))) := hD
              refine lv_aload_n C.1 C.2.1 dX4_hasPath_161 rfl (lv_at hl 5 rfl) ?_
              refine lv_dup C.1 C.2.1 dX4_hasPath_162 rfl ?_
              refine va_get (v := .int (nI (j + 1))) (ci := 4) (C := RX4) (T := TX4) (N := 34) C.1 C.2.1 C.2.2.2.2.2.1 ui_X4 C.2.2.2.2.1 C.2.2.2.2.2.2.2.1 hP 0 (rfl) rfl 29 (by decide) (C.2.2.2.2.2.1 _ tw_485) (fun _ h9 => h9) rfl dX4_hasPath_163 ?_
              refine lv_iconst (v := nI 1) C.1 C.2.1 dX4_hasPath_166 (by decide +kernel) ?_
              refine lv_iadd C.1 C.2.1 dX4_hasPath_167 ?_
              rw [nI_add]
              refine va_put (ci := 4) (C := RX4) (T := TX4) (N := 34) (ty := .int) C.1 C.2.1 C.2.2.2.2.2.1 ui_X4 tyX4 tyX4_ok nmX4 C.2.2.2.2.1 C.2.2.2.2.2.2.2.1 hP hD hS 0 (rfl) rfl 29 (by decide) (C.2.2.2.2.2.1 _ tw_485) (fun _ h9 => h9) rfl (by decide +kernel) rfl rfl (Nat.le_of_ble_eq_true rfl) dX4_hasPath_168 (fun H locs hP hD hS => ?_)
              have hP : va_P D vwCl (mw ad cI cZ X (va_up I 29 (nI (j + 1 + 1))) (va_up A 30 (plA w (A 30) 0 (L ++ [p9] ++ [e9])))) H := hP
              have hD : va_D (cm_A (mw ad cI cZ X I A)) (mw ad cI cZ X (va_up I 29 (nI (j + 1 + 1))) (va_up A 30 (plA w (A 30) 0 (L ++ [p9] ++ [e9])))) := hD
              refine lv_iconst (v := nI 1) C.1 C.2.1 dX4_hasPath_171 (by decide +kernel) ?_
              exact cm_zret C hP hD hS dX4_hasPath_172 (by decide +kernel) (by simp only [pathS, hnx, hem]; rfl) (by simp only [pathS, hnx, hem, List.length_append, hLj]; rfl)
            · refine lv_iload C.1 C.2.1 dX4_hasPath_68 (lv_at hl 0 rfl) ?_
              refine lv_if_ge (tgt := 75) C.1 C.2.1 dX4_hasPath_70 (by decide) (fun _ => ?_) (fun h => absurd (nI_pos' (by omega)) h)
              refine lv_aload_n C.1 C.2.1 dX4_hasPath_75 rfl (lv_at hl 3 rfl) ?_
              refine va_get (ci := 4) (C := RX4) (T := TX4) (N := 34) C.1 C.2.1 C.2.2.2.2.2.1 ui_X4 C.2.2.2.2.1 C.2.2.2.2.2.2.2.1 hP 0 (rfl) rfl 30 (by decide) (C.2.2.2.2.2.1 _ tw_486) (fun _ h9 => h9) rfl dX4_hasPath_76 ?_
              refine lv_aload_n C.1 C.2.1 dX4_hasPath_79 rfl (lv_at hl 3 rfl) ?_
              refine va_get (v := .int (nI j)) (ci := 4) (C := RX4) (T := TX4) (N := 34) C.1 C.2.1 C.2.2.2.2.2.1 ui_X4 C.2.2.2.2.1 C.2.2.2.2.2.2.2.1 hP 0 (rfl) rfl 29 (by decide) (C.2.2.2.2.2.1 _ tw_485) (fun _ h9 => h9) rfl dX4_hasPath_80 ?_
              refine lv_iload C.1 C.2.1 dX4_hasPath_83 (lv_at hl 0 rfl) ?_
              refine va_iast (f := plA w (A 30) 0 L) C.1 C.2.1 C.2.2.2.2.2.2.2.1 hP hD hS 21 0 (rfl) rfl (vp_in_nI (by omega) (by decide)) dX4_hasPath_85 (fun H locs hP hD hS => ?_)
              rw [nI_clamp (by omega), e1] at hP hD
              have hP : va_P D vwCl (mw ad cI cZ X (va_up I 29 (nI j)) (va_up A 30 (plA w (A 30) 0 (L ++ [p9])))) H := hP
              have hD : va_D (cm_A (mw ad cI cZ X I A)) (mw ad cI cZ X (va_up I 29 (nI j)) (va_up A 30 (plA w (A 30) 0 (L ++ [p9])))) := hD
              refine lv_aload_n C.1 C.2.1 dX4_hasPath_86 rfl (lv_at hl 3 rfl) ?_
              refine lv_dup C.1 C.2.1 dX4_hasPath_87 rfl ?_
              refine va_get (v := .int (nI j)) (ci := 4) (C := RX4) (T := TX4) (N := 34) C.1 C.2.1 C.2.2.2.2.2.1 ui_X4 C.2.2.2.2.1 C.2.2.2.2.2.2.2.1 hP 0 (rfl) rfl 29 (by decide) (C.2.2.2.2.2.1 _ tw_485) (fun _ h9 => h9) rfl dX4_hasPath_88 ?_
              refine lv_iconst (v := nI 1) C.1 C.2.1 dX4_hasPath_91 (by decide +kernel) ?_
              refine lv_iadd C.1 C.2.1 dX4_hasPath_92 ?_
              rw [nI_add]
              refine va_put (ci := 4) (C := RX4) (T := TX4) (N := 34) (ty := .int) C.1 C.2.1 C.2.2.2.2.2.1 ui_X4 tyX4 tyX4_ok nmX4 C.2.2.2.2.1 C.2.2.2.2.2.2.2.1 hP hD hS 0 (rfl) rfl 29 (by decide) (C.2.2.2.2.2.1 _ tw_485) (fun _ h9 => h9) rfl (by decide +kernel) rfl rfl (Nat.le_of_ble_eq_true rfl) dX4_hasPath_93 (fun H locs hP hD hS => ?_)
              have hP : va_P D vwCl (mw ad cI cZ X (va_up I 29 (nI (j + 1))) (va_up A 30 (plA w (A 30) 0 (L ++ [p9])))) H := hP
              have hD : va_D (cm_A (mw ad cI cZ X I A)) (mw ad cI cZ X (va_up I 29 (nI (j + 1))) (va_up A 30 (plA w (A 30) 0 (L ++ [p9])))) := hD
              refine lv_aload_n C.1 C.2.1 dX4_hasPath_96 rfl (lv_at hl 3 rfl) ?_
              refine va_get (ci := 4) (C := RX4) (T := TX4) (N := 34) C.1 C.2.1 C.2.2.2.2.2.1 ui_X4 C.2.2.2.2.1 C.2.2.2.2.2.2.2.1 hP 0 (rfl) rfl 2 (by decide) (C.2.2.2.2.2.1 _ tw_458) (fun _ h9 => h9) rfl dX4_hasPath_97 ?_
              refine lv_iload C.1 C.2.1 dX4_hasPath_100 (lv_at hl 0 rfl) ?_
              refine va_iald (f := A 2) C.1 C.2.1 C.2.2.2.2.2.2.2.1 hP 2 0 (rfl) rfl (vp_in_nI (by omega) (by decide)) dX4_hasPath_102 ?_
              rw [nI_clamp (by omega), show A 2 (36 * w + p9) = kM A w p9 from rfl]
              refine lv_iload_n C.1 C.2.1 dX4_hasPath_103 rfl (lv_at hl 5 rfl) ?_
              refine lv_iconst (v := nI 0) C.1 C.2.1 dX4_hasPath_104 (by decide +kernel) ?_
              refine cm_cS1 3 C (k_X4_homeBy1 l D cI cZ cJ (mw ad cI cZ X (va_up I 29 (nI (j + 1))) (va_up A 30 (plA w (A 30) 0 (L ++ [p9])))) (kM A w p9) s0) tw_572 tw_573 tw_5 tw_574 rfl rfl (by decide +kernel) ⟨Nat.le_of_ble_eq_true rfl, Nat.le_of_ble_eq_true rfl⟩ ⟨Nat.zero_le _, Nat.zero_le _⟩ hP hD hS hl.1 rfl rfl (Nat.le_of_ble_eq_true rfl) dX4_hasPath_105 (fun H locs hP hD hS => ?_)
              refine lv_istore (lv' := [(7, _), (6, _), (5, _), (4, _), (0, _), (1, _), (2, _), (3, _)]) C.1 C.2.1 dX4_hasPath_108 hl (by decide) rfl (fun ls hl => ?_)
              refine lv_iload C.1 C.2.1 dX4_hasPath_110 (lv_at hl 0 rfl) ?_
              refine lv_iload C.1 C.2.1 dX4_hasPath_112 (lv_at hl 3 rfl) ?_
              refine lv_icmp_ne (tgt := 132) C.1 C.2.1 dX4_hasPath_114 (by decide) (fun _ => ?_) (fun h => absurd h (fun q => hb1 ((nI_eq (by omega) (by omega)).mp q).symm))
              refine lv_iload C.1 C.2.1 dX4_hasPath_132 (lv_at hl 0 rfl) ?_
              rw [show hm1 s0 (kM A w p9) = otherS s0 (kM A w p9) b from (if_neg hb1).symm]
              refine lv_istore (lv' := [(4, _), (7, _), (6, _), (5, _), (0, _), (1, _), (2, _), (3, _)]) C.1 C.2.1 dX4_hasPath_134 hl (by decide) rfl (fun ls hl => ?_)
              refine lv_aload_n C.1 C.2.1 dX4_hasPath_136 rfl (lv_at hl 4 rfl) ?_
              refine lv_iload_n C.1 C.2.1 dX4_hasPath_137 rfl (lv_at hl 5 rfl) ?_
              refine lv_iload C.1 C.2.1 dX4_hasPath_138 (lv_at hl 0 rfl) ?_
              refine cm_cV1 (q0 := 0) 2 C (k_X4_empty l D cI cZ cJ ad X (va_up I 29 (nI (j + 1))) (va_up A 30 (plA w (A 30) 0 (L ++ [p9]))) w (otherS s0 (kM A w p9) b) hw0 (by omega)) tw_612 tw_614 ts_20 tw_5 tw_615 rfl rfl (rfl) rfl (by decide +kernel) ⟨Nat.le_of_ble_eq_true rfl, Nat.le_of_ble_eq_true rfl⟩ ⟨Nat.zero_le _, Nat.zero_le _⟩ hP hD hS hl.1 rfl rfl (Nat.le_of_ble_eq_true rfl) dX4_hasPath_140 (fun H locs hP hD hS => ?_)
              rw [show uM (va_up A 30 (plA w (A 30) 0 (L ++ [p9]))) w = uM A w from rfl, hem, optA_some]
              refine lv_istore (lv' := [(8, _), (4, _), (7, _), (6, _), (5, _), (0, _), (1, _), (2, _), (3, _)]) C.1 C.2.1 dX4_hasPath_143 hl (by decide) rfl (fun ls hl => ?_)
              refine lv_iload C.1 C.2.1 dX4_hasPath_145 (lv_at hl 0 rfl) ?_
              refine lv_if_lt (tgt := 173) C.1 C.2.1 dX4_hasPath_147 (by decide) (fun h => absurd h (nI_pos (by omega))) (fun _ => ?_)
              refine lv_aload_n C.1 C.2.1 dX4_hasPath_150 rfl (lv_at hl 5 rfl) ?_
              refine va_get (ci := 4) (C := RX4) (T := TX4) (N := 34) C.1 C.2.1 C.2.2.2.2.2.1 ui_X4 C.2.2.2.2.1 C.2.2.2.2.2.2.2.1 hP 0 (rfl) rfl 30 (by decide) (C.2.2.2.2.2.1 _ tw_486) (fun _ h9 => h9) rfl dX4_hasPath_151 ?_
              refine lv_aload_n C.1 C.2.1 dX4_hasPath_154 rfl (lv_at hl 5 rfl) ?_
              refine va_get (v := .int (nI (j + 1))) (ci := 4) (C := RX4) (T := TX4) (N := 34) C.1 C.2.1 C.2.2.2.2.2.1 ui_X4 C.2.2.2.2.1 C.2.2.2.2.2.2.2.1 hP 0 (rfl) rfl 29 (by decide) (C.2.2.2.2.2.1 _ tw_485) (fun _ h9 => h9) rfl dX4_hasPath_155 ?_
              refine lv_iload C.1 C.2.1 dX4_hasPath_158 (lv_at hl 0 rfl) ?_
              refine va_iast (f := plA w (A 30) 0 (L ++ [p9])) C.1 C.2.1 C.2.2.2.2.2.2.2.1 hP hD hS 21 0 (rfl) rfl (vp_in_nI (by omega) (by decide)) dX4_hasPath_160 (fun H locs hP hD hS => ?_)
              rw [nI_clamp (by omega), e3] at hP hD
              have hP : va_P D vwCl (mw ad cI cZ X (va_up I 29 (nI (j + 1))) (va_up A 30 (plA w (A 30) 0 (L ++ [p9] ++ [e9])))) H := hP
              have hD : va_D (cm_A (mw ad cI cZ X I A)) (mw ad cI cZ X (va_up I 29 (nI (j + 1))) (va_up A 30 (plA w (A 30) 0 (L ++ [p9] ++ [e9])))) := hD
              refine lv_aload_n C.1 C.2.1 dX4_hasPath_161 rfl (lv_at hl 5 rfl) ?_
              refine lv_dup C.1 C.2.1 dX4_hasPath_162 rfl ?_
              refine va_get (v := .int (nI (j + 1))) (ci := 4) (C := RX4) (T := TX4) (N := 34) C.1 C.2.1 C.2.2.2.2.2.1 ui_X4 C.2.2.2.2.1 C.2.2.2.2.2.2.2.1 hP 0 (rfl) rfl 29 (by decide) (C.2.2.2.2.2.1 _ tw_485) (fun _ h9 => h9) rfl dX4_hasPath_163 ?_
              refine lv_iconst (v := nI 1) C.1 C.2.1 dX4_hasPath_166 (by decide +kernel) ?_
              refine lv_iadd C.1 C.2.1 dX4_hasPath_167 ?_
              rw [nI_add]
              refine va_put (ci := 4) (C := RX4) (T := TX4) (N := 34) (ty := .int) C.1 C.2.1 C.2.2.2.2.2.1 ui_X4 tyX4 tyX4_ok nmX4 C.2.2.2.2.1 C.2.2.2.2.2.2.2.1 hP hD hS 0 (rfl) rfl 29 (by decide) (C.2.2.2.2.2.1 _ tw_485) (fun _ h9 => h9) rfl (by decide +kernel) rfl rfl (Nat.le_of_ble_eq_true rfl) dX4_hasPath_168 (fun H locs hP hD hS => ?_)
              have hP : va_P D vwCl (mw ad cI cZ X (va_up I 29 (nI (j + 1 + 1))) (va_up A 30 (plA w (A 30) 0 (L ++ [p9] ++ [e9])))) H := hP
              have hD : va_D (cm_A (mw ad cI cZ X I A)) (mw ad cI cZ X (va_up I 29 (nI (j + 1 + 1))) (va_up A 30 (plA w (A 30) 0 (L ++ [p9] ++ [e9])))) := hD
              refine lv_iconst (v := nI 1) C.1 C.2.1 dX4_hasPath_171 (by decide +kernel) ?_
              exact cm_zret C hP hD hS dX4_hasPath_172 (by decide +kernel) (by simp only [pathS, hnx, hem]; rfl) (by simp only [pathS, hnx, hem, List.length_append, hLj]; rfl)
          | none =>
            by_cases hb1 : b = hm1 s0 (kM A w p9)
            · refine lv_iload C.1 C.2.1 dX4_hasPath_68 (lv_at hl 0 rfl) ?_
              refine lv_if_ge (tgt := 75) C.1 C.2.1 dX4_hasPath_70 (by decide) (fun _ => ?_) (fun h => absurd (nI_pos' (by omega)) h)
              refine lv_aload_n C.1 C.2.1 dX4_hasPath_75 rfl (lv_at hl 3 rfl) ?_
              refine va_get (ci := 4) (C := RX4) (T := TX4) (N := 34) C.1 C.2.1 C.2.2.2.2.2.1 ui_X4 C.2.2.2.2.1 C.2.2.2.2.2.2.2.1 hP 0 (rfl) rfl 30 (by decide) (C.2.2.2.2.2.1 _ tw_486) (fun _ h9 => h9) rfl dX4_hasPath_76 ?_
              refine lv_aload_n C.1 C.2.1 dX4_hasPath_79 rfl (lv_at hl 3 rfl) ?_
              refine va_get (v := .int (nI j)) (ci := 4) (C := RX4) (T := TX4) (N := 34) C.1 C.2.1 C.2.2.2.2.2.1 ui_X4 C.2.2.2.2.1 C.2.2.2.2.2.2.2.1 hP 0 (rfl) rfl 29 (by decide) (C.2.2.2.2.2.1 _ tw_485) (fun _ h9 => h9) rfl dX4_hasPath_80 ?_
              refine lv_iload C.1 C.2.1 dX4_hasPath_83 (lv_at hl 0 rfl) ?_
              refine va_iast (f := plA w (A 30) 0 L) C.1 C.2.1 C.2.2.2.2.2.2.2.1 hP hD hS 21 0 (rfl) rfl (vp_in_nI (by omega) (by decide)) dX4_hasPath_85 (fun H locs hP hD hS => ?_)
              rw [nI_clamp (by omega), e1] at hP hD
              have hP : va_P D vwCl (mw ad cI cZ X (va_up I 29 (nI j)) (va_up A 30 (plA w (A 30) 0 (L ++ [p9])))) H := hP
              have hD : va_D (cm_A (mw ad cI cZ X I A)) (mw ad cI cZ X (va_up I 29 (nI j)) (va_up A 30 (plA w (A 30) 0 (L ++ [p9])))) := hD
              refine lv_aload_n C.1 C.2.1 dX4_hasPath_86 rfl (lv_at hl 3 rfl) ?_
              refine lv_dup C.1 C.2.1 dX4_hasPath_87 rfl ?_
              refine va_get (v := .int (nI j)) (ci := 4) (C := RX4) (T := TX4) (N := 34) C.1 C.2.1 C.2.2.2.2.2.1 ui_X4 C.2.2.2.2.1 C.2.2.2.2.2.2.2.1 hP 0 (rfl) rfl 29 (by decide) (C.2.2.2.2.2.1 _ tw_485) (fun _ h9 => h9) rfl dX4_hasPath_88 ?_
              refine lv_iconst (v := nI 1) C.1 C.2.1 dX4_hasPath_91 (by decide +kernel) ?_
              refine lv_iadd C.1 C.2.1 dX4_hasPath_92 ?_
              rw [nI_add]
              refine va_put (ci := 4) (C := RX4) (T := TX4) (N := 34) (ty := .int) C.1 C.2.1 C.2.2.2.2.2.1 ui_X4 tyX4 tyX4_ok nmX4 C.2.2.2.2.1 C.2.2.2.2.2.2.2.1 hP hD hS 0 (rfl) rfl 29 (by decide) (C.2.2.2.2.2.1 _ tw_485) (fun _ h9 => h9) rfl (by decide +kernel) rfl rfl (Nat.le_of_ble_eq_true rfl) dX4_hasPath_93 (fun H locs hP hD hS => ?_)
              have hP : va_P D vwCl (mw ad cI cZ X (va_up I 29 (nI (j + 1))) (va_up A 30 (plA w (A 30) 0 (L ++ [p9])))) H := hP
              have hD : va_D (cm_A (mw ad cI cZ X I A)) (mw ad cI cZ X (va_up I 29 (nI (j + 1))) (va_up A 30 (plA w (A 30) 0 (L ++ [p9])))) := hD
              refine lv_aload_n C.1 C.2.1 dX4_hasPath_96 rfl (lv_at hl 3 rfl) ?_
              refine va_get (ci := 4) (C := RX4) (T := TX4) (N := 34) C.1 C.2.1 C.2.2.2.2.2.1 ui_X4 C.2.2.2.2.1 C.2.2.2.2.2.2.2.1 hP 0 (rfl) rfl 2 (by decide) (C.2.2.2.2.2.1 _ tw_458) (fun _ h9 => h9) rfl dX4_hasPath_97 ?_
              refine lv_iload C.1 C.2.1 dX4_hasPath_100 (lv_at hl 0 rfl) ?_
              refine va_iald (f := A 2) C.1 C.2.1 C.2.2.2.2.2.2.2.1 hP 2 0 (rfl) rfl (vp_in_nI (by omega) (by decide)) dX4_hasPath_102 ?_
              rw [nI_clamp (by omega), show A 2 (36 * w + p9) = kM A w p9 from rfl]
              refine lv_iload_n C.1 C.2.1 dX4_hasPath_103 rfl (lv_at hl 5 rfl) ?_
              refine lv_iconst (v := nI 0) C.1 C.2.1 dX4_hasPath_104 (by decide +kernel) ?_
              refine cm_cS1 3 C (k_X4_homeBy1 l D cI cZ cJ (mw ad cI cZ X (va_up I 29 (nI (j + 1))) (va_up A 30 (plA w (A 30) 0 (L ++ [p9])))) (kM A w p9) s0) tw_572 tw_573 tw_5 tw_574 rfl rfl (by decide +kernel) ⟨Nat.le_of_ble_eq_true rfl, Nat.le_of_ble_eq_true rfl⟩ ⟨Nat.zero_le _, Nat.zero_le _⟩ hP hD hS hl.1 rfl rfl (Nat.le_of_ble_eq_true rfl) dX4_hasPath_105 (fun H locs hP hD hS => ?_)
              refine lv_istore (lv' := [(7, _), (6, _), (5, _), (4, _), (0, _), (1, _), (2, _), (3, _)]) C.1 C.2.1 dX4_hasPath_108 hl (by decide) rfl (fun ls hl => ?_)
              refine lv_iload C.1 C.2.1 dX4_hasPath_110 (lv_at hl 0 rfl) ?_
              refine lv_iload C.1 C.2.1 dX4_hasPath_112 (lv_at hl 3 rfl) ?_
              refine lv_icmp_ne (tgt := 132) C.1 C.2.1 dX4_hasPath_114 (by decide) (fun h => absurd (by rw [← hb1]) h) (fun _ => ?_)
              refine lv_aload_n C.1 C.2.1 dX4_hasPath_117 rfl (lv_at hl 4 rfl) ?_
              refine va_get (ci := 4) (C := RX4) (T := TX4) (N := 34) C.1 C.2.1 C.2.2.2.2.2.1 ui_X4 C.2.2.2.2.1 C.2.2.2.2.2.2.2.1 hP 0 (rfl) rfl 2 (by decide) (C.2.2.2.2.2.1 _ tw_458) (fun _ h9 => h9) rfl dX4_hasPath_118 ?_
              refine lv_iload C.1 C.2.1 dX4_hasPath_121 (lv_at hl 1 rfl) ?_
              refine va_iald (f := A 2) C.1 C.2.1 C.2.2.2.2.2.2.2.1 hP 2 0 (rfl) rfl (vp_in_nI (by omega) (by decide)) dX4_hasPath_123 ?_
              rw [nI_clamp (by omega), show A 2 (36 * w + p9) = kM A w p9 from rfl]
              refine lv_iload_n C.1 C.2.1 dX4_hasPath_124 rfl (lv_at hl 6 rfl) ?_
              refine lv_iconst (v := nI 1) C.1 C.2.1 dX4_hasPath_125 (by decide +kernel) ?_
              refine cm_cS1 3 C (k_X4_homeBy2 l D cI cZ cJ (mw ad cI cZ X (va_up I 29 (nI (j + 1))) (va_up A 30 (plA w (A 30) 0 (L ++ [p9])))) (kM A w p9) s0) tw_572 tw_573 tw_5 tw_574 rfl rfl (by decide +kernel) ⟨Nat.le_of_ble_eq_true rfl, Nat.le_of_ble_eq_true rfl⟩ ⟨Nat.zero_le _, Nat.zero_le _⟩ hP hD hS hl.1 rfl rfl (Nat.le_of_ble_eq_true rfl) dX4_hasPath_126 (fun H locs hP hD hS => ?_)
              refine lv_goto (tgt := 134) C.1 C.2.1 dX4_hasPath_129 (by decide) ?_
              rw [show hm2 s0 (kM A w p9) = otherS s0 (kM A w p9) b from (if_pos hb1).symm]
              refine lv_istore (lv' := [(4, _), (7, _), (6, _), (5, _), (0, _), (1, _), (2, _), (3, _)]) C.1 C.2.1 dX4_hasPath_134 hl (by decide) rfl (fun ls hl => ?_)
              refine lv_aload_n C.1 C.2.1 dX4_hasPath_136 rfl (lv_at hl 4 rfl) ?_
              refine lv_iload_n C.1 C.2.1 dX4_hasPath_137 rfl (lv_at hl 5 rfl) ?_
              refine lv_iload C.1 C.2.1 dX4_hasPath_138 (lv_at hl 0 rfl) ?_
              refine cm_cV1 (q0 := 0) 2 C (k_X4_empty l D cI cZ cJ ad X (va_up I 29 (nI (j + 1))) (va_up A 30 (plA w (A 30) 0 (L ++ [p9]))) w (otherS s0 (kM A w p9) b) hw0 (by omega)) tw_612 tw_614 ts_20 tw_5 tw_615 rfl rfl (rfl) rfl (by decide +kernel) ⟨Nat.le_of_ble_eq_true rfl, Nat.le_of_ble_eq_true rfl⟩ ⟨Nat.zero_le _, Nat.zero_le _⟩ hP hD hS hl.1 rfl rfl (Nat.le_of_ble_eq_true rfl) dX4_hasPath_140 (fun H locs hP hD hS => ?_)
              rw [show uM (va_up A 30 (plA w (A 30) 0 (L ++ [p9]))) w = uM A w from rfl, hem, optA_none]
              refine lv_istore (lv' := [(8, _), (4, _), (7, _), (6, _), (5, _), (0, _), (1, _), (2, _), (3, _)]) C.1 C.2.1 dX4_hasPath_143 hl (by decide) rfl (fun ls hl => ?_)
              refine lv_iload C.1 C.2.1 dX4_hasPath_145 (lv_at hl 0 rfl) ?_
              refine lv_if_lt (tgt := 173) C.1 C.2.1 dX4_hasPath_147 (by decide) (fun _ => ?_) (fun h => absurd (by decide) h)
              refine lv_iinc (v := nI (j + 1)) (lv' := [(5, _), (8, _), (4, _), (7, _), (6, _), (0, _), (1, _), (2, _), (3, _)]) C.1 C.2.1 dX4_hasPath_173 hl (k := 4) rfl (nI_1 j) (by decide) rfl (fun ls hl => ?_)
              refine lv_goto (tgt := 11) C.1 C.2.1 dX4_hasPath_176 (by decide) ?_
              rw [show pathS (uM A w) (kM A w) s0 (k + 1) j b L = pathS (uM A w) (kM A w) s0 k (j + 1) (otherS s0 (kM A w p9) b) (L ++ [p9]) by simp only [pathS, hnx, hem]]
              exact ih (j + 1) _ _ ⟨by omega, by rw [List.length_append, hLj]; rfl, hor, fun q hq => (List.mem_append.mp hq).elim (hL q) (fun h9 => by rw [List.mem_singleton.mp h9]; omega)⟩ ls H locs (lv_sub hl [0, 2, 5, 6, 7, 8] rfl) hP hD hS
            · refine lv_iload C.1 C.2.1 dX4_hasPath_68 (lv_at hl 0 rfl) ?_
              refine lv_if_ge (tgt := 75) C.1 C.2.1 dX4_hasPath_70 (by decide) (fun _ => ?_) (fun h => absurd (nI_pos' (by omega)) h)
              refine lv_aload_n C.1 C.2.1 dX4_hasPath_75 rfl (lv_at hl 3 rfl) ?_
              refine va_get (ci := 4) (C := RX4) (T := TX4) (N := 34) C.1 C.2.1 C.2.2.2.2.2.1 ui_X4 C.2.2.2.2.1 C.2.2.2.2.2.2.2.1 hP 0 (rfl) rfl 30 (by decide) (C.2.2.2.2.2.1 _ tw_486) (fun _ h9 => h9) rfl dX4_hasPath_76 ?_
              refine lv_aload_n C.1 C.2.1 dX4_hasPath_79 rfl (lv_at hl 3 rfl) ?_
              refine va_get (v := .int (nI j)) (ci := 4) (C := RX4) (T := TX4) (N := 34) C.1 C.2.1 C.2.2.2.2.2.1 ui_X4 C.2.2.2.2.1 C.2.2.2.2.2.2.2.1 hP 0 (rfl) rfl 29 (by decide) (C.2.2.2.2.2.1 _ tw_485) (fun _ h9 => h9) rfl dX4_hasPath_80 ?_
              refine lv_iload C.1 C.2.1 dX4_hasPath_83 (lv_at hl 0 rfl) ?_
              refine va_iast (f := plA w (A 30) 0 L) C.1 C.2.1 C.2.2.2.2.2.2.2.1 hP hD hS 21 0 (rfl) rfl (vp_in_nI (by omega) (by decide)) dX4_hasPath_85 (fun H locs hP hD hS => ?_)
              rw [nI_clamp (by omega), e1] at hP hD
              have hP : va_P D vwCl (mw ad cI cZ X (va_up I 29 (nI j)) (va_up A 30 (plA w (A 30) 0 (L ++ [p9])))) H := hP
              have hD : va_D (cm_A (mw ad cI cZ X I A)) (mw ad cI cZ X (va_up I 29 (nI j)) (va_up A 30 (plA w (A 30) 0 (L ++ [p9])))) := hD
              refine lv_aload_n C.1 C.2.1 dX4_hasPath_86 rfl (lv_at hl 3 rfl) ?_
              refine lv_dup C.1 C.2.1 dX4_hasPath_87 rfl ?_
              refine va_get (v := .int (nI j)) (ci := 4) (C := RX4) (T := TX4) (N := 34) C.1 C.2.1 C.2.2.2.2.2.1 ui_X4 C.2.2.2.2.1 C.2.2.2.2.2.2.2.1 hP 0 (rfl) rfl 29 (by decide) (C.2.2.2.2.2.1 _ tw_485) (fun _ h9 => h9) rfl dX4_hasPath_88 ?_
              refine lv_iconst (v := nI 1) C.1 C.2.1 dX4_hasPath_91 (by decide +kernel) ?_
              refine lv_iadd C.1 C.2.1 dX4_hasPath_92 ?_
              rw [nI_add]
              refine va_put (ci := 4) (C := RX4) (T := TX4) (N := 34) (ty := .int) C.1 C.2.1 C.2.2.2.2.2.1 ui_X4 tyX4 tyX4_ok nmX4 C.2.2.2.2.1 C.2.2.2.2.2.2.2.1 hP hD hS 0 (rfl) rfl 29 (by decide) (C.2.2.2.2.2.1 _ tw_485) (fun _ h9 => h9) rfl (by decide +kernel) rfl rfl (Nat.le_of_ble_eq_true rfl) dX4_hasPath_93 (fun H locs hP hD hS => ?_)
              have hP : va_P D vwCl (mw ad cI cZ X (va_up I 29 (nI (j + 1))) (va_up A 30 (plA w (A 30) 0 (L ++ [p9])))) H := hP
              have hD : va_D (cm_A (mw ad cI cZ X I A)) (mw ad cI cZ X (va_up I 29 (nI (j + 1))) (va_up A 30 (plA w (A 30) 0 (L ++ [p9])))) := hD
              refine lv_aload_n C.1 C.2.1 dX4_hasPath_96 rfl (lv_at hl 3 rfl) ?_
              refine va_get (ci := 4) (C := RX4) (T := TX4) (N := 34) C.1 C.2.1 C.2.2.2.2.2.1 ui_X4 C.2.2.2.2.1 C.2.2.2.2.2.2.2.1 hP 0 (rfl) rfl 2 (by decide) (C.2.2.2.2.2.1 _ tw_458) (fun _ h9 => h9) rfl dX4_hasPath_97 ?_
              refine lv_iload C.1 C.2.1 dX4_hasPath_100 (lv_at hl 0 rfl) ?_
              refine va_iald (f := A 2) C.1 C.2.1 C.2.2.2.2.2.2.2.1 hP 2 0 (rfl) rfl (vp_in_nI (by omega) (by decide)) dX4_hasPath_102 ?_
              rw [nI_clamp (by omega), show A 2 (36 * w + p9) = kM A w p9 from rfl]
              refine lv_iload_n C.1 C.2.1 dX4_hasPath_103 rfl (lv_at hl 5 rfl) ?_
              refine lv_iconst (v := nI 0) C.1 C.2.1 dX4_hasPath_104 (by decide +kernel) ?_
              refine cm_cS1 3 C (k_X4_homeBy1 l D cI cZ cJ (mw ad cI cZ X (va_up I 29 (nI (j + 1))) (va_up A 30 (plA w (A 30) 0 (L ++ [p9])))) (kM A w p9) s0) tw_572 tw_573 tw_5 tw_574 rfl rfl (by decide +kernel) ⟨Nat.le_of_ble_eq_true rfl, Nat.le_of_ble_eq_true rfl⟩ ⟨Nat.zero_le _, Nat.zero_le _⟩ hP hD hS hl.1 rfl rfl (Nat.le_of_ble_eq_true rfl) dX4_hasPath_105 (fun H locs hP hD hS => ?_)
              refine lv_istore (lv' := [(7, _), (6, _), (5, _), (4, _), (0, _), (1, _), (2, _), (3, _)]) C.1 C.2.1 dX4_hasPath_108 hl (by decide) rfl (fun ls hl => ?_)
              refine lv_iload C.1 C.2.1 dX4_hasPath_110 (lv_at hl 0 rfl) ?_
              refine lv_iload C.1 C.2.1 dX4_hasPath_112 (lv_at hl 3 rfl) ?_
              refine lv_icmp_ne (tgt := 132) C.1 C.2.1 dX4_hasPath_114 (by decide) (fun _ => ?_) (fun h => absurd h (fun q => hb1 ((nI_eq (by omega) (by omega)).mp q).symm))
              refine lv_iload C.1 C.2.1 dX4_hasPath_132 (lv_at hl 0 rfl) ?_
              rw [show hm1 s0 (kM A w p9) = otherS s0 (kM A w p9) b from (if_neg hb1).symm]
              refine lv_istore (lv' := [(4, _), (7, _), (6, _), (5, _), (0, _), (1, _), (2, _), (3, _)]) C.1 C.2.1 dX4_hasPath_134 hl (by decide) rfl (fun ls hl => ?_)
              refine lv_aload_n C.1 C.2.1 dX4_hasPath_136 rfl (lv_at hl 4 rfl) ?_
              refine lv_iload_n C.1 C.2.1 dX4_hasPath_137 rfl (lv_at hl 5 rfl) ?_
              refine lv_iload C.1 C.2.1 dX4_hasPath_138 (lv_at hl 0 rfl) ?_
              refine cm_cV1 (q0 := 0) 2 C (k_X4_empty l D cI cZ cJ ad X (va_up I 29 (nI (j + 1))) (va_up A 30 (plA w (A 30) 0 (L ++ [p9]))) w (otherS s0 (kM A w p9) b) hw0 (by omega)) tw_612 tw_614 ts_20 tw_5 tw_615 rfl rfl (rfl) rfl (by decide +kernel) ⟨Nat.le_of_ble_eq_true rfl, Nat.le_of_ble_eq_true rfl⟩ ⟨Nat.zero_le _, Nat.zero_le _⟩ hP hD hS hl.1 rfl rfl (Nat.le_of_ble_eq_true rfl) dX4_hasPath_140 (fun H locs hP hD hS => ?_)
              rw [show uM (va_up A 30 (plA w (A 30) 0 (L ++ [p9]))) w = uM A w from rfl, hem, optA_none]
              refine lv_istore (lv' := [(8, _), (4, _), (7, _), (6, _), (5, _), (0, _), (1, _), (2, _), (3, _)]) C.1 C.2.1 dX4_hasPath_143 hl (by decide) rfl (fun ls hl => ?_)
              refine lv_iload C.1 C.2.1 dX4_hasPath_145 (lv_at hl 0 rfl) ?_
              refine lv_if_lt (tgt := 173) C.1 C.2.1 dX4_hasPath_147 (by decide) (fun _ => ?_) (fun h => absurd (by decide) h)
              refine lv_iinc (v := nI (j + 1)) (lv' := [(5, _), (8, _), (4, _), (7, _), (6, _), (0, _), (1, _), (2, _), (3, _)]) C.1 C.2.1 dX4_hasPath_173 hl (k := 4) rfl (nI_1 j) (by decide) rfl (fun ls hl => ?_)
              refine lv_goto (tgt := 11) C.1 C.2.1 dX4_hasPath_176 (by decide) ?_
              rw [show pathS (uM A w) (kM A w) s0 (k + 1) j b L = pathS (uM A w) (kM A w) s0 k (j + 1) (otherS s0 (kM A w p9) b) (L ++ [p9]) by simp only [pathS, hnx, hem]]
              exact ih (j + 1) _ _ ⟨by omega, by rw [List.length_append, hLj]; rfl, hor, fun q hq => (List.mem_append.mp hq).elim (hL q) (fun h9 => by rw [List.mem_singleton.mp h9]; omega)⟩ ls H locs (lv_sub hl [0, 2, 5, 6, 7, 8] rfl) hP hD hS
      have inner : ∀ (i : Nat), i ≤ 4 → ∀ (ls : Array Slot) (H : Heap) (locs : List Loc), lv_has ls 9 [(7, .int (nI i - nI 1)), (6, .int (optA w (nx L b j i (4 - i)))), (5, .int (nI j)), (4, .int (nI b)), (0, .ref (ad 0)), (1, .int (nI w)), (2, .int s0), (3, .int (nI b0))] → va_P D vwCl (mw ad cI cZ X (va_up I 29 (nI j)) (va_up A 30 (plA w (A 30) 0 L))) H → va_D (cm_A (mw ad cI cZ X I A)) (mw ad cI cZ X (va_up I 29 (nI j)) (va_up A 30 (plA w (A 30) 0 L))) → va_S (cm_A (mw ad cI cZ X I A)) s.heap H locs → W p l e (cm_rm 2 47) s m ([.ref (ad 0), .int (nI w), .int s0, .int (nI b0)] : List Value).toArray below meth c H locs 0 0 (cm_Q below D [.ref (ad 0), .int (nI w), .int s0, .int (nI b0)] s (mw ad cI cZ X I A) (some (.int (bI (pathS (uM A w) (kM A w) s0 (k + 1) j b L).1))) (mw ad cI cZ X (va_up I 29 (nI (pathS (uM A w) (kM A w) s0 (k + 1) j b L).2.length)) (va_up A 30 (plA w (A 30) 0 (pathS (uM A w) (kM A w) s0 (k + 1) j b L).2)))) (F0 m 24 ls []) := by
        intro i
        induction i with
        | zero =>
          intro hi ls H locs hl hP hD hS
          refine lv_iload C.1 C.2.1 dX4_hasPath_24 (lv_at hl 0 rfl) ?_
          refine lv_if_lt (tgt := 68) C.1 C.2.1 dX4_hasPath_26 (by decide) (fun _ => ?_) (fun h => absurd (by decide) h)
          exact hcont ls H locs (lv_sub hl [1, 2, 3, 4, 5, 6, 7] rfl) hP hD hS
        | succ i ih2 =>
          intro hi ls H locs hl hP hD hS
          rw [pk_sub (by omega), Nat.add_sub_cancel] at hl
          have hon := onP_iff w hw0 (A 30) L hL (4 * b + (j + i) % 4) (by omega)
          have hs : nx L b j i (4 - i) = if 4 * b + (j + i) % 4 ∈ L then nx L b j (i + 1) (4 - (i + 1)) else some (4 * b + (j + i) % 4) := by rw [show 4 - i = (4 - (i + 1)) + 1 by omega]; rfl
          have hon9 : anyB (fun i_1 => decide ((va_up A 30 (plA w (A 30) 0 L)) 30 i_1 = nI (36 * w + (4 * b + (j + i) % 4)))) 0 j = decide (4 * b + (j + i) % 4 ∈ L) := by rw [← hon, hLj]; rfl
          by_cases hmem : 4 * b + (j + i) % 4 ∈ L
          · refine lv_iload C.1 C.2.1 dX4_hasPath_24 (lv_at hl 0 rfl) ?_
            refine lv_if_lt (tgt := 68) C.1 C.2.1 dX4_hasPath_26 (by decide) (fun h => absurd h (nI_pos (by omega))) (fun _ => ?_)
            refine lv_iload_n C.1 C.2.1 dX4_hasPath_29 rfl (lv_at hl 5 rfl) ?_
            refine lv_iload C.1 C.2.1 dX4_hasPath_30 (lv_at hl 3 rfl) ?_
            refine lv_iload C.1 C.2.1 dX4_hasPath_32 (lv_at hl 2 rfl) ?_
            refine lv_iload C.1 C.2.1 dX4_hasPath_34 (lv_at hl 0 rfl) ?_
            refine lv_iadd C.1 C.2.1 dX4_hasPath_36 ?_
            rw [nI_add]
            refine lv_iconst (v := nI 4) C.1 C.2.1 dX4_hasPath_37 (by decide +kernel) ?_
            refine lv_irem C.1 C.2.1 dX4_hasPath_38 (by decide) ?_
            rw [pk_rem (by omega) (by decide) (by decide)]
            refine cm_cS1 3 C (k_X4_slotOf l D cI cZ cJ (mw ad cI cZ X (va_up I 29 (nI j)) (va_up A 30 (plA w (A 30) 0 L))) w b ((j + i) % 4)) tw_585 tw_586 tw_5 tw_587 rfl rfl (by decide +kernel) ⟨Nat.le_of_ble_eq_true rfl, Nat.le_of_ble_eq_true rfl⟩ ⟨Nat.zero_le _, Nat.zero_le _⟩ hP hD hS hl.1 rfl rfl (Nat.le_of_ble_eq_true rfl) dX4_hasPath_39 (fun H locs hP hD hS => ?_)
            refine lv_istore (lv' := [(8, _), (7, _), (6, _), (5, _), (4, _), (0, _), (1, _), (2, _), (3, _)]) C.1 C.2.1 dX4_hasPath_42 hl (by decide) rfl (fun ls hl => ?_)
            refine lv_aload_n C.1 C.2.1 dX4_hasPath_44 rfl (lv_at hl 5 rfl) ?_
            refine lv_iload C.1 C.2.1 dX4_hasPath_45 (lv_at hl 0 rfl) ?_
            refine cm_cV1 (q0 := 0) 1 C (k_X4_isOnPath l D cI cZ cJ ad X (va_up I 29 (nI j)) (va_up A 30 (plA w (A 30) 0 L)) j (by omega) rfl (nI (36 * w + (4 * b + (j + i) % 4)))) tw_620 tw_622 ts_22 tw_5 tw_623 rfl rfl (rfl) rfl (by decide +kernel) ⟨Nat.le_of_ble_eq_true rfl, Nat.le_of_ble_eq_true rfl⟩ ⟨Nat.zero_le _, Nat.zero_le _⟩ hP hD hS hl.1 rfl rfl (Nat.le_of_ble_eq_true rfl) dX4_hasPath_47 (fun H locs hP hD hS => ?_)
            rw [hon9]
            refine lv_if_eq (tgt := 58) C.1 C.2.1 dX4_hasPath_50 (by decide) (fun h => absurd h (by rw [decide_eq_true hmem]; decide)) (fun _ => ?_)
            refine lv_iload C.1 C.2.1 dX4_hasPath_53 (lv_at hl 2 rfl) ?_
            refine lv_goto (tgt := 60) C.1 C.2.1 dX4_hasPath_55 (by decide) ?_
            refine lv_istore (lv' := [(6, _), (8, _), (7, _), (5, _), (4, _), (0, _), (1, _), (2, _), (3, _)]) C.1 C.2.1 dX4_hasPath_60 hl (by decide) rfl (fun ls hl => ?_)
            refine lv_iinc (v := (nI i - nI 1)) (lv' := [(7, _), (6, _), (8, _), (5, _), (4, _), (0, _), (1, _), (2, _), (3, _)]) C.1 C.2.1 dX4_hasPath_62 hl (k := 2) rfl (m1_sub (nI i)) (by decide) rfl (fun ls hl => ?_)
            refine lv_goto (tgt := 24) C.1 C.2.1 dX4_hasPath_65 (by decide) ?_
            exact ih2 (by omega) ls H locs (by rw [hs, if_pos hmem]; exact lv_sub hl [0, 1, 3, 4, 5, 6, 7, 8] rfl) hP hD hS
          · refine lv_iload C.1 C.2.1 dX4_hasPath_24 (lv_at hl 0 rfl) ?_
            refine lv_if_lt (tgt := 68) C.1 C.2.1 dX4_hasPath_26 (by decide) (fun h => absurd h (nI_pos (by omega))) (fun _ => ?_)
            refine lv_iload_n C.1 C.2.1 dX4_hasPath_29 rfl (lv_at hl 5 rfl) ?_
            refine lv_iload C.1 C.2.1 dX4_hasPath_30 (lv_at hl 3 rfl) ?_
            refine lv_iload C.1 C.2.1 dX4_hasPath_32 (lv_at hl 2 rfl) ?_
            refine lv_iload C.1 C.2.1 dX4_hasPath_34 (lv_at hl 0 rfl) ?_
            refine lv_iadd C.1 C.2.1 dX4_hasPath_36 ?_
            rw [nI_add]
            refine lv_iconst (v := nI 4) C.1 C.2.1 dX4_hasPath_37 (by decide +kernel) ?_
            refine lv_irem C.1 C.2.1 dX4_hasPath_38 (by decide) ?_
            rw [pk_rem (by omega) (by decide) (by decide)]
            refine cm_cS1 3 C (k_X4_slotOf l D cI cZ cJ (mw ad cI cZ X (va_up I 29 (nI j)) (va_up A 30 (plA w (A 30) 0 L))) w b ((j + i) % 4)) tw_585 tw_586 tw_5 tw_587 rfl rfl (by decide +kernel) ⟨Nat.le_of_ble_eq_true rfl, Nat.le_of_ble_eq_true rfl⟩ ⟨Nat.zero_le _, Nat.zero_le _⟩ hP hD hS hl.1 rfl rfl (Nat.le_of_ble_eq_true rfl) dX4_hasPath_39 (fun H locs hP hD hS => ?_)
            refine lv_istore (lv' := [(8, _), (7, _), (6, _), (5, _), (4, _), (0, _), (1, _), (2, _), (3, _)]) C.1 C.2.1 dX4_hasPath_42 hl (by decide) rfl (fun ls hl => ?_)
            refine lv_aload_n C.1 C.2.1 dX4_hasPath_44 rfl (lv_at hl 5 rfl) ?_
            refine lv_iload C.1 C.2.1 dX4_hasPath_45 (lv_at hl 0 rfl) ?_
            refine cm_cV1 (q0 := 0) 1 C (k_X4_isOnPath l D cI cZ cJ ad X (va_up I 29 (nI j)) (va_up A 30 (plA w (A 30) 0 L)) j (by omega) rfl (nI (36 * w + (4 * b + (j + i) % 4)))) tw_620 tw_622 ts_22 tw_5 tw_623 rfl rfl (rfl) rfl (by decide +kernel) ⟨Nat.le_of_ble_eq_true rfl, Nat.le_of_ble_eq_true rfl⟩ ⟨Nat.zero_le _, Nat.zero_le _⟩ hP hD hS hl.1 rfl rfl (Nat.le_of_ble_eq_true rfl) dX4_hasPath_47 (fun H locs hP hD hS => ?_)
            rw [hon9]
            refine lv_if_eq (tgt := 58) C.1 C.2.1 dX4_hasPath_50 (by decide) (fun _ => ?_) (fun h => absurd (by rw [decide_eq_false hmem]; rfl) h)
            refine lv_iload C.1 C.2.1 dX4_hasPath_58 (lv_at hl 0 rfl) ?_
            refine lv_istore (lv' := [(6, _), (8, _), (7, _), (5, _), (4, _), (0, _), (1, _), (2, _), (3, _)]) C.1 C.2.1 dX4_hasPath_60 hl (by decide) rfl (fun ls hl => ?_)
            refine lv_iinc (v := (nI i - nI 1)) (lv' := [(7, _), (6, _), (8, _), (5, _), (4, _), (0, _), (1, _), (2, _), (3, _)]) C.1 C.2.1 dX4_hasPath_62 hl (k := 2) rfl (m1_sub (nI i)) (by decide) rfl (fun ls hl => ?_)
            refine lv_goto (tgt := 24) C.1 C.2.1 dX4_hasPath_65 (by decide) ?_
            exact ih2 (by omega) ls H locs (by rw [hs, if_neg hmem]; exact lv_sub hl [0, 1, 3, 4, 5, 6, 7, 8] rfl) hP hD hS
      refine lv_iload C.1 C.2.1 dX4_hasPath_11 (lv_at hl 0 rfl) ?_
      refine lv_bipush (v := nI 6) C.1 C.2.1 dX4_hasPath_13 (by decide +kernel) ?_
      refine lv_icmp_ge (tgt := 179) C.1 C.2.1 dX4_hasPath_15 (by decide) (fun h => absurd h (nI_ge (by omega) (by decide))) (fun _ => ?_)
      refine lv_iconst (v := (-1)) C.1 C.2.1 dX4_hasPath_18 (by decide +kernel) ?_
      refine lv_istore (lv' := [(6, _), (5, _), (4, _), (0, _), (1, _), (2, _), (3, _)]) C.1 C.2.1 dX4_hasPath_19 hl (by decide) rfl (fun ls hl => ?_)
      refine lv_iconst (v := nI 3) C.1 C.2.1 dX4_hasPath_21 (by decide +kernel) ?_
      refine lv_istore (lv' := [(7, _), (6, _), (5, _), (4, _), (0, _), (1, _), (2, _), (3, _)]) C.1 C.2.1 dX4_hasPath_22 hl (by decide) rfl (fun ls hl => ?_)
      exact inner 4 (Nat.le_refl 4) ls H locs hl hP hD hS
  exact loop 6 0 b0 [] ⟨rfl, rfl, hb0, fun q hq => by cases hq⟩ ls H locs hl hP hD hS
