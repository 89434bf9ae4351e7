/-! ===== the reference's writes ===== -/
theorem cpy_s {α : Type} (f g : Nat → α) (sp dp n : Nat) : (fun j => if j = dp + n then f (sp + n) else va_cpy f g sp dp n j) = va_cpy f g sp dp (n + 1) := by
  funext j
  unfold va_cpy
  by_cases h1 : j = dp + n
  · subst h1
    rw [if_pos rfl, if_pos ⟨by omega, by omega⟩, show dp + n - dp = n by omega]
  · rw [if_neg h1]
    by_cases h2 : dp ≤ j ∧ j < dp + n
    · rw [if_pos h2, if_pos ⟨h2.1, by omega⟩]
    · rw [if_neg h2, if_neg (fun h => h2 ⟨h.1, by omega⟩)]
theorem cpy_u (f g : Nat → Int32) (sp dp n : Nat) : upd (va_cpy f g sp dp n) (dp + n) (f (sp + n)) = va_cpy f g sp dp (n + 1) := cpy_s f g sp dp n
theorem cpy_u0 (f g : Nat → Int32) (sp n : Nat) : upd (va_cpy f g sp 0 n) n (f (sp + n)) = va_cpy f g sp 0 (n + 1) := by
  have h := cpy_u f g sp 0 n
  rwa [Nat.zero_add] at h
theorem cpy_v0 (f g : Nat → Int32) (dp n : Nat) : upd (va_cpy f g 0 dp n) (dp + n) (f n) = va_cpy f g 0 dp (n + 1) := by
  have h := cpy_u f g 0 dp n
  rwa [Nat.zero_add] at h
theorem cpy_0 {α : Type} (f g : Nat → α) (sp dp : Nat) : va_cpy f g sp dp 0 = g := by
  funext j
  unfold va_cpy
  rw [if_neg (fun h => by omega)]
/-- what a boolean row keeps of a number -/
def nz (f : Nat → Int32) : Nat → Int32 := fun i => vp_nar .boolean (f i)
abbrev MS : Type := (Nat → Int32) × (Nat → Nat → Int32)
/-- one WRITE done: the root, the journal, a page -/
def fin1 (w : Nat) (st : MS) : MS :=
  if st.2 22 w = nI 1 then (va_up (va_up st.1 14 (st.2 23 w)) 15 (st.2 24 w), st.2)
  else if st.2 22 w = nI 2 then (va_up st.1 16 (st.2 24 w), va_up (va_up (va_up st.2 17 (va_cpy (st.2 26) (st.2 17) (8 * w) 0 (st.2 24 w).toNatClampNeg)) 18 (va_cpy (st.2 27) (st.2 18) (8 * w) 0 (st.2 24 w).toNatClampNeg)) 19 (va_cpy (st.2 28) (st.2 19) (8 * w) 0 (st.2 24 w).toNatClampNeg))
  else (st.1, va_up (va_up (va_up st.2 11 (va_cpy (nz (st.2 25)) (st.2 11) (8 * w) (4 * (st.2 23 w).toNatClampNeg) 4)) 12 (va_cpy (st.2 27) (st.2 12) (8 * w) (4 * (st.2 23 w).toNatClampNeg) 4)) 13 (va_cpy (st.2 28) (st.2 13) (8 * w) (4 * (st.2 23 w).toNatClampNeg) 4))
def wKnd (A : Nat → Nat → Int32) (w : Nat) : Prop := A 22 w = nI 1 ∨ (A 22 w = nI 2 ∧ ∃ n, n ≤ 7 ∧ A 24 w = nI n) ∨ (A 22 w = nI 0 ∧ ∃ r, r < 18 ∧ A 23 w = nI r)
def finN : Nat → Nat → MS → MS
  | _, 0, st => st
  | j, k + 1, st => finN (j + 1) k (fin1 j st)
theorem fin1_same (w : Nat) (st : MS) : (∀ k, (k = 22 ∨ k = 23 ∨ k = 24 ∨ k = 25 ∨ k = 26 ∨ k = 27 ∨ k = 28 ∨ k = 1 ∨ k = 2 ∨ k = 3 ∨ k = 4 ∨ k = 8 ∨ k = 9 ∨ k = 10 ∨ k = 30) → (fin1 w st).2 k = st.2 k) ∧ (∀ k, (k ≠ 14 ∧ k ≠ 15 ∧ k ≠ 16) → (fin1 w st).1 k = st.1 k) := by
  unfold fin1
  refine ⟨fun k hk => ?_, fun k hk => ?_⟩
  · split
    · rfl
    · split
      · rcases hk with h | h | h | h | h | h | h | h | h | h | h | h | h | h | h <;> subst h <;> rfl
      · rcases hk with h | h | h | h | h | h | h | h | h | h | h | h | h | h | h <;> subst h <;> rfl
  · split
    · dsimp only; rw [va_up_ne _ _ hk.2.1, va_up_ne _ _ hk.1]
    · split
      · dsimp only; rw [va_up_ne _ _ hk.2.2]
      · rfl
def flsh (st : MS) (t : Nat) : MS := (va_up (finN 0 t st).1 20 (nI 0), (finN 0 t st).2)
/-- a place among those that wait: all that wait are done first, if it is full -/
def nxt (what : Int32) (t : Nat) (st : MS) : MS :=
  if t < 40 then (va_up (va_up st.1 21 (st.1 21 + nI 1)) 20 (nI (t + 1)), va_up st.2 22 (upd (st.2 22) t what))
  else (va_up (va_up (flsh st t).1 21 ((flsh st t).1 21 + nI 1)) 20 (nI (0 + 1)), va_up (flsh st t).2 22 (upd ((flsh st t).2 22) 0 what))
def t0 (t : Nat) : Nat := if t < 40 then t else 0
def wPg (r t : Nat) (st : MS) : MS := ((nxt (nI 0) t st).1, va_up (va_up (va_up (va_up (nxt (nI 0) t st).2 23 (upd ((nxt (nI 0) t st).2 23) (t0 t) (nI r))) 25 (va_cpy (nz ((nxt (nI 0) t st).2 1)) ((nxt (nI 0) t st).2 25) (4 * r) (8 * t0 t) 4)) 27 (va_cpy ((nxt (nI 0) t st).2 2) ((nxt (nI 0) t st).2 27) (4 * r) (8 * t0 t) 4)) 28 (va_cpy ((nxt (nI 0) t st).2 3) ((nxt (nI 0) t st).2 28) (4 * r) (8 * t0 t) 4))
def wJn (n t : Nat) (st : MS) : MS := ((nxt (nI 2) t st).1, va_up (va_up (va_up (va_up (nxt (nI 2) t st).2 24 (upd ((nxt (nI 2) t st).2 24) (t0 t) (nI n))) 26 (va_cpy ((nxt (nI 2) t st).2 8) ((nxt (nI 2) t st).2 26) 0 (8 * t0 t) n)) 27 (va_cpy ((nxt (nI 2) t st).2 9) ((nxt (nI 2) t st).2 27) 0 (8 * t0 t) n)) 28 (va_cpy ((nxt (nI 2) t st).2 10) ((nxt (nI 2) t st).2 28) 0 (8 * t0 t) n))
def wRt (t : Nat) (st : MS) : MS := ((nxt (nI 1) t st).1, va_up (va_up (nxt (nI 1) t st).2 23 (upd ((nxt (nI 1) t st).2 23) (t0 t) ((nxt (nI 1) t st).1 5))) 24 (upd ((nxt (nI 1) t st).2 24) (t0 t) ((nxt (nI 1) t st).1 6)))
set_option maxHeartbeats 4000000 in
set_option maxRecDepth 100000 in
/-- finish -/
theorem k_X4_finish (l : Launch) (D : va_G) (cI cZ cJ : ClassId) (ad : Nat → Nat) (X : va_W) (I : Nat → Int32) (A : Nat → Nat → Int32) (w : Nat) (hw0 : w < 40) (hk : wKnd A w) : CM l D (cm_T cI cZ cJ) yX4_finish cX4_finish 4 none (cm_rm 0 0) [.ref (ad 0), .int (nI w)] (mw ad cI cZ X I A) none (mw ad cI cZ X (fin1 w (I, A)).1 (fin1 w (I, A)).2) := by
  refine CM.of (by decide) (Nat.le_of_ble_eq_true rfl) ?_
  intro p e s m below meth c ls H locs C hl hP hD hS
  rcases hk with hk | ⟨hk, n9, hn0, hn⟩ | ⟨hk, r9, hr0, hr⟩
  · refine lv_aload_n C.1 C.2.1 dX4_finish_0 rfl (lv_at hl 0 rfl) ?_
    refine va_get (ci := 4) (C := RX4) (T := TX4) (N := 34) C.1 C.2.1 C.2.2.2.2.2.1 ui_X4 C.2.2.2.2.1 C.2.2.2.2.2.2.2.1 hP 0 (rfl) rfl 22 (by decide) (C.2.2.2.2.2.1 _ tw_478) (fun _ h9 => h9) rfl dX4_finish_1 ?_
    refine lv_iload_n C.1 C.2.1 dX4_finish_4 rfl (lv_at hl 1 rfl) ?_
    refine va_iald C.1 C.2.1 C.2.2.2.2.2.2.2.1 hP 14 0 (rfl) rfl (vp_in_nI (by omega) (by decide)) dX4_finish_5 ?_
    rw [nI_clamp (by omega), hk]
    refine lv_iconst (v := nI 1) C.1 C.2.1 dX4_finish_6 (by decide +kernel) ?_
    refine lv_icmp_ne (tgt := 33) C.1 C.2.1 dX4_finish_7 (by decide) (fun h => absurd (rfl) h) (fun _ => ?_)
    refine lv_aload_n C.1 C.2.1 dX4_finish_10 rfl (lv_at hl 0 rfl) ?_
    refine lv_aload_n C.1 C.2.1 dX4_finish_11 rfl (lv_at hl 0 rfl) ?_
    refine va_get (ci := 4) (C := RX4) (T := TX4) (N := 34) C.1 C.2.1 C.2.2.2.2.2.1 ui_X4 C.2.2.2.2.1 C.2.2.2.2.2.2.2.1 hP 0 (rfl) rfl 23 (by decide) (C.2.2.2.2.2.1 _ tw_479) (fun _ h9 => h9) rfl dX4_finish_12 ?_
    refine lv_iload_n C.1 C.2.1 dX4_finish_15 rfl (lv_at hl 1 rfl) ?_
    refine va_iald C.1 C.2.1 C.2.2.2.2.2.2.2.1 hP 15 0 (rfl) rfl (vp_in_nI (by omega) (by decide)) dX4_finish_16 ?_
    rw [nI_clamp (by omega)]
    refine va_put (ci := 4) (C := RX4) (T := TX4) (N := 34) (ty := .int) C.1 C.2.1 C.2.2.2.2.2.1 ui_X4 tyX4 tyX4_ok nmX4 C.2.2.2.2.1 C.2.2.2.2.2.2.2.1 hP hD hS 0 (rfl) rfl 14 (by decide) (C.2.2.2.2.2.1 _ tw_470) (fun _ h9 => h9) rfl (by decide +kernel) rfl rfl (Nat.le_of_ble_eq_true rfl) dX4_finish_17 (fun H locs hP hD hS => ?_)
    have hP : va_P D vwCl (mw ad cI cZ X (va_up I 14 (A 23 w)) A) H := hP
    have hD : va_D (cm_A (mw ad cI cZ X I A)) (mw ad cI cZ X (va_up I 14 (A 23 w)) A) := hD
    refine lv_aload_n C.1 C.2.1 dX4_finish_20 rfl (lv_at hl 0 rfl) ?_
    refine lv_aload_n C.1 C.2.1 dX4_finish_21 rfl (lv_at hl 0 rfl) ?_
    refine va_get (ci := 4) (C := RX4) (T := TX4) (N := 34) C.1 C.2.1 C.2.2.2.2.2.1 ui_X4 C.2.2.2.2.1 C.2.2.2.2.2.2.2.1 hP 0 (rfl) rfl 24 (by decide) (C.2.2.2.2.2.1 _ tw_480) (fun _ h9 => h9) rfl dX4_finish_22 ?_
    refine lv_iload_n C.1 C.2.1 dX4_finish_25 rfl (lv_at hl 1 rfl) ?_
    refine va_iald C.1 C.2.1 C.2.2.2.2.2.2.2.1 hP 16 0 (rfl) rfl (vp_in_nI (by omega) (by decide)) dX4_finish_26 ?_
    rw [nI_clamp (by omega)]
    refine va_put (ci := 4) (C := RX4) (T := TX4) (N := 34) (ty := .int) C.1 C.2.1 C.2.2.2.2.2.1 ui_X4 tyX4 tyX4_ok nmX4 C.2.2.2.2.1 C.2.2.2.2.2.2.2.1 hP hD hS 0 (rfl) rfl 15 (by decide) (C.2.2.2.2.2.1 _ tw_471) (fun _ h9 => h9) rfl (by decide +kernel) rfl rfl (Nat.le_of_ble_eq_true rfl) dX4_finish_27 (fun H locs hP hD hS => ?_)
    refine lv_goto (tgt := 198) C.1 C.2.1 dX4_finish_30 (by decide) ?_
    exact cm_vret C hP hD hS dX4_finish_198 (by rw [show fin1 w (I, A) = (va_up (va_up I 14 (A 23 w)) 15 (A 24 w), A) from if_pos hk]; rfl)
  · refine lv_aload_n C.1 C.2.1 dX4_finish_0 rfl (lv_at hl 0 rfl) ?_
    refine va_get (ci := 4) (C := RX4) (T := TX4) (N := 34) C.1 C.2.1 C.2.2.2.2.2.1 ui_X4 C.2.2.2.2.1 C.2.2.2.2.2.2.2.1 hP 0 (rfl) rfl 22 (by decide) (C.2.2.2.2.2.1 _ tw_478) (fun _ h9 => h9) rfl dX4_finish_1 ?_
    refine lv_iload_n C.1 C.2.1 dX4_finish_4 rfl (lv_at hl 1 rfl) ?_
    refine va_iald C.1 C.2.1 C.2.2.2.2.2.2.2.1 hP 14 0 (rfl) rfl (vp_in_nI (by omega) (by decide)) dX4_finish_5 ?_
    rw [nI_clamp (by omega), hk]
    refine lv_iconst (v := nI 1) C.1 C.2.1 dX4_finish_6 (by decide +kernel) ?_
    refine lv_icmp_ne (tgt := 33) C.1 C.2.1 dX4_finish_7 (by decide) (fun _ => ?_) (fun h => absurd h (by decide))
    refine lv_aload_n C.1 C.2.1 dX4_finish_33 rfl (lv_at hl 0 rfl) ?_
    refine va_get (ci := 4) (C := RX4) (T := TX4) (N := 34) C.1 C.2.1 C.2.2.2.2.2.1 ui_X4 C.2.2.2.2.1 C.2.2.2.2.2.2.2.1 hP 0 (rfl) rfl 22 (by decide) (C.2.2.2.2.2.1 _ tw_478) (fun _ h9 => h9) rfl dX4_finish_34 ?_
    refine lv_iload_n C.1 C.2.1 dX4_finish_37 rfl (lv_at hl 1 rfl) ?_
    refine va_iald C.1 C.2.1 C.2.2.2.2.2.2.2.1 hP 14 0 (rfl) rfl (vp_in_nI (by omega) (by decide)) dX4_finish_38 ?_
    rw [nI_clamp (by omega), hk]
    refine lv_iconst (v := nI 2) C.1 C.2.1 dX4_finish_39 (by decide +kernel) ?_
    refine lv_icmp_ne (tgt := 123) C.1 C.2.1 dX4_finish_40 (by decide) (fun h => absurd (rfl) h) (fun _ => ?_)
    refine lv_aload_n C.1 C.2.1 dX4_finish_43 rfl (lv_at hl 0 rfl) ?_
    refine lv_aload_n C.1 C.2.1 dX4_finish_44 rfl (lv_at hl 0 rfl) ?_
    refine va_get (ci := 4) (C := RX4) (T := TX4) (N := 34) C.1 C.2.1 C.2.2.2.2.2.1 ui_X4 C.2.2.2.2.1 C.2.2.2.2.2.2.2.1 hP 0 (rfl) rfl 24 (by decide) (C.2.2.2.2.2.1 _ tw_480) (fun _ h9 => h9) rfl dX4_finish_45 ?_
    refine lv_iload_n C.1 C.2.1 dX4_finish_48 rfl (lv_at hl 1 rfl) ?_
    refine va_iald C.1 C.2.1 C.2.2.2.2.2.2.2.1 hP 16 0 (rfl) rfl (vp_in_nI (by omega) (by decide)) dX4_finish_49 ?_
    rw [nI_clamp (by omega), hn]
    refine va_put (ci := 4) (C := RX4) (T := TX4) (N := 34) (ty := .int) C.1 C.2.1 C.2.2.2.2.2.1 ui_X4 tyX4 tyX4_ok nmX4 C.2.2.2.2.1 C.2.2.2.2.2.2.2.1 hP hD hS 0 (rfl) rfl 16 (by decide) (C.2.2.2.2.2.1 _ tw_472) (fun _ h9 => h9) rfl (by decide +kernel) rfl rfl (Nat.le_of_ble_eq_true rfl) dX4_finish_50 (fun H locs hP hD hS => ?_)
    have hP : va_P D vwCl (mw ad cI cZ X (va_up I 16 (nI n9)) A) H := hP
    have hD : va_D (cm_A (mw ad cI cZ X I A)) (mw ad cI cZ X (va_up I 16 (nI n9)) A) := hD
    refine lv_iconst (v := nI 0) C.1 C.2.1 dX4_finish_53 (by decide +kernel) ?_
    refine lv_istore_n (lv' := [(2, _), (0, _), (1, _)]) C.1 C.2.1 dX4_finish_54 rfl hl (by decide) rfl (fun ls hl => ?_)
    have hs : A = (va_up (va_up (va_up A 17 (va_cpy (A 26) (A 17) (8 * w) 0 0)) 18 (va_cpy (A 27) (A 18) (8 * w) 0 0)) 19 (va_cpy (A 28) (A 19) (8 * w) 0 0)) := by simp only [cpy_0]; funext k9; by_cases h19 : k9 = 19 <;> by_cases h18 : k9 = 18 <;> by_cases h17 : k9 = 17 <;> simp [va_up, *]
    have loop : ∀ (k j : Nat), j + k = n9 → ∀ (ls : Array Slot) (H : Heap) (locs : List Loc), lv_has ls 4 [(2, .int (nI j)), (0, .ref (ad 0)), (1, .int (nI w))] → va_P D vwCl (mw ad cI cZ X (va_up I 16 (nI n9)) (va_up (va_up (va_up A 17 (va_cpy (A 26) (A 17) (8 * w) 0 j)) 18 (va_cpy (A 27) (A 18) (8 * w) 0 j)) 19 (va_cpy (A 28) (A 19) (8 * w) 0 j))) H → va_D (cm_A (mw ad cI cZ X I A)) (mw ad cI cZ X (va_up I 16 (nI n9)) (va_up (va_up (va_up A 17 (va_cpy (A 26) (A 17) (8 * w) 0 j)) 18 (va_cpy (A 27) (A 18) (8 * w) 0 j)) 19 (va_cpy (A 28) (A 19) (8 * w) 0 j))) → va_S (cm_A (mw ad cI cZ X I A)) s.heap H locs → W p l e (cm_rm 0 0) s m ([.ref (ad 0), .int (nI w)] : List Value).toArray below meth c H locs 0 0 (cm_Q below D [.ref (ad 0), .int (nI w)] s (mw ad cI cZ X I A) none (mw ad cI cZ X (fin1 w (I, A)).1 (fin1 w (I, A)).2)) (F0 m 55 ls []) := by
      intro k
      induction k with
      | zero =>
        intro j hj ls H locs hl hP hD hS
        refine lv_iload_n C.1 C.2.1 dX4_finish_55 rfl (lv_at hl 0 rfl) ?_
        refine lv_aload_n C.1 C.2.1 dX4_finish_56 rfl (lv_at hl 1 rfl) ?_
        refine va_get (v := .int (nI n9)) (ci := 4) (C := RX4) (T := TX4) (N := 34) C.1 C.2.1 C.2.2.2.2.2.1 ui_X4 C.2.2.2.2.1 C.2.2.2.2.2.2.2.1 hP 0 (rfl) rfl 16 (by decide) (C.2.2.2.2.2.1 _ tw_472) (fun _ h9 => h9) rfl dX4_finish_57 ?_
        refine lv_icmp_ge (tgt := 120) C.1 C.2.1 dX4_finish_60 (by decide) (fun _ => ?_) (fun h => absurd (nI_le (by omega) (by omega)) h)
        refine lv_goto (tgt := 198) C.1 C.2.1 dX4_finish_120 (by decide) ?_
        obtain rfl : j = n9 := by omega
        exact cm_vret C hP hD hS dX4_finish_198 (by rw [show fin1 w (I, A) = _ from (if_neg (by show ¬ A 22 w = nI 1; rw [hk]; decide)).trans (if_pos hk)]; simp only [hn, nI_clamp (show j < 2 ^ 31 by omega)])
      | succ k ih =>
        intro j hj ls H locs hl hP hD hS
        refine lv_iload_n C.1 C.2.1 dX4_finish_55 rfl (lv_at hl 0 rfl) ?_
        refine lv_aload_n C.1 C.2.1 dX4_finish_56 rfl (lv_at hl 1 rfl) ?_
        refine va_get (v := .int (nI n9)) (ci := 4) (C := RX4) (T := TX4) (N := 34) C.1 C.2.1 C.2.2.2.2.2.1 ui_X4 C.2.2.2.2.1 C.2.2.2.2.2.2.2.1 hP 0 (rfl) rfl 16 (by decide) (C.2.2.2.2.2.1 _ tw_472) (fun _ h9 => h9) rfl dX4_finish_57 ?_
        refine lv_icmp_ge (tgt := 120) C.1 C.2.1 dX4_finish_60 (by decide) (fun h => absurd h (nI_ge (by omega) (by omega))) (fun _ => ?_)
        refine lv_aload_n C.1 C.2.1 dX4_finish_63 rfl (lv_at hl 1 rfl) ?_
        refine va_get (ci := 4) (C := RX4) (T := TX4) (N := 34) C.1 C.2.1 C.2.2.2.2.2.1 ui_X4 C.2.2.2.2.1 C.2.2.2.2.2.2.2.1 hP 0 (rfl) rfl 17 (by decide) (C.2.2.2.2.2.1 _ tw_473) (fun _ h9 => h9) rfl dX4_finish_64 ?_
        refine lv_iload_n C.1 C.2.1 dX4_finish_67 rfl (lv_at hl 0 rfl) ?_
        refine lv_aload_n C.1 C.2.1 dX4_finish_68 rfl (lv_at hl 1 rfl) ?_
        refine va_get (ci := 4) (C := RX4) (T := TX4) (N := 34) C.1 C.2.1 C.2.2.2.2.2.1 ui_X4 C.2.2.2.2.1 C.2.2.2.2.2.2.2.1 hP 0 (rfl) rfl 26 (by decide) (C.2.2.2.2.2.1 _ tw_482) (fun _ h9 => h9) rfl dX4_finish_69 ?_
        refine lv_bipush (v := nI 8) C.1 C.2.1 dX4_finish_72 (by decide +kernel) ?_
        refine lv_iload_n C.1 C.2.1 dX4_finish_74 rfl (lv_at hl 2 rfl) ?_
        refine lv_imul C.1 C.2.1 dX4_finish_75 ?_
        rw [pk_mul]
        refine lv_iload_n C.1 C.2.1 dX4_finish_76 rfl (lv_at hl 0 rfl) ?_
        refine lv_iadd C.1 C.2.1 dX4_finish_77 ?_
        rw [nI_add]
        refine va_iald (f := A 26) C.1 C.2.1 C.2.2.2.2.2.2.2.1 hP 18 0 (rfl) rfl (vp_in_nI (by omega) (by decide)) dX4_finish_78 ?_
        rw [nI_clamp (by omega)]
        refine va_iast (f := va_cpy (A 26) (A 17) (8 * w) 0 j) C.1 C.2.1 C.2.2.2.2.2.2.2.1 hP hD hS 11 0 (rfl) rfl (vp_in_nI (by omega) (by decide)) dX4_finish_79 (fun H locs hP hD hS => ?_)
        rw [nI_clamp (by omega), show A 26 (8 * w + j) = (A 26) (8 * w + j) from rfl, cpy_u0] at hP hD
        have hP : va_P D vwCl (mw ad cI cZ X (va_up I 16 (nI n9)) (va_up (va_up (va_up A 17 (va_cpy (A 26) (A 17) (8 * w) 0 (j + 1))) 18 (va_cpy (A 27) (A 18) (8 * w) 0 j)) 19 (va_cpy (A 28) (A 19) (8 * w) 0 j))) H := hP
        have hD : va_D (cm_A (mw ad cI cZ X I A)) (mw ad cI cZ X (va_up I 16 (nI n9)) (va_up (va_up (va_up A 17 (va_cpy (A 26) (A 17) (8 * w) 0 (j + 1))) 18 (va_cpy (A 27) (A 18) (8 * w) 0 j)) 19 (va_cpy (A 28) (A 19) (8 * w) 0 j))) := hD
        refine lv_aload_n C.1 C.2.1 dX4_finish_80 rfl (lv_at hl 1 rfl) ?_
        refine va_get (ci := 4) (C := RX4) (T := TX4) (N := 34) C.1 C.2.1 C.2.2.2.2.2.1 ui_X4 C.2.2.2.2.1 C.2.2.2.2.2.2.2.1 hP 0 (rfl) rfl 18 (by decide) (C.2.2.2.2.2.1 _ tw_474) (fun _ h9 => h9) rfl dX4_finish_81 ?_
        refine lv_iload_n C.1 C.2.1 dX4_finish_84 rfl (lv_at hl 0 rfl) ?_
        refine lv_aload_n C.1 C.2.1 dX4_finish_85 rfl (lv_at hl 1 rfl) ?_
        refine va_get (ci := 4) (C := RX4) (T := TX4) (N := 34) C.1 C.2.1 C.2.2.2.2.2.1 ui_X4 C.2.2.2.2.1 C.2.2.2.2.2.2.2.1 hP 0 (rfl) rfl 27 (by decide) (C.2.2.2.2.2.1 _ tw_483) (fun _ h9 => h9) rfl dX4_finish_86 ?_
        refine lv_bipush (v := nI 8) C.1 C.2.1 dX4_finish_89 (by decide +kernel) ?_
        refine lv_iload_n C.1 C.2.1 dX4_finish_91 rfl (lv_at hl 2 rfl) ?_
        refine lv_imul C.1 C.2.1 dX4_finish_92 ?_
        rw [pk_mul]
        refine lv_iload_n C.1 C.2.1 dX4_finish_93 rfl (lv_at hl 0 rfl) ?_
        refine lv_iadd C.1 C.2.1 dX4_finish_94 ?_
        rw [nI_add]
        refine va_iald (f := A 27) C.1 C.2.1 C.2.2.2.2.2.2.2.1 hP 19 0 (rfl) rfl (vp_in_nI (by omega) (by decide)) dX4_finish_95 ?_
        rw [nI_clamp (by omega)]
        refine va_iast (f := va_cpy (A 27) (A 18) (8 * w) 0 j) C.1 C.2.1 C.2.2.2.2.2.2.2.1 hP hD hS 12 0 (rfl) rfl (vp_in_nI (by omega) (by decide)) dX4_finish_96 (fun H locs hP hD hS => ?_)
        rw [nI_clamp (by omega), show A 27 (8 * w + j) = (A 27) (8 * w + j) from rfl, cpy_u0] at hP hD
        have hP : va_P D vwCl (mw ad cI cZ X (va_up I 16 (nI n9)) (va_up (va_up (va_up A 17 (va_cpy (A 26) (A 17) (8 * w) 0 (j + 1))) 18 (va_cpy (A 27) (A 18) (8 * w) 0 (j + 1))) 19 (va_cpy (A 28) (A 19) (8 * w) 0 j))) H := hP
        have hD : va_D (cm_A (mw ad cI cZ X I A)) (mw ad cI cZ X (va_up I 16 (nI n9)) (va_up (va_up (va_up A 17 (va_cpy (A 26) (A 17) (8 * w) 0 (j + 1))) 18 (va_cpy (A 27) (A 18) (8 * w) 0 (j + 1))) 19 (va_cpy (A 28) (A 19) (8 * w) 0 j))) := hD
        refine lv_aload_n C.1 C.2.1 dX4_finish_97 rfl (lv_at hl 1 rfl) ?_
        refine va_get (ci := 4) (C := RX4) (T := TX4) (N := 34) C.1 C.2.1 C.2.2.2.2.2.1 ui_X4 C.2.2.2.2.1 C.2.2.2.2.2.2.2.1 hP 0 (rfl) rfl 19 (by decide) (C.2.2.2.2.2.1 _ tw_475) (fun _ h9 => h9) rfl dX4_finish_98 ?_
        refine lv_iload_n C.1 C.2.1 dX4_finish_101 rfl (lv_at hl 0 rfl) ?_
        refine lv_aload_n C.1 C.2.1 dX4_finish_102 rfl (lv_at hl 1 rfl) ?_
        refine va_get (ci := 4) (C := RX4) (T := TX4) (N := 34) C.1 C.2.1 C.2.2.2.2.2.1 ui_X4 C.2.2.2.2.1 C.2.2.2.2.2.2.2.1 hP 0 (rfl) rfl 28 (by decide) (C.2.2.2.2.2.1 _ tw_484) (fun _ h9 => h9) rfl dX4_finish_103 ?_
        refine lv_bipush (v := nI 8) C.1 C.2.1 dX4_finish_106 (by decide +kernel) ?_
        refine lv_iload_n C.1 C.2.1 dX4_finish_108 rfl (lv_at hl 2 rfl) ?_
        refine lv_imul C.1 C.2.1 dX4_finish_109 ?_
        rw [pk_mul]
        refine lv_iload_n C.1 C.2.1 dX4_finish_110 rfl (lv_at hl 0 rfl) ?_
        refine lv_iadd C.1 C.2.1 dX4_finish_111 ?_
        rw [nI_add]
        refine va_iald (f := A 28) C.1 C.2.1 C.2.2.2.2.2.2.2.1 hP 20 0 (rfl) rfl (vp_in_nI (by omega) (by decide)) dX4_finish_112 ?_
        rw [nI_clamp (by omega)]
        refine va_iast (f := va_cpy (A 28) (A 19) (8 * w) 0 j) C.1 C.2.1 C.2.2.2.2.2.2.2.1 hP hD hS 13 0 (rfl) rfl (vp_in_nI (by omega) (by decide)) dX4_finish_113 (fun H locs hP hD hS => ?_)
        rw [nI_clamp (by omega), show A 28 (8 * w + j) = (A 28) (8 * w + j) from rfl, cpy_u0] at hP hD
        have hP : va_P D vwCl (mw ad cI cZ X (va_up I 16 (nI n9)) (va_up (va_up (va_up A 17 (va_cpy (A 26) (A 17) (8 * w) 0 (j + 1))) 18 (va_cpy (A 27) (A 18) (8 * w) 0 (j + 1))) 19 (va_cpy (A 28) (A 19) (8 * w) 0 (j + 1)))) H := hP
        have hD : va_D (cm_A (mw ad cI cZ X I A)) (mw ad cI cZ X (va_up I 16 (nI n9)) (va_up (va_up (va_up A 17 (va_cpy (A 26) (A 17) (8 * w) 0 (j + 1))) 18 (va_cpy (A 27) (A 18) (8 * w) 0 (j + 1))) 19 (va_cpy (A 28) (A 19) (8 * w) 0 (j + 1)))) := hD
        refine lv_iinc (v := nI (j + 1)) (lv' := [(2, _), (0, _), (1, _)]) C.1 C.2.1 dX4_finish_114 hl (k := 0) rfl (nI_1 j) (by decide) rfl (fun ls hl => ?_)
        refine lv_goto (tgt := 55) C.1 C.2.1 dX4_finish_117 (by decide) ?_
        exact ih (j + 1) (by omega) ls H locs hl hP hD hS
    exact loop n9 0 (Nat.zero_add n9) ls H locs hl (by rw [← hs]; exact hP) (by rw [← hs]; exact hD) hS
  · refine lv_aload_n C.1 C.2.1 dX4_finish_0 rfl (lv_at hl 0 rfl) ?_
    refine va_get (ci := 4) (C := RX4) (T := TX4) (N := 34) C.1 C.2.1 C.2.2.2.2.2.1 ui_X4 C.2.2.2.2.1 C.2.2.2.2.2.2.2.1 hP 0 (rfl) rfl 22 (by decide) (C.2.2.2.2.2.1 _ tw_478) (fun _ h9 => h9) rfl dX4_finish_1 ?_
    refine lv_iload_n C.1 C.2.1 dX4_finish_4 rfl (lv_at hl 1 rfl) ?_
    refine va_iald C.1 C.2.1 C.2.2.2.2.2.2.2.1 hP 14 0 (rfl) rfl (vp_in_nI (by omega) (by decide)) dX4_finish_5 ?_
    rw [nI_clamp (by omega), hk]
    refine lv_iconst (v := nI 1) C.1 C.2.1 dX4_finish_6 (by decide +kernel) ?_
    refine lv_icmp_ne (tgt := 33) C.1 C.2.1 dX4_finish_7 (by decide) (fun _ => ?_) (fun h => absurd h (by decide))
    refine lv_aload_n C.1 C.2.1 dX4_finish_33 rfl (lv_at hl 0 rfl) ?_
    refine va_get (ci := 4) (C := RX4) (T := TX4) (N := 34) C.1 C.2.1 C.2.2.2.2.2.1 ui_X4 C.2.2.2.2.1 C.2.2.2.2.2.2.2.1 hP 0 (rfl) rfl 22 (by decide) (C.2.2.2.2.2.1 _ tw_478) (fun _ h9 => h9) rfl dX4_finish_34 ?_
    refine lv_iload_n C.1 C.2.1 dX4_finish_37 rfl (lv_at hl 1 rfl) ?_
    refine va_iald C.1 C.2.1 C.2.2.2.2.2.2.2.1 hP 14 0 (rfl) rfl (vp_in_nI (by omega) (by decide)) dX4_finish_38 ?_
    rw [nI_clamp (by omega), hk]
    refine lv_iconst (v := nI 2) C.1 C.2.1 dX4_finish_39 (by decide +kernel) ?_
    refine lv_icmp_ne (tgt := 123) C.1 C.2.1 dX4_finish_40 (by decide) (fun _ => ?_) (fun h => absurd h (by decide))
    refine lv_iconst (v := nI 0) C.1 C.2.1 dX4_finish_123 (by decide +kernel) ?_
    refine lv_istore_n (lv' := [(2, _), (0, _), (1, _)]) C.1 C.2.1 dX4_finish_124 rfl hl (by decide) rfl (fun ls hl => ?_)
    have hs : A = (va_up (va_up (va_up A 11 (va_cpy (nz (A 25)) (A 11) (8 * w) (4 * r9) 0)) 12 (va_cpy (A 27) (A 12) (8 * w) (4 * r9) 0)) 13 (va_cpy (A 28) (A 13) (8 * w) (4 * r9) 0)) := by simp only [cpy_0]; funext k9; by_cases h13 : k9 = 13 <;> by_cases h12 : k9 = 12 <;> by_cases h11 : k9 = 11 <;> simp [va_up, *]
    have loop : ∀ (k j : Nat), j + k = 4 → ∀ (ls : Array Slot) (H : Heap) (locs : List Loc), lv_has ls 4 [(2, .int (nI j)), (0, .ref (ad 0)), (1, .int (nI w))] → va_P D vwCl (mw ad cI cZ X I (va_up (va_up (va_up A 11 (va_cpy (nz (A 25)) (A 11) (8 * w) (4 * r9) j)) 12 (va_cpy (A 27) (A 12) (8 * w) (4 * r9) j)) 13 (va_cpy (A 28) (A 13) (8 * w) (4 * r9) j))) H → va_D (cm_A (mw ad cI cZ X I A)) (mw ad cI cZ X I (va_up (va_up (va_up A 11 (va_cpy (nz (A 25)) (A 11) (8 * w) (4 * r9) j)) 12 (va_cpy (A 27) (A 12) (8 * w) (4 * r9) j)) 13 (va_cpy (A 28) (A 13) (8 * w) (4 * r9) j))) → va_S (cm_A (mw ad cI cZ X I A)) s.heap H locs → W p l e (cm_rm 0 0) s m ([.ref (ad 0), .int (nI w)] : List Value).toArray below meth c H locs 0 0 (cm_Q below D [.ref (ad 0), .int (nI w)] s (mw ad cI cZ X I A) none (mw ad cI cZ X (fin1 w (I, A)).1 (fin1 w (I, A)).2)) (F0 m 125 ls []) := by
      intro k
      induction k with
      | zero =>
        intro j hj ls H locs hl hP hD hS
        refine lv_iload_n C.1 C.2.1 dX4_finish_125 rfl (lv_at hl 0 rfl) ?_
        refine lv_iconst (v := nI 4) C.1 C.2.1 dX4_finish_126 (by decide +kernel) ?_
        refine lv_icmp_ge (tgt := 198) C.1 C.2.1 dX4_finish_127 (by decide) (fun _ => ?_) (fun h => absurd (nI_le (by omega) (by omega)) h)
        obtain rfl : j = 4 := by omega
        exact cm_vret C hP hD hS dX4_finish_198 (by rw [show fin1 w (I, A) = _ from (if_neg (by show ¬ A 22 w = nI 1; rw [hk]; decide)).trans (if_neg (by show ¬ A 22 w = nI 2; rw [hk]; decide))]; simp only [hr, nI_clamp (show r9 < 2 ^ 31 by omega)])
      | succ k ih =>
        intro j hj ls H locs hl hP hD hS
        refine lv_iload_n C.1 C.2.1 dX4_finish_125 rfl (lv_at hl 0 rfl) ?_
        refine lv_iconst (v := nI 4) C.1 C.2.1 dX4_finish_126 (by decide +kernel) ?_
        refine lv_icmp_ge (tgt := 198) C.1 C.2.1 dX4_finish_127 (by decide) (fun h => absurd h (nI_ge (by omega) (by decide))) (fun _ => ?_)
        refine lv_iconst (v := nI 4) C.1 C.2.1 dX4_finish_130 (by decide +kernel) ?_
        refine lv_aload_n C.1 C.2.1 dX4_finish_131 rfl (lv_at hl 1 rfl) ?_
        refine va_get (ci := 4) (C := RX4) (T := TX4) (N := 34) C.1 C.2.1 C.2.2.2.2.2.1 ui_X4 C.2.2.2.2.1 C.2.2.2.2.2.2.2.1 hP 0 (rfl) rfl 23 (by decide) (C.2.2.2.2.2.1 _ tw_479) (fun _ h9 => h9) rfl dX4_finish_132 ?_
        refine lv_iload_n C.1 C.2.1 dX4_finish_135 rfl (lv_at hl 2 rfl) ?_
        refine va_iald (f := A 23) C.1 C.2.1 C.2.2.2.2.2.2.2.1 hP 15 0 (rfl) rfl (vp_in_nI (by omega) (by decide)) dX4_finish_136 ?_
        rw [nI_clamp (by omega), hr]
        refine lv_imul C.1 C.2.1 dX4_finish_137 ?_
        rw [pk_mul]
        refine lv_iload_n C.1 C.2.1 dX4_finish_138 rfl (lv_at hl 0 rfl) ?_
        refine lv_iadd C.1 C.2.1 dX4_finish_139 ?_
        rw [nI_add]
        refine lv_istore_n (lv' := [(3, _), (2, _), (0, _), (1, _)]) C.1 C.2.1 dX4_finish_140 rfl hl (by decide) rfl (fun ls hl => ?_)
        refine lv_aload_n C.1 C.2.1 dX4_finish_141 rfl (lv_at hl 2 rfl) ?_
        refine va_get (ci := 4) (C := RX4) (T := TX4) (N := 34) C.1 C.2.1 C.2.2.2.2.2.1 ui_X4 C.2.2.2.2.1 C.2.2.2.2.2.2.2.1 hP 0 (rfl) rfl 11 (by decide) (C.2.2.2.2.2.1 _ tw_467) (fun _ h9 => h9) rfl dX4_finish_142 ?_
        refine lv_iload_n C.1 C.2.1 dX4_finish_145 rfl (lv_at hl 0 rfl) ?_
        refine lv_aload_n C.1 C.2.1 dX4_finish_146 rfl (lv_at hl 2 rfl) ?_
        refine va_get (ci := 4) (C := RX4) (T := TX4) (N := 34) C.1 C.2.1 C.2.2.2.2.2.1 ui_X4 C.2.2.2.2.1 C.2.2.2.2.2.2.2.1 hP 0 (rfl) rfl 25 (by decide) (C.2.2.2.2.2.1 _ tw_481) (fun _ h9 => h9) rfl dX4_finish_147 ?_
        refine lv_bipush (v := nI 8) C.1 C.2.1 dX4_finish_150 (by decide +kernel) ?_
        refine lv_iload_n C.1 C.2.1 dX4_finish_152 rfl (lv_at hl 3 rfl) ?_
        refine lv_imul C.1 C.2.1 dX4_finish_153 ?_
        rw [pk_mul]
        refine lv_iload_n C.1 C.2.1 dX4_finish_154 rfl (lv_at hl 1 rfl) ?_
        refine lv_iadd C.1 C.2.1 dX4_finish_155 ?_
        rw [nI_add]
        refine va_zald (f := A 25) C.1 C.2.1 C.2.2.2.2.2.2.2.1 hP 17 1 (rfl) rfl (vp_in_nI (by omega) (by decide)) dX4_finish_156 ?_
        rw [nI_clamp (by omega)]
        refine va_zast (f := va_cpy (nz (A 25)) (A 11) (8 * w) (4 * r9) j) C.1 C.2.1 C.2.2.2.2.2.2.2.1 hP hD hS 8 1 (rfl) rfl (vp_in_nI (by omega) (by decide)) dX4_finish_157 (fun H locs hP hD hS => ?_)
        rw [nI_clamp (by omega), show vp_nar .boolean (A 25 (8 * w + j)) = nz (A 25) (8 * w + j) from rfl, cpy_u] at hP hD
        have hP : va_P D vwCl (mw ad cI cZ X I (va_up (va_up (va_up A 11 (va_cpy (nz (A 25)) (A 11) (8 * w) (4 * r9) (j + 1))) 12 (va_cpy (A 27) (A 12) (8 * w) (4 * r9) j)) 13 (va_cpy (A 28) (A 13) (8 * w) (4 * r9) j))) H := hP
        have hD : va_D (cm_A (mw ad cI cZ X I A)) (mw ad cI cZ X I (va_up (va_up (va_up A 11 (va_cpy (nz (A 25)) (A 11) (8 * w) (4 * r9) (j + 1))) 12 (va_cpy (A 27) (A 12) (8 * w) (4 * r9) j)) 13 (va_cpy (A 28) (A 13) (8 * w) (4 * r9) j))) := hD
        refine lv_aload_n C.1 C.2.1 dX4_finish_158 rfl (lv_at hl 2 rfl) ?_
        refine va_get (ci := 4) (C := RX4) (T := TX4) (N := 34) C.1 C.2.1 C.2.2.2.2.2.1 ui_X4 C.2.2.2.2.1 C.2.2.2.2.2.2.2.1 hP 0 (rfl) rfl 12 (by decide) (C.2.2.2.2.2.1 _ tw_468) (fun _ h9 => h9) rfl dX4_finish_159 ?_
        refine lv_iload_n C.1 C.2.1 dX4_finish_162 rfl (lv_at hl 0 rfl) ?_
        refine lv_aload_n C.1 C.2.1 dX4_finish_163 rfl (lv_at hl 2 rfl) ?_
        refine va_get (ci := 4) (C := RX4) (T := TX4) (N := 34) C.1 C.2.1 C.2.2.2.2.2.1 ui_X4 C.2.2.2.2.1 C.2.2.2.2.2.2.2.1 hP 0 (rfl) rfl 27 (by decide) (C.2.2.2.2.2.1 _ tw_483) (fun _ h9 => h9) rfl dX4_finish_164 ?_
        refine lv_bipush (v := nI 8) C.1 C.2.1 dX4_finish_167 (by decide +kernel) ?_
        refine lv_iload_n C.1 C.2.1 dX4_finish_169 rfl (lv_at hl 3 rfl) ?_
        refine lv_imul C.1 C.2.1 dX4_finish_170 ?_
        rw [pk_mul]
        refine lv_iload_n C.1 C.2.1 dX4_finish_171 rfl (lv_at hl 1 rfl) ?_
        refine lv_iadd C.1 C.2.1 dX4_finish_172 ?_
        rw [nI_add]
        refine va_iald (f := A 27) C.1 C.2.1 C.2.2.2.2.2.2.2.1 hP 19 0 (rfl) rfl (vp_in_nI (by omega) (by decide)) dX4_finish_173 ?_
        rw [nI_clamp (by omega)]
        refine va_iast (f := va_cpy (A 27) (A 12) (8 * w) (4 * r9) j) C.1 C.2.1 C.2.2.2.2.2.2.2.1 hP hD hS 9 0 (rfl) rfl (vp_in_nI (by omega) (by decide)) dX4_finish_174 (fun H locs hP hD hS => ?_)
        rw [nI_clamp (by omega), cpy_u] at hP hD
        have hP : va_P D vwCl (mw ad cI cZ X I (va_up (va_up (va_up A 11 (va_cpy (nz (A 25)) (A 11) (8 * w) (4 * r9) (j + 1))) 12 (va_cpy (A 27) (A 12) (8 * w) (4 * r9) (j + 1))) 13 (va_cpy (A 28) (A 13) (8 * w) (4 * r9) j))) H := hP
        have hD : va_D (cm_A (mw ad cI cZ X I A)) (mw ad cI cZ X I (va_up (va_up (va_up A 11 (va_cpy (nz (A 25)) (A 11) (8 * w) (4 * r9) (j + 1))) 12 (va_cpy (A 27) (A 12) (8 * w) (4 * r9) (j + 1))) 13 (va_cpy (A 28) (A 13) (8 * w) (4 * r9) j))) := hD
        refine lv_aload_n C.1 C.2.1 dX4_finish_175 rfl (lv_at hl 2 rfl) ?_
        refine va_get (ci := 4) (C := RX4) (T := TX4) (N := 34) C.1 C.2.1 C.2.2.2.2.2.1 ui_X4 C.2.2.2.2.1 C.2.2.2.2.2.2.2.1 hP 0 (rfl) rfl 13 (by decide) (C.2.2.2.2.2.1 _ tw_469) (fun _ h9 => h9) rfl dX4_finish_176 ?_
        refine lv_iload_n C.1 C.2.1 dX4_finish_179 rfl (lv_at hl 0 rfl) ?_
        refine lv_aload_n C.1 C.2.1 dX4_finish_180 rfl (lv_at hl 2 rfl) ?_
        refine va_get (ci := 4) (C := RX4) (T := TX4) (N := 34) C.1 C.2.1 C.2.2.2.2.2.1 ui_X4 C.2.2.2.2.1 C.2.2.2.2.2.2.2.1 hP 0 (rfl) rfl 28 (by decide) (C.2.2.2.2.2.1 _ tw_484) (fun _ h9 => h9) rfl dX4_finish_181 ?_
        refine lv_bipush (v := nI 8) C.1 C.2.1 dX4_finish_184 (by decide +kernel) ?_
        refine lv_iload_n C.1 C.2.1 dX4_finish_186 rfl (lv_at hl 3 rfl) ?_
        refine lv_imul C.1 C.2.1 dX4_finish_187 ?_
        rw [pk_mul]
        refine lv_iload_n C.1 C.2.1 dX4_finish_188 rfl (lv_at hl 1 rfl) ?_
        refine lv_iadd C.1 C.2.1 dX4_finish_189 ?_
        rw [nI_add]
        refine va_iald (f := A 28) C.1 C.2.1 C.2.2.2.2.2.2.2.1 hP 20 0 (rfl) rfl (vp_in_nI (by omega) (by decide)) dX4_finish_190 ?_
        rw [nI_clamp (by omega)]
        refine va_iast (f := va_cpy (A 28) (A 13) (8 * w) (4 * r9) j) C.1 C.2.1 C.2.2.2.2.2.2.2.1 hP hD hS 10 0 (rfl) rfl (vp_in_nI (by omega) (by decide)) dX4_finish_191 (fun H locs hP hD hS => ?_)
        rw [nI_clamp (by omega), cpy_u] at hP hD
        have hP : va_P D vwCl (mw ad cI cZ X I (va_up (va_up (va_up A 11 (va_cpy (nz (A 25)) (A 11) (8 * w) (4 * r9) (j + 1))) 12 (va_cpy (A 27) (A 12) (8 * w) (4 * r9) (j + 1))) 13 (va_cpy (A 28) (A 13) (8 * w) (4 * r9) (j + 1)))) H := hP
        have hD : va_D (cm_A (mw ad cI cZ X I A)) (mw ad cI cZ X I (va_up (va_up (va_up A 11 (va_cpy (nz (A 25)) (A 11) (8 * w) (4 * r9) (j + 1))) 12 (va_cpy (A 27) (A 12) (8 * w) (4 * r9) (j + 1))) 13 (va_cpy (A 28) (A 13) (8 * w) (4 * r9) (j + 1)))) := hD
        refine lv_iinc (v := nI (j + 1)) (lv' := [(2, _), (3, _), (0, _), (1, _)]) C.1 C.2.1 dX4_finish_192 hl (k := 1) rfl (nI_1 j) (by decide) rfl (fun ls hl => ?_)
        refine lv_goto (tgt := 125) C.1 C.2.1 dX4_finish_195 (by decide) ?_
        exact ih (j + 1) (by omega) ls H locs (lv_sub hl [0, 2, 3] rfl) hP hD hS
    exact loop 4 0 rfl ls H locs hl (by rw [← hs]; exact hP) (by rw [← hs]; exact hD) hS
