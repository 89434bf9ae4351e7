/-! ===== fitsBy, makeAnew, put ===== -/
def eq3 (A B : Nat → Nat → Int32) : Prop := A 1 = B 1 ∧ A 2 = B 2 ∧ A 3 = B 3
theorem uM_c {A B : Nat → Nat → Int32} (h : A 1 = B 1) (w : Nat) : uM A w = uM B w := by funext i; unfold uM; rw [h]
theorem kM_c {A B : Nat → Nat → Int32} (h : A 2 = B 2) (w : Nat) : kM A w = kM B w := by funext i; unfold kM; rw [h]
theorem vM_c {A B : Nat → Nat → Int32} (h : A 3 = B 3) (w : Nat) : vM A w = vM B w := by funext i; unfold vM; rw [h]
def clr (f : Nat → Int32) (n : Nat) : Nat → Int32 := fun i => if 72 ≤ i ∧ i < n then nI 0 else f i
theorem clr_0 (f : Nat → Int32) : clr f 72 = f := by funext i; unfold clr; rw [if_neg (by omega)]
theorem clr_s (f : Nat → Int32) (n : Nat) (hn : 72 ≤ n) : upd (clr f n) n (nI 0) = clr f (n + 1) := by
  funext i
  unfold upd clr
  by_cases h : i = n
  · subst h; rw [if_pos rfl, if_pos ⟨hn, by omega⟩]
  · rw [if_neg h]
    by_cases h2 : 72 ≤ i ∧ i < n
    · rw [if_pos h2, if_pos ⟨h2.1, by omega⟩]
    · rw [if_neg h2, if_neg (fun q => h2 ⟨q.1, by omega⟩)]
def piT (s : Int32) (A : Nat → Nat → Int32) (key val : Int32) : Option (Nat → Nat → Int32) := if (ch0 (uM A 2) (kM A 2) (vM A 2) s key val).1 = -2 then none else some (flR (absM 2 (ch0 (uM A 2) (kM A 2) (vM A 2) s key val).2) A)
def fitL (z : Nat) (s : Int32) : Nat → Nat → (Nat → Nat → Int32) → Option (Nat → Nat → Int32)
  | _, 0, A => some A
  | j, k + 1, A => if uM A z j = true then (piT s A (kM A z j) (vM A z j)).bind (fitL z s (j + 1) k) else fitL z s (j + 1) k A
def fitA (z : Nat) (s key val : Int32) (A : Nat → Nat → Int32) : Option (Nat → Nat → Int32) := (fitL z s 0 36 (va_up A 1 (clr (A 1) 108))).bind (fun B => piT s B key val)
def fitR (T : Option (Nat → Nat → Int32)) (r : Int32) (B : Nat → Nat → Int32) : Prop := match T with
  | none => r = nI 0
  | some F => r = nI 1 ∧ eq3 B F
theorem ch0_code (u : Nat → Bool) (k v : Nat → Int32) (s key val : Int32) : (ch0 u k v s key val).1 = nI 1 ∨ (ch0 u k v s key val).1 = nI 2 ∨ (ch0 u k v s key val).1 = nI 3 ∨ (ch0 u k v s key val).1 = -2 := by
  unfold ch0
  cases emS u (hm1 s key) with
  | some p => exact Or.inl rfl
  | none => cases emS u (hm2 s key) with
    | some p => exact Or.inl rfl
    | none =>
      dsimp only
      split
      · exact Or.inr (Or.inl rfl)
      · split
        · exact Or.inr (Or.inl rfl)
        · cases emS u 8 with
          | some p => exact Or.inr (Or.inr (Or.inl rfl))
          | none => exact Or.inr (Or.inr (Or.inr rfl))
/-- a trial's SLOTS taken over into the SET z -/
def cpT (z n : Nat) (A : Nat → Nat → Int32) : Nat → Nat → Int32 := va_up (va_up (va_up A 1 (va_cpy (nz (A 1)) (A 1) 72 (36 * z) n)) 2 (va_cpy (A 2) (A 2) 72 (36 * z) n)) 3 (va_cpy (A 3) (A 3) 72 (36 * z) n)
theorem cpT_0 (z : Nat) (A : Nat → Nat → Int32) : cpT z 0 A = A := by
  unfold cpT
  simp only [cpy_0]
  funext k9
  by_cases h3 : k9 = 3 <;> by_cases h2 : k9 = 2 <;> by_cases h1 : k9 = 1 <;> simp [va_up, *]
def pgN (z : Nat) : Nat → Nat → Nat × MS → Nat × MS
  | _, 0, x => x
  | j, k + 1, x => pgN z (j + 1) k (t0 x.1 + 1, wPg (9 * z + j) x.1 x.2)
/-- the other SET written, the root, and one more made anew -/
def anW (z y : Nat) (t : Nat) (st : MS) : MS := (va_up (wRt (pgN (1 - z) 0 9 (t, (va_up (va_up st.1 5 (nI (1 - z))) 6 (nI y), cpT (1 - z) 36 st.2))).1 (pgN (1 - z) 0 9 (t, (va_up (va_up st.1 5 (nI (1 - z))) 6 (nI y), cpT (1 - z) 36 st.2))).2).1 32 ((wRt (pgN (1 - z) 0 9 (t, (va_up (va_up st.1 5 (nI (1 - z))) 6 (nI y), cpT (1 - z) 36 st.2))).1 (pgN (1 - z) 0 9 (t, (va_up (va_up st.1 5 (nI (1 - z))) 6 (nI y), cpT (1 - z) 36 st.2))).2).1 32 + nI 1), (wRt (pgN (1 - z) 0 9 (t, (va_up (va_up st.1 5 (nI (1 - z))) 6 (nI y), cpT (1 - z) 36 st.2))).1 (pgN (1 - z) 0 9 (t, (va_up (va_up st.1 5 (nI (1 - z))) 6 (nI y), cpT (1 - z) 36 st.2))).2).2)
theorem pgN_ok {z : Nat} (hz : z < 2) : ∀ (k j : Nat) (x : Nat × MS), j + k ≤ 9 → okW x.1 x.2 → okW (pgN z j k x).1 (pgN z j k x).2 := by
  intro k
  induction k with
  | zero => intro j x _ h; exact h
  | succ k ih => intro j x hj h; exact ih (j + 1) _ (by omega) (wPg_ok h (by omega))
theorem pgN_I {z : Nat} (i : Nat) (hi : i ≠ 14 ∧ i ≠ 15 ∧ i ≠ 16 ∧ i ≠ 20 ∧ i ≠ 21) : ∀ (k j : Nat) (x : Nat × MS), (pgN z j k x).2.1 i = x.2.1 i := by
  intro k
  induction k with
  | zero => intro j x; rfl
  | succ k ih => intro j x; exact (ih (j + 1) _).trans (wPg_I i hi)
/-- the SLOTS of both SETS are the same -/
def eq72 (A B : Nat → Nat → Int32) : Prop := ∀ i, i < 72 → A 1 i = B 1 i ∧ A 2 i = B 2 i ∧ A 3 i = B 3 i
theorem flA_lo {p : Nat} {k v : Int32} {A : Nat → Nat → Int32} (hp : 72 ≤ p) : eq72 (flA p k v A) A := fun i hi => by
  have hne : i ≠ p := by omega
  exact ⟨pk_un hne, pk_un hne, pk_un hne⟩
theorem eq72.trans {A B C : Nat → Nat → Int32} (h1 : eq72 A B) (h2 : eq72 B C) : eq72 A C := fun i hi => ⟨(h1 i hi).1.trans (h2 i hi).1, (h1 i hi).2.1.trans (h2 i hi).2.1, (h1 i hi).2.2.trans (h2 i hi).2.2⟩
theorem eq72.rf {A : Nat → Nat → Int32} : eq72 A A := fun _ _ => ⟨rfl, rfl, rfl⟩
theorem eq3.to72 {A B : Nat → Nat → Int32} (h : eq3 A B) : eq72 A B := fun i _ => by rw [h.1, h.2.1, h.2.2]; exact ⟨rfl, rfl, rfl⟩
theorem flR_lo : ∀ (M : List (Nat × Int32 × Int32)) (A : Nat → Nat → Int32), (∀ m ∈ M, 72 ≤ m.1) → eq72 (flR M A) A := by
  intro M
  induction M with
  | nil => intro A _; exact eq72.rf
  | cons m M ih => intro A h; exact (flA_lo (h m List.mem_cons_self)).trans (ih A (fun q hq => h q (List.mem_cons_of_mem _ hq)))
theorem absM_ge (w : Nat) (M : List (Nat × Int32 × Int32)) : ∀ m ∈ absM w M, 36 * w ≤ m.1 := by
  intro m hm
  obtain ⟨m0, -, rfl⟩ := List.mem_map.mp hm
  exact Nat.le_add_right _ _
theorem piT_lo {s : Int32} {A B : Nat → Nat → Int32} {key val : Int32} (h : piT s A key val = some B) : eq72 B A := by
  unfold piT at h
  split at h
  · cases h
  · cases h; exact flR_lo _ _ (absM_ge 2 _)
theorem fitL_lo {z : Nat} {s : Int32} : ∀ (k j : Nat) {A B : Nat → Nat → Int32}, fitL z s j k A = some B → eq72 B A := by
  intro k
  induction k with
  | zero => intro j A B h; cases h; exact eq72.rf
  | succ k ih =>
    intro j A B h
    unfold fitL at h
    split at h
    · cases ht : piT s A (kM A z j) (vM A z j) with
      | none => rw [ht] at h; cases h
      | some A1 => rw [ht] at h; exact (ih (j + 1) (show fitL z s (j + 1) k A1 = some B from h)).trans (piT_lo ht)
    · exact ih (j + 1) h
theorem clrA_lo (A : Nat → Nat → Int32) : eq72 (va_up A 1 (clr (A 1) 108)) A := fun i hi => ⟨if_neg (fun q => by omega), rfl, rfl⟩
theorem fitA_lo {z : Nat} {s key val : Int32} {A B : Nat → Nat → Int32} (h : fitA z s key val A = some B) : eq72 B A := by
  unfold fitA at h
  cases ht : fitL z s 0 36 (va_up A 1 (clr (A 1) 108)) with
  | none => rw [ht] at h; cases h
  | some A1 => rw [ht] at h; exact (piT_lo (show piT s A1 key val = some B from h)).trans ((fitL_lo 36 0 ht).trans (clrA_lo A))
set_option maxHeartbeats 4000000 in
set_option maxRecDepth 100000 in
/-- fitsBy -/
theorem k_X4_fitsBy (l : Launch) (D : va_G) (cI cZ cJ : ClassId) (ad : Nat → Nat) (X : va_W) (I : Nat → Int32) (A : Nat → Nat → Int32) (z : Nat) (hz0 : z < 2) (hz : I 5 = nI z) (s0 key val : Int32) : CRi l D (cm_T cI cZ cJ) yX4_fitsBy cX4_fitsBy 6 (some .boolean) (cm_rm 7 167) [.ref (ad 0), .int s0, .int key, .int val] (mw ad cI cZ X I A) (fun r w1 => ∃ (J : Nat → Int32) (B : Nat → Nat → Int32), w1 = mw ad cI cZ X J B ∧ (∀ i, i ≠ 7 → i ≠ 29 → J i = I i) ∧ (∀ i, i ≠ 1 → i ≠ 2 → i ≠ 3 → i ≠ 8 → i ≠ 9 → i ≠ 10 → i ≠ 30 → B i = A i) ∧ eq72 B A ∧ fitR (fitA z s0 key val A) r B) := by
  refine CRi.of (by decide) (Nat.le_of_ble_eq_true rfl) ?_
  intro p e s m below meth c ls H locs C hl hP hD hS
  refine lv_bipush (v := nI 72) C.1 C.2.1 dX4_fitsBy_0 (by decide +kernel) ?_
  refine lv_istore (lv' := [(4, _), (0, _), (1, _), (2, _), (3, _)]) C.1 C.2.1 dX4_fitsBy_2 hl (by decide) rfl (fun ls hl => ?_)
  generalize hT9 : fitA z s0 key val A = T9
  have loop : ∀ (k j : Nat) (J : Nat → Int32) (C9 B9 : Nat → Nat → Int32), j + k = 36 → (∀ i, i ≠ 7 → i ≠ 29 → J i = I i) → (∀ i, i ≠ 1 → i ≠ 2 → i ≠ 3 → i ≠ 8 → i ≠ 9 → i ≠ 10 → i ≠ 30 → C9 i = A i) → eq72 C9 A → eq3 C9 B9 → (fitL z s0 j k B9).bind (fun B => piT s0 B key val) = T9 → ∀ (ls : Array Slot) (H : Heap) (locs : List Loc), lv_has ls 6 [(4, .int (nI j)), (0, .ref (ad 0)), (1, .int s0), (2, .int key), (3, .int val)] → va_P D vwCl (mw ad cI cZ X J C9) H → va_D (cm_A (mw ad cI cZ X I A)) (mw ad cI cZ X J C9) → va_S (cm_A (mw ad cI cZ X I A)) s.heap H locs → W p l e (cm_rm 7 167) s m ([.ref (ad 0), .int s0, .int key, .int val] : List Value).toArray below meth c H locs 0 0 (cr_Q below D [.ref (ad 0), .int s0, .int key, .int val] s (mw ad cI cZ X I A) (fun r w1 => ∃ (J : Nat → Int32) (B : Nat → Nat → Int32), w1 = mw ad cI cZ X J B ∧ (∀ i, i ≠ 7 → i ≠ 29 → J i = I i) ∧ (∀ i, i ≠ 1 → i ≠ 2 → i ≠ 3 → i ≠ 8 → i ≠ 9 → i ≠ 10 → i ≠ 30 → B i = A i) ∧ eq72 B A ∧ fitR T9 r B)) (F0 m 28 ls []) := by
    intro k
    induction k with
    | zero =>
      intro j J C9 B9 hj hJ hC h72 heq hT ls H locs hl hP hD hS
      obtain ⟨q1, q2, q3⟩ := heq
      refine lv_iload C.1 C.2.1 dX4_fitsBy_28 (lv_at hl 0 rfl) ?_
      refine lv_bipush (v := nI 36) C.1 C.2.1 dX4_fitsBy_30 (by decide +kernel) ?_
      refine lv_icmp_ge (tgt := 89) C.1 C.2.1 dX4_fitsBy_32 (by decide) (fun _ => ?_) (fun h => absurd (nI_le (by omega) (by omega)) h)
      refine lv_aload_n C.1 C.2.1 dX4_fitsBy_89 rfl (lv_at hl 1 rfl) ?_
      refine lv_iconst (v := nI 2) C.1 C.2.1 dX4_fitsBy_90 (by decide +kernel) ?_
      refine lv_iload_n C.1 C.2.1 dX4_fitsBy_91 rfl (lv_at hl 2 rfl) ?_
      refine lv_iload_n C.1 C.2.1 dX4_fitsBy_92 rfl (lv_at hl 3 rfl) ?_
      refine lv_iload_n C.1 C.2.1 dX4_fitsBy_93 rfl (lv_at hl 4 rfl) ?_
      refine lv_iconst (v := nI 0) C.1 C.2.1 dX4_fitsBy_94 (by decide +kernel) ?_
      refine cr_cV (q0 := 0) 5 C (k_X4_putInto0 l D cI cZ cJ ad X J C9 2 (by decide) s0 key val) tw_608 tw_610 ts_19 tw_5 tw_611 rfl rfl rfl rfl (by decide +kernel) ⟨Nat.le_of_ble_eq_true rfl, Nat.le_of_ble_eq_true rfl⟩ ⟨Nat.zero_le _, Nat.zero_le _⟩ hP hD hS hl.1 rfl rfl (Nat.le_of_ble_eq_true rfl) dX4_fitsBy_95 (fun r9 w1 H locs hE hP hD hS => ?_)
      obtain ⟨J1, B1, rfl, rfl, f1, f2, f3, f4⟩ := hE
      rw [uM_c q1, kM_c q2, vM_c q3] at f3 f4 ⊢
      have hT : piT s0 B9 key val = T9 := hT
      by_cases hfull : (ch0 (uM B9 2) (kM B9 2) (vM B9 2) s0 key val).1 = -2
      · refine lv_if_le (tgt := 105) C.1 C.2.1 dX4_fitsBy_98 (by decide) (fun _ => ?_) (fun h => absurd (by rw [hfull]; decide) h)
        refine lv_iconst (v := nI 0) C.1 C.2.1 dX4_fitsBy_105 (by decide +kernel) ?_
        exact cr_zret C hP hD hS dX4_fitsBy_106 (by decide +kernel) ⟨_, _, rfl, fun i h7 h29 => (f1 i h7 h29).trans (hJ i h7 h29), fun i h1 h2 h3 h8 h9 h10 h30 => (f2 i h1 h2 h3 h8 h9 h10 h30).trans (hC i h1 h2 h3 h8 h9 h10 h30), (eq3.to72 (f3 hfull)).trans h72, by rw [← hT]; unfold piT; rw [if_pos hfull]; rfl⟩
      · refine lv_if_le (tgt := 105) C.1 C.2.1 dX4_fitsBy_98 (by decide) (fun h => absurd h (by rcases ch0_code (uM B9 2) (kM B9 2) (vM B9 2) s0 key val with q | q | q | q <;> first | exact absurd q hfull | (rw [q]; decide))) (fun _ => ?_)
        refine lv_iconst (v := nI 1) C.1 C.2.1 dX4_fitsBy_101 (by decide +kernel) ?_
        refine lv_goto (tgt := 106) C.1 C.2.1 dX4_fitsBy_102 (by decide) ?_
        obtain ⟨g1, g2, g3⟩ := f4 hfull
        obtain ⟨e1, e2, e3⟩ := flR_c (absM 2 (ch0 (uM B9 2) (kM B9 2) (vM B9 2) s0 key val).2) C9 B9 q1 q2 q3
        exact cr_zret C hP hD hS dX4_fitsBy_106 (by decide +kernel) ⟨_, _, rfl, fun i h7 h29 => (f1 i h7 h29).trans (hJ i h7 h29), fun i h1 h2 h3 h8 h9 h10 h30 => (f2 i h1 h2 h3 h8 h9 h10 h30).trans (hC i h1 h2 h3 h8 h9 h10 h30), (eq3.to72 (A := B1) ⟨g1, g2, g3⟩).trans ((flR_lo _ C9 (absM_ge 2 _)).trans h72), by rw [← hT]; unfold piT; rw [if_neg hfull]; exact ⟨rfl, g1.trans e1, g2.trans e2, g3.trans e3⟩⟩
    | succ k ih =>
      intro j J C9 B9 hj hJ hC h72 heq hT ls H locs hl hP hD hS
      obtain ⟨q1, q2, q3⟩ := heq
      have hz9 : J 5 = nI z := (hJ 5 (by decide) (by decide)).trans hz
      by_cases hu : uM B9 z j = true
      · refine lv_iload C.1 C.2.1 dX4_fitsBy_28 (lv_at hl 0 rfl) ?_
        refine lv_bipush (v := nI 36) C.1 C.2.1 dX4_fitsBy_30 (by decide +kernel) ?_
        refine lv_icmp_ge (tgt := 89) C.1 C.2.1 dX4_fitsBy_32 (by decide) (fun h => absurd h (nI_ge (by omega) (by decide))) (fun _ => ?_)
        refine lv_bipush (v := nI 36) C.1 C.2.1 dX4_fitsBy_35 (by decide +kernel) ?_
        refine lv_aload_n C.1 C.2.1 dX4_fitsBy_37 rfl (lv_at hl 1 rfl) ?_
        refine va_get (ci := 4) (C := RX4) (T := TX4) (N := 34) C.1 C.2.1 C.2.2.2.2.2.1 ui_X4 C.2.2.2.2.1 C.2.2.2.2.2.2.2.1 hP 0 (rfl) rfl 5 (by decide) (C.2.2.2.2.2.1 _ tw_461) (fun _ h9 => h9) rfl dX4_fitsBy_38 ?_
        rw [hz9]
        refine lv_imul C.1 C.2.1 dX4_fitsBy_41 ?_
        rw [pk_mul]
        refine lv_iload C.1 C.2.1 dX4_fitsBy_42 (lv_at hl 0 rfl) ?_
        refine lv_iadd C.1 C.2.1 dX4_fitsBy_44 ?_
        rw [nI_add]
        refine lv_istore (lv' := [(5, _), (4, _), (0, _), (1, _), (2, _), (3, _)]) C.1 C.2.1 dX4_fitsBy_45 hl (by decide) rfl (fun ls hl => ?_)
        refine lv_aload_n C.1 C.2.1 dX4_fitsBy_47 rfl (lv_at hl 2 rfl) ?_
        refine va_get (ci := 4) (C := RX4) (T := TX4) (N := 34) C.1 C.2.1 C.2.2.2.2.2.1 ui_X4 C.2.2.2.2.1 C.2.2.2.2.2.2.2.1 hP 0 (rfl) rfl 1 (by decide) (C.2.2.2.2.2.1 _ tw_457) (fun _ h9 => h9) rfl dX4_fitsBy_48 ?_
        refine lv_iload C.1 C.2.1 dX4_fitsBy_51 (lv_at hl 0 rfl) ?_
        refine va_zald (f := C9 1) C.1 C.2.1 C.2.2.2.2.2.2.2.1 hP 1 1 (rfl) rfl (vp_in_nI (by omega) (by decide)) dX4_fitsBy_53 ?_
        rw [nI_clamp (by omega)]
        refine lv_if_eq (tgt := 83) C.1 C.2.1 dX4_fitsBy_54 (by decide) (fun h => absurd h (by rw [q1]; simpa [uM] using hu)) (fun _ => ?_)
        refine lv_aload_n C.1 C.2.1 dX4_fitsBy_57 rfl (lv_at hl 2 rfl) ?_
        refine lv_iconst (v := nI 2) C.1 C.2.1 dX4_fitsBy_58 (by decide +kernel) ?_
        refine lv_iload_n C.1 C.2.1 dX4_fitsBy_59 rfl (lv_at hl 3 rfl) ?_
        refine lv_aload_n C.1 C.2.1 dX4_fitsBy_60 rfl (lv_at hl 2 rfl) ?_
        refine va_get (ci := 4) (C := RX4) (T := TX4) (N := 34) C.1 C.2.1 C.2.2.2.2.2.1 ui_X4 C.2.2.2.2.1 C.2.2.2.2.2.2.2.1 hP 0 (rfl) rfl 2 (by decide) (C.2.2.2.2.2.1 _ tw_458) (fun _ h9 => h9) rfl dX4_fitsBy_61 ?_
        refine lv_iload C.1 C.2.1 dX4_fitsBy_64 (lv_at hl 0 rfl) ?_
        refine va_iald (f := C9 2) C.1 C.2.1 C.2.2.2.2.2.2.2.1 hP 2 0 (rfl) rfl (vp_in_nI (by omega) (by decide)) dX4_fitsBy_66 ?_
        rw [nI_clamp (by omega), show C9 2 (36 * z + j) = kM B9 z j by unfold kM; rw [q2]]
        refine lv_aload_n C.1 C.2.1 dX4_fitsBy_67 rfl (lv_at hl 2 rfl) ?_
        refine va_get (ci := 4) (C := RX4) (T := TX4) (N := 34) C.1 C.2.1 C.2.2.2.2.2.1 ui_X4 C.2.2.2.2.1 C.2.2.2.2.2.2.2.1 hP 0 (rfl) rfl 3 (by decide) (C.2.2.2.2.2.1 _ tw_459) (fun _ h9 => h9) rfl dX4_fitsBy_68 ?_
        refine lv_iload C.1 C.2.1 dX4_fitsBy_71 (lv_at hl 0 rfl) ?_
        refine va_iald (f := C9 3) C.1 C.2.1 C.2.2.2.2.2.2.2.1 hP 3 0 (rfl) rfl (vp_in_nI (by omega) (by decide)) dX4_fitsBy_73 ?_
        rw [nI_clamp (by omega), show C9 3 (36 * z + j) = vM B9 z j by unfold vM; rw [q3]]
        refine lv_iconst (v := nI 0) C.1 C.2.1 dX4_fitsBy_74 (by decide +kernel) ?_
        refine cr_cV (q0 := 0) 5 C (k_X4_putInto0 l D cI cZ cJ ad X J C9 2 (by decide) s0 (kM B9 z j) (vM B9 z j)) tw_608 tw_610 ts_19 tw_5 tw_611 rfl rfl rfl rfl (by decide +kernel) ⟨Nat.le_of_ble_eq_true rfl, Nat.le_of_ble_eq_true rfl⟩ ⟨Nat.zero_le _, Nat.zero_le _⟩ hP hD hS hl.1 rfl rfl (Nat.le_of_ble_eq_true rfl) dX4_fitsBy_75 (fun r9 w1 H locs hE hP hD hS => ?_)
        obtain ⟨J1, B1, rfl, rfl, f1, f2, f3, f4⟩ := hE
        rw [uM_c q1, kM_c q2, vM_c q3] at f3 f4 ⊢
        by_cases hfull : (ch0 (uM B9 2) (kM B9 2) (vM B9 2) s0 (kM B9 z j) (vM B9 z j)).1 = -2
        · refine lv_if_ge (tgt := 83) C.1 C.2.1 dX4_fitsBy_78 (by decide) (fun h => absurd h (by rw [hfull]; decide)) (fun _ => ?_)
          refine lv_iconst (v := nI 0) C.1 C.2.1 dX4_fitsBy_81 (by decide +kernel) ?_
          exact cr_zret C hP hD hS dX4_fitsBy_82 (by decide +kernel) ⟨_, _, rfl, fun i h7 h29 => (f1 i h7 h29).trans (hJ i h7 h29), fun i h1 h2 h3 h8 h9 h10 h30 => (f2 i h1 h2 h3 h8 h9 h10 h30).trans (hC i h1 h2 h3 h8 h9 h10 h30), (eq3.to72 (f3 hfull)).trans h72, by rw [← hT]; simp [fitL, hu, piT, hfull, fitR]⟩
        · refine lv_if_ge (tgt := 83) C.1 C.2.1 dX4_fitsBy_78 (by decide) (fun _ => ?_) (fun h => absurd (by rcases ch0_code (uM B9 2) (kM B9 2) (vM B9 2) s0 (kM B9 z j) (vM B9 z j) with q | q | q | q <;> first | exact absurd q hfull | (rw [q]; decide)) h)
          refine lv_iinc (v := nI (j + 1)) (lv' := [(4, _), (5, _), (0, _), (1, _), (2, _), (3, _)]) C.1 C.2.1 dX4_fitsBy_83 hl (k := 1) rfl (nI_1 j) (by decide) rfl (fun ls hl => ?_)
          refine lv_goto (tgt := 28) C.1 C.2.1 dX4_fitsBy_86 (by decide) ?_
          obtain ⟨g1, g2, g3⟩ := f4 hfull
          obtain ⟨e1, e2, e3⟩ := flR_c (absM 2 (ch0 (uM B9 2) (kM B9 2) (vM B9 2) s0 (kM B9 z j) (vM B9 z j)).2) C9 B9 q1 q2 q3
          exact ih (j + 1) J1 B1 (flR (absM 2 (ch0 (uM B9 2) (kM B9 2) (vM B9 2) s0 (kM B9 z j) (vM B9 z j)).2) B9) (by omega) (fun i h7 h29 => (f1 i h7 h29).trans (hJ i h7 h29)) (fun i h1 h2 h3 h8 h9 h10 h30 => (f2 i h1 h2 h3 h8 h9 h10 h30).trans (hC i h1 h2 h3 h8 h9 h10 h30)) ((eq3.to72 (A := B1) ⟨g1, g2, g3⟩).trans ((flR_lo _ C9 (absM_ge 2 _)).trans h72)) ⟨g1.trans e1, g2.trans e2, g3.trans e3⟩ (by rw [← hT]; simp [fitL, hu, piT, hfull]) ls H locs (lv_sub hl [0, 2, 3, 4, 5] rfl) hP hD hS
      · refine lv_iload C.1 C.2.1 dX4_fitsBy_28 (lv_at hl 0 rfl) ?_
        refine lv_bipush (v := nI 36) C.1 C.2.1 dX4_fitsBy_30 (by decide +kernel) ?_
        refine lv_icmp_ge (tgt := 89) C.1 C.2.1 dX4_fitsBy_32 (by decide) (fun h => absurd h (nI_ge (by omega) (by decide))) (fun _ => ?_)
        refine lv_bipush (v := nI 36) C.1 C.2.1 dX4_fitsBy_35 (by decide +kernel) ?_
        refine lv_aload_n C.1 C.2.1 dX4_fitsBy_37 rfl (lv_at hl 1 rfl) ?_
        refine va_get (ci := 4) (C := RX4) (T := TX4) (N := 34) C.1 C.2.1 C.2.2.2.2.2.1 ui_X4 C.2.2.2.2.1 C.2.2.2.2.2.2.2.1 hP 0 (rfl) rfl 5 (by decide) (C.2.2.2.2.2.1 _ tw_461) (fun _ h9 => h9) rfl dX4_fitsBy_38 ?_
        rw [hz9]
        refine lv_imul C.1 C.2.1 dX4_fitsBy_41 ?_
        rw [pk_mul]
        refine lv_iload C.1 C.2.1 dX4_fitsBy_42 (lv_at hl 0 rfl) ?_
        refine lv_iadd C.1 C.2.1 dX4_fitsBy_44 ?_
        rw [nI_add]
        refine lv_istore (lv' := [(5, _), (4, _), (0, _), (1, _), (2, _), (3, _)]) C.1 C.2.1 dX4_fitsBy_45 hl (by decide) rfl (fun ls hl => ?_)
        refine lv_aload_n C.1 C.2.1 dX4_fitsBy_47 rfl (lv_at hl 2 rfl) ?_
        refine va_get (ci := 4) (C := RX4) (T := TX4) (N := 34) C.1 C.2.1 C.2.2.2.2.2.1 ui_X4 C.2.2.2.2.1 C.2.2.2.2.2.2.2.1 hP 0 (rfl) rfl 1 (by decide) (C.2.2.2.2.2.1 _ tw_457) (fun _ h9 => h9) rfl dX4_fitsBy_48 ?_
        refine lv_iload C.1 C.2.1 dX4_fitsBy_51 (lv_at hl 0 rfl) ?_
        refine va_zald (f := C9 1) C.1 C.2.1 C.2.2.2.2.2.2.2.1 hP 1 1 (rfl) rfl (vp_in_nI (by omega) (by decide)) dX4_fitsBy_53 ?_
        rw [nI_clamp (by omega)]
        refine lv_if_eq (tgt := 83) C.1 C.2.1 dX4_fitsBy_54 (by decide) (fun _ => ?_) (fun h => absurd (by rw [q1]; simpa [uM] using hu) h)
        refine lv_iinc (v := nI (j + 1)) (lv' := [(4, _), (5, _), (0, _), (1, _), (2, _), (3, _)]) C.1 C.2.1 dX4_fitsBy_83 hl (k := 1) rfl (nI_1 j) (by decide) rfl (fun ls hl => ?_)
        refine lv_goto (tgt := 28) C.1 C.2.1 dX4_fitsBy_86 (by decide) ?_
        exact ih (j + 1) J C9 B9 (by omega) hJ hC h72 ⟨q1, q2, q3⟩ (by rw [← hT]; simp [fitL, hu]) ls H locs (lv_sub hl [0, 2, 3, 4, 5] rfl) hP hD hS
  have first : ∀ (k j : Nat), j + k = 108 → 72 ≤ j → ∀ (ls : Array Slot) (H : Heap) (locs : List Loc), lv_has ls 6 [(4, .int (nI j)), (0, .ref (ad 0)), (1, .int s0), (2, .int key), (3, .int val)] → va_P D vwCl (mw ad cI cZ X I (va_up A 1 (clr (A 1) j))) H → va_D (cm_A (mw ad cI cZ X I A)) (mw ad cI cZ X I (va_up A 1 (clr (A 1) j))) → va_S (cm_A (mw ad cI cZ X I A)) s.heap H locs → W p l e (cm_rm 7 167) s m ([.ref (ad 0), .int s0, .int key, .int val] : List Value).toArray below meth c H locs 0 0 (cr_Q below D [.ref (ad 0), .int s0, .int key, .int val] s (mw ad cI cZ X I A) (fun r w1 => ∃ (J : Nat → Int32) (B : Nat → Nat → Int32), w1 = mw ad cI cZ X J B ∧ (∀ i, i ≠ 7 → i ≠ 29 → J i = I i) ∧ (∀ i, i ≠ 1 → i ≠ 2 → i ≠ 3 → i ≠ 8 → i ≠ 9 → i ≠ 10 → i ≠ 30 → B i = A i) ∧ eq72 B A ∧ fitR T9 r B)) (F0 m 4 ls []) := by
    intro k
    induction k with
    | zero =>
      intro j hj h72 ls H locs hl hP hD hS
      refine lv_iload C.1 C.2.1 dX4_fitsBy_4 (lv_at hl 0 rfl) ?_
      refine lv_bipush (v := nI 108) C.1 C.2.1 dX4_fitsBy_6 (by decide +kernel) ?_
      refine lv_icmp_ge (tgt := 25) C.1 C.2.1 dX4_fitsBy_8 (by decide) (fun _ => ?_) (fun h => absurd (nI_le (by omega) (by omega)) h)
      refine lv_iconst (v := nI 0) C.1 C.2.1 dX4_fitsBy_25 (by decide +kernel) ?_
      refine lv_istore (lv' := [(4, _), (0, _), (1, _), (2, _), (3, _)]) C.1 C.2.1 dX4_fitsBy_26 hl (by decide) rfl (fun ls hl => ?_)
      have hj9 : j = 108 := by omega
      rw [hj9] at hP hD
      exact loop 36 0 I _ _ rfl (fun _ _ _ => rfl) (fun i h1 _ _ _ _ _ _ => va_up_ne _ _ h1) (clrA_lo A) ⟨rfl, rfl, rfl⟩ hT9 ls H locs hl hP hD hS
    | succ k ih =>
      intro j hj h72 ls H locs hl hP hD hS
      refine lv_iload C.1 C.2.1 dX4_fitsBy_4 (lv_at hl 0 rfl) ?_
      refine lv_bipush (v := nI 108) C.1 C.2.1 dX4_fitsBy_6 (by decide +kernel) ?_
      refine lv_icmp_ge (tgt := 25) C.1 C.2.1 dX4_fitsBy_8 (by decide) (fun h => absurd h (nI_ge (by omega) (by decide))) (fun _ => ?_)
      refine lv_aload_n C.1 C.2.1 dX4_fitsBy_11 rfl (lv_at hl 1 rfl) ?_
      refine va_get (ci := 4) (C := RX4) (T := TX4) (N := 34) C.1 C.2.1 C.2.2.2.2.2.1 ui_X4 C.2.2.2.2.1 C.2.2.2.2.2.2.2.1 hP 0 (rfl) rfl 1 (by decide) (C.2.2.2.2.2.1 _ tw_457) (fun _ h9 => h9) rfl dX4_fitsBy_12 ?_
      refine lv_iload C.1 C.2.1 dX4_fitsBy_15 (lv_at hl 0 rfl) ?_
      refine lv_iconst (v := nI 0) C.1 C.2.1 dX4_fitsBy_17 (by decide +kernel) ?_
      refine va_zast (f := clr (A 1) j) C.1 C.2.1 C.2.2.2.2.2.2.2.1 hP hD hS 1 1 (rfl) rfl (vp_in_nI (by omega) (by decide)) dX4_fitsBy_18 (fun H locs hP hD hS => ?_)
      rw [nI_clamp (by omega), show vp_nar .boolean (nI 0) = nI 0 by decide +kernel, clr_s _ _ h72] at hP hD
      have hP : va_P D vwCl (mw ad cI cZ X I (va_up A 1 (clr (A 1) (j + 1)))) H := hP
      have hD : va_D (cm_A (mw ad cI cZ X I A)) (mw ad cI cZ X I (va_up A 1 (clr (A 1) (j + 1)))) := hD
      refine lv_iinc (v := nI (j + 1)) (lv' := [(4, _), (0, _), (1, _), (2, _), (3, _)]) C.1 C.2.1 dX4_fitsBy_19 hl (k := 0) rfl (nI_1 j) (by decide) rfl (fun ls hl => ?_)
      refine lv_goto (tgt := 4) C.1 C.2.1 dX4_fitsBy_22 (by decide) ?_
      exact ih (j + 1) (by omega) (by omega) ls H locs hl hP hD hS
  have hs : A = (va_up A 1 (clr (A 1) 72)) := by rw [clr_0]; funext k9; by_cases h1 : k9 = 1 <;> simp [va_up, *]
  exact first 36 72 rfl (Nat.le_refl 72) ls H locs hl (by rw [← hs]; exact hP) (by rw [← hs]; exact hD) hS
def anM (z : Nat) (y : Nat) (key val : Int32) (A : Nat → Nat → Int32) (st k : Nat) : Prop := ∀ i, st ≤ i → i < st + k → fitA z (A 4 ((y + i) % 4)) key val A = none
def maE (ad : Nat → Nat) (cI cZ : ClassId) (X : va_W) (I : Nat → Int32) (A : Nat → Nat → Int32) (z y t : Nat) (key val : Int32) (r : Int32) (w1 : va_W) : Prop := ∃ (J : Nat → Int32) (B : Nat → Nat → Int32), (∀ i, i ≠ 7 → i ≠ 29 → J i = I i) ∧ (∀ i, i ≠ 1 → i ≠ 2 → i ≠ 3 → i ≠ 8 → i ≠ 9 → i ≠ 10 → i ≠ 30 → B i = A i) ∧
  ((∃ st F, 1 ≤ st ∧ st < 4 ∧ (∀ i, 1 ≤ i → i < st → ∃ A9, eq72 A9 A ∧ A9 4 = A 4 ∧ fitA z (A 4 ((y + i) % 4)) key val A9 = none) ∧ (∃ A9, eq72 A9 A ∧ A9 4 = A 4 ∧ fitA z (A 4 ((y + st) % 4)) key val A9 = some F) ∧ eq3 B F ∧ r = nI 4 ∧ w1 = mw ad cI cZ X (anW z ((y + st) % 4) t (J, B)).1 (anW z ((y + st) % 4) t (J, B)).2) ∨
   ((∀ i, 1 ≤ i → i < 4 → ∃ A9, eq72 A9 A ∧ A9 4 = A 4 ∧ fitA z (A 4 ((y + i) % 4)) key val A9 = none) ∧ eq72 B A ∧ r = -2 ∧ w1 = mw ad cI cZ X J B))
set_option maxHeartbeats 4000000 in
set_option maxRecDepth 100000 in
/-- makeAnew -/
theorem k_X4_makeAnew (l : Launch) (D : va_G) (cI cZ cJ : ClassId) (ad : Nat → Nat) (X : va_W) (I : Nat → Int32) (A : Nat → Nat → Int32) (z y9 : Nat) (hz0 : z < 2) (hy0 : y9 < 4) (hz : I 5 = nI z) (hy : I 6 = nI y9) (t : Nat) (hok : okW t (I, A)) (key val : Int32) : CRi l D (cm_T cI cZ cJ) yX4_makeAnew cX4_makeAnew 6 (some .int) (cm_rm 8 192) [.ref (ad 0), .int key, .int val] (mw ad cI cZ X I A) (maE ad cI cZ X I A z y9 t key val) := by
  refine CRi.of (by decide) (Nat.le_of_ble_eq_true rfl) ?_
  intro p e s m below meth c ls H locs C hl hP hD hS
  refine lv_iconst (v := nI 1) C.1 C.2.1 dX4_makeAnew_0 (by decide +kernel) ?_
  refine lv_istore_n (lv' := [(3, _), (0, _), (1, _), (2, _)]) C.1 C.2.1 dX4_makeAnew_1 rfl hl (by decide) rfl (fun ls hl => ?_)
  have loop : ∀ (k st : Nat) (J : Nat → Int32) (B9 : Nat → Nat → Int32), st + k = 4 → 1 ≤ st → (∀ i, i ≠ 7 → i ≠ 29 → J i = I i) → (∀ i, i ≠ 1 → i ≠ 2 → i ≠ 3 → i ≠ 8 → i ≠ 9 → i ≠ 10 → i ≠ 30 → B9 i = A i) → eq72 B9 A → (∀ i, 1 ≤ i → i < st → ∃ A9, eq72 A9 A ∧ A9 4 = A 4 ∧ fitA z (A 4 ((y9 + i) % 4)) key val A9 = none) → ∀ (ls : Array Slot) (H : Heap) (locs : List Loc), lv_has ls 6 [(3, .int (nI st)), (0, .ref (ad 0)), (1, .int key), (2, .int val)] → va_P D vwCl (mw ad cI cZ X J B9) H → va_D (cm_A (mw ad cI cZ X I A)) (mw ad cI cZ X J B9) → va_S (cm_A (mw ad cI cZ X I A)) s.heap H locs → W p l e (cm_rm 8 192) s m ([.ref (ad 0), .int key, .int val] : List Value).toArray below meth c H locs 0 0 (cr_Q below D [.ref (ad 0), .int key, .int val] s (mw ad cI cZ X I A) (maE ad cI cZ X I A z y9 t key val)) (F0 m 2 ls []) := by
    intro k
    induction k with
    | zero =>
      intro st J B9 hj h1 hJ hC h72 hno ls H locs hl hP hD hS
      refine lv_iload_n C.1 C.2.1 dX4_makeAnew_2 rfl (lv_at hl 0 rfl) ?_
      refine lv_iconst (v := nI 4) C.1 C.2.1 dX4_makeAnew_3 (by decide +kernel) ?_
      refine lv_icmp_ge (tgt := 192) C.1 C.2.1 dX4_makeAnew_4 (by decide) (fun _ => ?_) (fun h => absurd (nI_le (by omega) (by omega)) h)
      refine lv_bipush (v := (-2)) C.1 C.2.1 dX4_makeAnew_192 (by decide +kernel) ?_
      exact cr_iret C hP hD hS dX4_makeAnew_194 ⟨J, B9, hJ, hC, Or.inr ⟨fun i g1 g2 => hno i g1 (by omega), h72, rfl, rfl⟩⟩
    | succ k ih =>
      intro st J B9 hj h1 hJ hC h72 hno ls H locs hl hP hD hS
      have hz9 : J 5 = nI z := (hJ 5 (by decide) (by decide)).trans hz
      have hy9 : J 6 = nI y9 := (hJ 6 (by decide) (by decide)).trans hy
      have h4 : B9 4 = A 4 := hC 4 (by decide) (by decide) (by decide) (by decide) (by decide) (by decide) (by decide)
      refine lv_iload_n C.1 C.2.1 dX4_makeAnew_2 rfl (lv_at hl 0 rfl) ?_
      refine lv_iconst (v := nI 4) C.1 C.2.1 dX4_makeAnew_3 (by decide +kernel) ?_
      refine lv_icmp_ge (tgt := 192) C.1 C.2.1 dX4_makeAnew_4 (by decide) (fun h => absurd h (nI_ge (by omega) (by decide))) (fun _ => ?_)
      refine lv_aload_n C.1 C.2.1 dX4_makeAnew_7 rfl (lv_at hl 1 rfl) ?_
      refine va_get (ci := 4) (C := RX4) (T := TX4) (N := 34) C.1 C.2.1 C.2.2.2.2.2.1 ui_X4 C.2.2.2.2.1 C.2.2.2.2.2.2.2.1 hP 0 (rfl) rfl 6 (by decide) (C.2.2.2.2.2.1 _ tw_462) (fun _ h9 => h9) rfl dX4_makeAnew_8 ?_
      rw [hy9]
      refine lv_iload_n C.1 C.2.1 dX4_makeAnew_11 rfl (lv_at hl 0 rfl) ?_
      refine lv_iadd C.1 C.2.1 dX4_makeAnew_12 ?_
      rw [nI_add]
      refine lv_iconst (v := nI 4) C.1 C.2.1 dX4_makeAnew_13 (by decide +kernel) ?_
      refine lv_irem C.1 C.2.1 dX4_makeAnew_14 (by decide) ?_
      rw [pk_rem (by omega) (by decide) (by decide)]
      refine lv_istore (lv' := [(4, _), (3, _), (0, _), (1, _), (2, _)]) C.1 C.2.1 dX4_makeAnew_15 hl (by decide) rfl (fun ls hl => ?_)
      refine lv_aload_n C.1 C.2.1 dX4_makeAnew_17 rfl (lv_at hl 2 rfl) ?_
      refine lv_aload_n C.1 C.2.1 dX4_makeAnew_18 rfl (lv_at hl 2 rfl) ?_
      refine va_get (ci := 4) (C := RX4) (T := TX4) (N := 34) C.1 C.2.1 C.2.2.2.2.2.1 ui_X4 C.2.2.2.2.1 C.2.2.2.2.2.2.2.1 hP 0 (rfl) rfl 4 (by decide) (C.2.2.2.2.2.1 _ tw_460) (fun _ h9 => h9) rfl dX4_makeAnew_19 ?_
      refine lv_iload C.1 C.2.1 dX4_makeAnew_22 (lv_at hl 0 rfl) ?_
      refine va_iald (f := B9 4) C.1 C.2.1 C.2.2.2.2.2.2.2.1 hP 4 0 (rfl) rfl (vp_in_nI (by omega) (by decide)) dX4_makeAnew_24 ?_
      rw [nI_clamp (by omega), h4]
      refine lv_iload_n C.1 C.2.1 dX4_makeAnew_25 rfl (lv_at hl 3 rfl) ?_
      refine lv_iload_n C.1 C.2.1 dX4_makeAnew_26 rfl (lv_at hl 4 rfl) ?_
      refine cr_cV (q0 := 0) 3 C (k_X4_fitsBy l D cI cZ cJ ad X J B9 z hz0 hz9 (A 4 ((y9 + st) % 4)) key val) tw_636 tw_638 ts_26 tw_5 tw_639 rfl rfl rfl rfl (by decide +kernel) ⟨Nat.le_of_ble_eq_true rfl, Nat.le_of_ble_eq_true rfl⟩ ⟨Nat.zero_le _, Nat.zero_le _⟩ hP hD hS hl.1 rfl rfl (Nat.le_of_ble_eq_true rfl) dX4_makeAnew_27 (fun r9 w1 H locs hE hP hD hS => ?_)
      obtain ⟨J1, B1, rfl, f1, f2, f72, hR⟩ := hE
      have g1 : (∀ i, i ≠ 7 → i ≠ 29 → J1 i = I i) := fun i h7 h29 => (f1 i h7 h29).trans (hJ i h7 h29)
      have g2 : (∀ i, i ≠ 1 → i ≠ 2 → i ≠ 3 → i ≠ 8 → i ≠ 9 → i ≠ 10 → i ≠ 30 → B1 i = A i) := fun i h1 h2 h3 h8 h9 h10 h30 => (f2 i h1 h2 h3 h8 h9 h10 h30).trans (hC i h1 h2 h3 h8 h9 h10 h30)
      cases hT : fitA z (A 4 ((y9 + st) % 4)) key val B9 with
      | none =>
        rw [hT] at hR
        obtain rfl : r9 = nI 0 := hR
        refine lv_if_eq (tgt := 186) C.1 C.2.1 dX4_makeAnew_30 (by decide) (fun _ => ?_) (fun h => absurd (by decide) h)
        refine lv_iinc (v := nI (st + 1)) (lv' := [(3, _), (4, _), (0, _), (1, _), (2, _)]) C.1 C.2.1 dX4_makeAnew_186 hl (k := 1) rfl (nI_1 st) (by decide) rfl (fun ls hl => ?_)
        refine lv_goto (tgt := 2) C.1 C.2.1 dX4_makeAnew_189 (by decide) ?_
        exact ih (st + 1) J1 B1 (by omega) (by omega) g1 g2 (f72.trans h72) (fun i e1 e2 => by
          rcases Nat.lt_or_ge i st with q | q
          · exact hno i e1 q
          · obtain rfl : i = st := by omega
            exact ⟨B9, h72, h4, hT⟩) ls H locs (lv_sub hl [0, 2, 3, 4] rfl) hP hD hS
      | some F9 =>
        rw [hT] at hR
        obtain ⟨rfl, heq⟩ : r9 = nI 1 ∧ eq3 B1 F9 := hR
        have hz1 : J1 5 = nI z := (g1 5 (by decide) (by decide)).trans hz
        refine lv_if_eq (tgt := 186) C.1 C.2.1 dX4_makeAnew_30 (by decide) (fun h => absurd h (by decide)) (fun _ => ?_)
        refine lv_aload_n C.1 C.2.1 dX4_makeAnew_33 rfl (lv_at hl 2 rfl) ?_
        refine lv_iconst (v := nI 1) C.1 C.2.1 dX4_makeAnew_34 (by decide +kernel) ?_
        refine lv_aload_n C.1 C.2.1 dX4_makeAnew_35 rfl (lv_at hl 2 rfl) ?_
        refine va_get (ci := 4) (C := RX4) (T := TX4) (N := 34) C.1 C.2.1 C.2.2.2.2.2.1 ui_X4 C.2.2.2.2.1 C.2.2.2.2.2.2.2.1 hP 0 (rfl) rfl 5 (by decide) (C.2.2.2.2.2.1 _ tw_461) (fun _ h9 => h9) rfl dX4_makeAnew_36 ?_
        rw [hz1]
        refine lv_isub C.1 C.2.1 dX4_makeAnew_39 ?_
        rw [pk_sub (by omega)]
        refine va_put (ci := 4) (C := RX4) (T := TX4) (N := 34) (ty := .int) C.1 C.2.1 C.2.2.2.2.2.1 ui_X4 tyX4 tyX4_ok nmX4 C.2.2.2.2.1 C.2.2.2.2.2.2.2.1 hP hD hS 0 (rfl) rfl 5 (by decide) (C.2.2.2.2.2.1 _ tw_461) (fun _ h9 => h9) rfl (by decide +kernel) rfl rfl (Nat.le_of_ble_eq_true rfl) dX4_makeAnew_40 (fun H locs hP hD hS => ?_)
        have hP : va_P D vwCl (mw ad cI cZ X (va_up J1 5 (nI (1 - z))) B1) H := hP
        have hD : va_D (cm_A (mw ad cI cZ X I A)) (mw ad cI cZ X (va_up J1 5 (nI (1 - z))) B1) := hD
        refine lv_aload_n C.1 C.2.1 dX4_makeAnew_43 rfl (lv_at hl 2 rfl) ?_
        refine lv_iload C.1 C.2.1 dX4_makeAnew_44 (lv_at hl 0 rfl) ?_
        refine va_put (ci := 4) (C := RX4) (T := TX4) (N := 34) (ty := .int) C.1 C.2.1 C.2.2.2.2.2.1 ui_X4 tyX4 tyX4_ok nmX4 C.2.2.2.2.1 C.2.2.2.2.2.2.2.1 hP hD hS 0 (rfl) rfl 6 (by decide) (C.2.2.2.2.2.1 _ tw_462) (fun _ h9 => h9) rfl (by decide +kernel) rfl rfl (Nat.le_of_ble_eq_true rfl) dX4_makeAnew_46 (fun H locs hP hD hS => ?_)
        have hP : va_P D vwCl (mw ad cI cZ X (va_up (va_up J1 5 (nI (1 - z))) 6 (nI ((y9 + st) % 4))) B1) H := hP
        have hD : va_D (cm_A (mw ad cI cZ X I A)) (mw ad cI cZ X (va_up (va_up J1 5 (nI (1 - z))) 6 (nI ((y9 + st) % 4))) B1) := hD
        refine lv_iconst (v := nI 0) C.1 C.2.1 dX4_makeAnew_49 (by decide +kernel) ?_
        refine lv_istore (lv' := [(5, _), (4, _), (3, _), (0, _), (1, _), (2, _)]) C.1 C.2.1 dX4_makeAnew_50 hl (by decide) rfl (fun ls hl => ?_)
        have hok2 : okW t ((va_up (va_up J1 5 (nI (1 - z))) 6 (nI ((y9 + st) % 4))), (cpT (1 - z) 36 B1)) := ⟨hok.1, (g1 20 (by decide) (by decide)).trans hok.2.1, fun i hi => by
          have hk := hok.2.2 i hi
          unfold wKnd at hk ⊢
          show B1 22 i = _ ∨ (B1 22 i = _ ∧ ∃ n, n ≤ 7 ∧ B1 24 i = nI n) ∨ (B1 22 i = _ ∧ ∃ r, r < 18 ∧ B1 23 i = nI r)
          rw [g2 22 (by decide) (by decide) (by decide) (by decide) (by decide) (by decide) (by decide), g2 23 (by decide) (by decide) (by decide) (by decide) (by decide) (by decide) (by decide), g2 24 (by decide) (by decide) (by decide) (by decide) (by decide) (by decide) (by decide)]
          exact hk⟩
        have pages : ∀ (k j u : Nat) (Jp : Nat → Int32) (Cp : Nat → Nat → Int32), j + k = 9 → okW u (Jp, Cp) → Jp 5 = nI (1 - z) → pgN (1 - z) j k (u, (Jp, Cp)) = (pgN (1 - z) 0 9 (t, ((va_up (va_up J1 5 (nI (1 - z))) 6 (nI ((y9 + st) % 4))), (cpT (1 - z) 36 B1)))) → ∀ (ls : Array Slot) (H : Heap) (locs : List Loc), lv_has ls 6 [(5, .int (nI j)), (4, .int (nI ((y9 + st) % 4))), (3, .int (nI st)), (0, .ref (ad 0)), (1, .int (key)), (2, .int (val))] → va_P D vwCl (mw ad cI cZ X Jp Cp) H → va_D (cm_A (mw ad cI cZ X I A)) (mw ad cI cZ X Jp Cp) → va_S (cm_A (mw ad cI cZ X I A)) s.heap H locs → W p l e (cm_rm 8 192) s m ([.ref (ad 0), .int key, .int val] : List Value).toArray below meth c H locs 0 0 (cr_Q below D [.ref (ad 0), .int key, .int val] s (mw ad cI cZ X I A) (maE ad cI cZ X I A z y9 t key val)) (F0 m 143 ls []) := by
          intro k
          induction k with
          | zero =>
            intro j u Jp Cp hj9 hu h5 hf ls H locs hl hP hD hS
            refine lv_iload C.1 C.2.1 dX4_makeAnew_143 (lv_at hl 0 rfl) ?_
            refine lv_bipush (v := nI 9) C.1 C.2.1 dX4_makeAnew_145 (by decide +kernel) ?_
            refine lv_icmp_ge (tgt := 170) C.1 C.2.1 dX4_makeAnew_147 (by decide) (fun _ => ?_) (fun h => absurd (nI_le (by omega) (by omega)) h)
            refine lv_aload_n C.1 C.2.1 dX4_makeAnew_170 rfl (lv_at hl 3 rfl) ?_
            refine cm_cV0 (q0 := 0) 0 C (k_X4_writeRoot l D cI cZ cJ ad X Jp Cp u hu.1 hu.2.1 hu.2.2) tw_640 tw_642 ts_27 tw_5 tw_643 rfl rfl (rfl) rfl (by decide +kernel) ⟨Nat.le_of_ble_eq_true rfl, Nat.le_of_ble_eq_true rfl⟩ ⟨Nat.zero_le _, Nat.zero_le _⟩ hP hD hS hl.1 rfl rfl (Nat.le_of_ble_eq_true rfl) dX4_makeAnew_171 (fun H locs hP hD hS => ?_)
            refine lv_aload_n C.1 C.2.1 dX4_makeAnew_174 rfl (lv_at hl 3 rfl) ?_
            refine lv_dup C.1 C.2.1 dX4_makeAnew_175 rfl ?_
            refine va_get (ci := 4) (C := RX4) (T := TX4) (N := 34) C.1 C.2.1 C.2.2.2.2.2.1 ui_X4 C.2.2.2.2.1 C.2.2.2.2.2.2.2.1 hP 0 (rfl) rfl 32 (by decide) (C.2.2.2.2.2.1 _ tw_488) (fun _ h9 => h9) rfl dX4_makeAnew_176 ?_
            refine lv_iconst (v := nI 1) C.1 C.2.1 dX4_makeAnew_179 (by decide +kernel) ?_
            refine lv_iadd C.1 C.2.1 dX4_makeAnew_180 ?_
            refine va_put (ci := 4) (C := RX4) (T := TX4) (N := 34) (ty := .int) C.1 C.2.1 C.2.2.2.2.2.1 ui_X4 tyX4 tyX4_ok nmX4 C.2.2.2.2.1 C.2.2.2.2.2.2.2.1 hP hD hS 0 (rfl) rfl 32 (by decide) (C.2.2.2.2.2.1 _ tw_488) (fun _ h9 => h9) rfl (by decide +kernel) rfl rfl (Nat.le_of_ble_eq_true rfl) dX4_makeAnew_181 (fun H locs hP hD hS => ?_)
            refine lv_iconst (v := nI 4) C.1 C.2.1 dX4_makeAnew_184 (by decide +kernel) ?_
            have hf : (u, (Jp, Cp)) = (pgN (1 - z) 0 9 (t, ((va_up (va_up J1 5 (nI (1 - z))) 6 (nI ((y9 + st) % 4))), (cpT (1 - z) 36 B1)))) := hf
            exact cr_iret C hP hD hS dX4_makeAnew_185 ⟨J1, B1, g1, g2, Or.inl ⟨st, F9, h1, by omega, hno, ⟨B9, h72, h4, hT⟩, heq, rfl, by unfold anW; rw [← hf]; rfl⟩⟩
          | succ k ih3 =>
            intro j u Jp Cp hj9 hu h5 hf ls H locs hl hP hD hS
            refine lv_iload C.1 C.2.1 dX4_makeAnew_143 (lv_at hl 0 rfl) ?_
            refine lv_bipush (v := nI 9) C.1 C.2.1 dX4_makeAnew_145 (by decide +kernel) ?_
            refine lv_icmp_ge (tgt := 170) C.1 C.2.1 dX4_makeAnew_147 (by decide) (fun h => absurd h (nI_ge (by omega) (by decide))) (fun _ => ?_)
            refine lv_aload_n C.1 C.2.1 dX4_makeAnew_150 rfl (lv_at hl 3 rfl) ?_
            refine lv_bipush (v := nI 9) C.1 C.2.1 dX4_makeAnew_151 (by decide +kernel) ?_
            refine lv_aload_n C.1 C.2.1 dX4_makeAnew_153 rfl (lv_at hl 3 rfl) ?_
            refine va_get (ci := 4) (C := RX4) (T := TX4) (N := 34) C.1 C.2.1 C.2.2.2.2.2.1 ui_X4 C.2.2.2.2.1 C.2.2.2.2.2.2.2.1 hP 0 (rfl) rfl 5 (by decide) (C.2.2.2.2.2.1 _ tw_461) (fun _ h9 => h9) rfl dX4_makeAnew_154 ?_
            rw [h5]
            refine lv_imul C.1 C.2.1 dX4_makeAnew_157 ?_
            rw [pk_mul]
            refine lv_iload C.1 C.2.1 dX4_makeAnew_158 (lv_at hl 0 rfl) ?_
            refine lv_iadd C.1 C.2.1 dX4_makeAnew_160 ?_
            rw [nI_add]
            refine cm_cV0 (q0 := 0) 1 C (k_X4_writePage l D cI cZ cJ ad X Jp Cp u hu.1 hu.2.1 hu.2.2 (9 * (1 - z) + j) (by omega)) tw_592 tw_594 ts_15 tw_5 tw_595 rfl rfl (rfl) rfl (by decide +kernel) ⟨Nat.le_of_ble_eq_true rfl, Nat.le_of_ble_eq_true rfl⟩ ⟨Nat.zero_le _, Nat.zero_le _⟩ hP hD hS hl.1 rfl rfl (Nat.le_of_ble_eq_true rfl) dX4_makeAnew_161 (fun H locs hP hD hS => ?_)
            refine lv_iinc (v := nI (j + 1)) (lv' := [(5, _), (4, _), (3, _), (0, _), (1, _), (2, _)]) C.1 C.2.1 dX4_makeAnew_164 hl (k := 0) rfl (nI_1 j) (by decide) rfl (fun ls hl => ?_)
            refine lv_goto (tgt := 143) C.1 C.2.1 dX4_makeAnew_167 (by decide) ?_
            exact ih3 (j + 1) (t0 u + 1) (wPg (9 * (1 - z) + j) u (Jp, Cp)).1 (wPg (9 * (1 - z) + j) u (Jp, Cp)).2 (by omega) (wPg_ok hu (by omega)) ((wPg_I (r := 9 * (1 - z) + j) (t := u) (A := Cp) 5 (by decide)).trans h5) hf ls H locs (lv_sub hl [0, 1, 2, 3, 4, 5] rfl) hP hD hS
        have copy : ∀ (k j : Nat), j + k = 36 → ∀ (ls : Array Slot) (H : Heap) (locs : List Loc), lv_has ls 6 [(5, .int (nI j)), (4, .int (nI ((y9 + st) % 4))), (3, .int (nI st)), (0, .ref (ad 0)), (1, .int (key)), (2, .int (val))] → va_P D vwCl (mw ad cI cZ X (va_up (va_up J1 5 (nI (1 - z))) 6 (nI ((y9 + st) % 4))) (cpT (1 - z) j B1)) H → va_D (cm_A (mw ad cI cZ X I A)) (mw ad cI cZ X (va_up (va_up J1 5 (nI (1 - z))) 6 (nI ((y9 + st) % 4))) (cpT (1 - z) j B1)) → va_S (cm_A (mw ad cI cZ X I A)) s.heap H locs → W p l e (cm_rm 8 192) s m ([.ref (ad 0), .int key, .int val] : List Value).toArray below meth c H locs 0 0 (cr_Q below D [.ref (ad 0), .int key, .int val] s (mw ad cI cZ X I A) (maE ad cI cZ X I A z y9 t key val)) (F0 m 52 ls []) := by
          intro k
          induction k with
          | zero =>
            intro j hj9 ls H locs hl hP hD hS
            refine lv_iload C.1 C.2.1 dX4_makeAnew_52 (lv_at hl 0 rfl) ?_
            refine lv_bipush (v := nI 36) C.1 C.2.1 dX4_makeAnew_54 (by decide +kernel) ?_
            refine lv_icmp_ge (tgt := 140) C.1 C.2.1 dX4_makeAnew_56 (by decide) (fun _ => ?_) (fun h => absurd (nI_le (by omega) (by omega)) h)
            refine lv_iconst (v := nI 0) C.1 C.2.1 dX4_makeAnew_140 (by decide +kernel) ?_
            refine lv_istore (lv' := [(5, _), (4, _), (3, _), (0, _), (1, _), (2, _)]) C.1 C.2.1 dX4_makeAnew_141 hl (by decide) rfl (fun ls hl => ?_)
            have hj10 : j = 36 := by omega
            rw [hj10] at hP hD
            exact pages 9 0 t _ _ rfl hok2 rfl rfl ls H locs (lv_sub hl [0, 1, 2, 3, 4, 5] rfl) hP hD hS
          | succ k ih3 =>
            intro j hj9 ls H locs hl hP hD hS
            refine lv_iload C.1 C.2.1 dX4_makeAnew_52 (lv_at hl 0 rfl) ?_
            refine lv_bipush (v := nI 36) C.1 C.2.1 dX4_makeAnew_54 (by decide +kernel) ?_
            refine lv_icmp_ge (tgt := 140) C.1 C.2.1 dX4_makeAnew_56 (by decide) (fun h => absurd h (nI_ge (by omega) (by decide))) (fun _ => ?_)
            refine lv_aload_n C.1 C.2.1 dX4_makeAnew_59 rfl (lv_at hl 3 rfl) ?_
            refine va_get (ci := 4) (C := RX4) (T := TX4) (N := 34) C.1 C.2.1 C.2.2.2.2.2.1 ui_X4 C.2.2.2.2.1 C.2.2.2.2.2.2.2.1 hP 0 (rfl) rfl 1 (by decide) (C.2.2.2.2.2.1 _ tw_457) (fun _ h9 => h9) rfl dX4_makeAnew_60 ?_
            refine lv_bipush (v := nI 36) C.1 C.2.1 dX4_makeAnew_63 (by decide +kernel) ?_
            refine lv_aload_n C.1 C.2.1 dX4_makeAnew_65 rfl (lv_at hl 3 rfl) ?_
            refine va_get (v := .int (nI (1 - z))) (ci := 4) (C := RX4) (T := TX4) (N := 34) C.1 C.2.1 C.2.2.2.2.2.1 ui_X4 C.2.2.2.2.1 C.2.2.2.2.2.2.2.1 hP 0 (rfl) rfl 5 (by decide) (C.2.2.2.2.2.1 _ tw_461) (fun _ h9 => h9) rfl dX4_makeAnew_66 ?_
            refine lv_imul C.1 C.2.1 dX4_makeAnew_69 ?_
            rw [pk_mul]
            refine lv_iload C.1 C.2.1 dX4_makeAnew_70 (lv_at hl 0 rfl) ?_
            refine lv_iadd C.1 C.2.1 dX4_makeAnew_72 ?_
            rw [nI_add]
            refine lv_aload_n C.1 C.2.1 dX4_makeAnew_73 rfl (lv_at hl 3 rfl) ?_
            refine va_get (ci := 4) (C := RX4) (T := TX4) (N := 34) C.1 C.2.1 C.2.2.2.2.2.1 ui_X4 C.2.2.2.2.1 C.2.2.2.2.2.2.2.1 hP 0 (rfl) rfl 1 (by decide) (C.2.2.2.2.2.1 _ tw_457) (fun _ h9 => h9) rfl dX4_makeAnew_74 ?_
            refine lv_bipush (v := nI 72) C.1 C.2.1 dX4_makeAnew_77 (by decide +kernel) ?_
            refine lv_iload C.1 C.2.1 dX4_makeAnew_79 (lv_at hl 0 rfl) ?_
            refine lv_iadd C.1 C.2.1 dX4_makeAnew_81 ?_
            rw [nI_add]
            refine va_zald (f := va_cpy (nz (B1 1)) (B1 1) 72 (36 * (1 - z)) j) C.1 C.2.1 C.2.2.2.2.2.2.2.1 hP 1 1 (rfl) rfl (vp_in_nI (by omega) (by decide)) dX4_makeAnew_82 ?_
            rw [nI_clamp (by omega), pk_cpy_out (Or.inr (by omega))]
            refine va_zast (f := va_cpy (nz (B1 1)) (B1 1) 72 (36 * (1 - z)) j) C.1 C.2.1 C.2.2.2.2.2.2.2.1 hP hD hS 1 1 (rfl) rfl (vp_in_nI (by omega) (by decide)) dX4_makeAnew_83 (fun H locs hP hD hS => ?_)
            rw [nI_clamp (by omega), show vp_nar .boolean (B1 1 (72 + j)) = nz (B1 1) (72 + j) from rfl, cpy_u] at hP hD
            have hP : va_P D vwCl (mw ad cI cZ X (va_up (va_up J1 5 (nI (1 - z))) 6 (nI ((y9 + st) % 4))) (va_up (va_up (va_up B1 1 (va_cpy (nz (B1 1)) (B1 1) 72 (36 * (1 - z)) (j + 1))) 2 (va_cpy (B1 2) (B1 2) 72 (36 * (1 - z)) j)) 3 (va_cpy (B1 3) (B1 3) 72 (36 * (1 - z)) j))) H := hP
            have hD : va_D (cm_A (mw ad cI cZ X I A)) (mw ad cI cZ X (va_up (va_up J1 5 (nI (1 - z))) 6 (nI ((y9 + st) % 4))) (va_up (va_up (va_up B1 1 (va_cpy (nz (B1 1)) (B1 1) 72 (36 * (1 - z)) (j + 1))) 2 (va_cpy (B1 2) (B1 2) 72 (36 * (1 - z)) j)) 3 (va_cpy (B1 3) (B1 3) 72 (36 * (1 - z)) j))) := hD
            refine lv_aload_n C.1 C.2.1 dX4_makeAnew_84 rfl (lv_at hl 3 rfl) ?_
            refine va_get (ci := 4) (C := RX4) (T := TX4) (N := 34) C.1 C.2.1 C.2.2.2.2.2.1 ui_X4 C.2.2.2.2.1 C.2.2.2.2.2.2.2.1 hP 0 (rfl) rfl 2 (by decide) (C.2.2.2.2.2.1 _ tw_458) (fun _ h9 => h9) rfl dX4_makeAnew_85 ?_
            refine lv_bipush (v := nI 36) C.1 C.2.1 dX4_makeAnew_88 (by decide +kernel) ?_
            refine lv_aload_n C.1 C.2.1 dX4_makeAnew_90 rfl (lv_at hl 3 rfl) ?_
            refine va_get (v := .int (nI (1 - z))) (ci := 4) (C := RX4) (T := TX4) (N := 34) C.1 C.2.1 C.2.2.2.2.2.1 ui_X4 C.2.2.2.2.1 C.2.2.2.2.2.2.2.1 hP 0 (rfl) rfl 5 (by decide) (C.2.2.2.2.2.1 _ tw_461) (fun _ h9 => h9) rfl dX4_makeAnew_91 ?_
            refine lv_imul C.1 C.2.1 dX4_makeAnew_94 ?_
            rw [pk_mul]
            refine lv_iload C.1 C.2.1 dX4_makeAnew_95 (lv_at hl 0 rfl) ?_
            refine lv_iadd C.1 C.2.1 dX4_makeAnew_97 ?_
            rw [nI_add]
            refine lv_aload_n C.1 C.2.1 dX4_makeAnew_98 rfl (lv_at hl 3 rfl) ?_
            refine va_get (ci := 4) (C := RX4) (T := TX4) (N := 34) C.1 C.2.1 C.2.2.2.2.2.1 ui_X4 C.2.2.2.2.1 C.2.2.2.2.2.2.2.1 hP 0 (rfl) rfl 2 (by decide) (C.2.2.2.2.2.1 _ tw_458) (fun _ h9 => h9) rfl dX4_makeAnew_99 ?_
            refine lv_bipush (v := nI 72) C.1 C.2.1 dX4_makeAnew_102 (by decide +kernel) ?_
            refine lv_iload C.1 C.2.1 dX4_makeAnew_104 (lv_at hl 0 rfl) ?_
            refine lv_iadd C.1 C.2.1 dX4_makeAnew_106 ?_
            rw [nI_add]
            refine va_iald (f := va_cpy (B1 2) (B1 2) 72 (36 * (1 - z)) j) C.1 C.2.1 C.2.2.2.2.2.2.2.1 hP 2 0 (rfl) rfl (vp_in_nI (by omega) (by decide)) dX4_makeAnew_107 ?_
            rw [nI_clamp (by omega), pk_cpy_out (Or.inr (by omega))]
            refine va_iast (f := va_cpy (B1 2) (B1 2) 72 (36 * (1 - z)) j) C.1 C.2.1 C.2.2.2.2.2.2.2.1 hP hD hS 2 0 (rfl) rfl (vp_in_nI (by omega) (by decide)) dX4_makeAnew_108 (fun H locs hP hD hS => ?_)
            rw [nI_clamp (by omega), cpy_u] at hP hD
            have hP : va_P D vwCl (mw ad cI cZ X (va_up (va_up J1 5 (nI (1 - z))) 6 (nI ((y9 + st) % 4))) (va_up (va_up (va_up B1 1 (va_cpy (nz (B1 1)) (B1 1) 72 (36 * (1 - z)) (j + 1))) 2 (va_cpy (B1 2) (B1 2) 72 (36 * (1 - z)) (j + 1))) 3 (va_cpy (B1 3) (B1 3) 72 (36 * (1 - z)) j))) H := hP
            have hD : va_D (cm_A (mw ad cI cZ X I A)) (mw ad cI cZ X (va_up (va_up J1 5 (nI (1 - z))) 6 (nI ((y9 + st) % 4))) (va_up (va_up (va_up B1 1 (va_cpy (nz (B1 1)) (B1 1) 72 (36 * (1 - z)) (j + 1))) 2 (va_cpy (B1 2) (B1 2) 72 (36 * (1 - z)) (j + 1))) 3 (va_cpy (B1 3) (B1 3) 72 (36 * (1 - z)) j))) := hD
            refine lv_aload_n C.1 C.2.1 dX4_makeAnew_109 rfl (lv_at hl 3 rfl) ?_
            refine va_get (ci := 4) (C := RX4) (T := TX4) (N := 34) C.1 C.2.1 C.2.2.2.2.2.1 ui_X4 C.2.2.2.2.1 C.2.2.2.2.2.2.2.1 hP 0 (rfl) rfl 3 (by decide) (C.2.2.2.2.2.1 _ tw_459) (fun _ h9 => h9) rfl dX4_makeAnew_110 ?_
            refine lv_bipush (v := nI 36) C.1 C.2.1 dX4_makeAnew_113 (by decide +kernel) ?_
            refine lv_aload_n C.1 C.2.1 dX4_makeAnew_115 rfl (lv_at hl 3 rfl) ?_
            refine va_get (v := .int (nI (1 - z))) (ci := 4) (C := RX4) (T := TX4) (N := 34) C.1 C.2.1 C.2.2.2.2.2.1 ui_X4 C.2.2.2.2.1 C.2.2.2.2.2.2.2.1 hP 0 (rfl) rfl 5 (by decide) (C.2.2.2.2.2.1 _ tw_461) (fun _ h9 => h9) rfl dX4_makeAnew_116 ?_
            refine lv_imul C.1 C.2.1 dX4_makeAnew_119 ?_
            rw [pk_mul]
            refine lv_iload C.1 C.2.1 dX4_makeAnew_120 (lv_at hl 0 rfl) ?_
            refine lv_iadd C.1 C.2.1 dX4_makeAnew_122 ?_
            rw [nI_add]
            refine lv_aload_n C.1 C.2.1 dX4_makeAnew_123 rfl (lv_at hl 3 rfl) ?_
            refine va_get (ci := 4) (C := RX4) (T := TX4) (N := 34) C.1 C.2.1 C.2.2.2.2.2.1 ui_X4 C.2.2.2.2.1 C.2.2.2.2.2.2.2.1 hP 0 (rfl) rfl 3 (by decide) (C.2.2.2.2.2.1 _ tw_459) (fun _ h9 => h9) rfl dX4_makeAnew_124 ?_
            refine lv_bipush (v := nI 72) C.1 C.2.1 dX4_makeAnew_127 (by decide +kernel) ?_
            refine lv_iload C.1 C.2.1 dX4_makeAnew_129 (lv_at hl 0 rfl) ?_
            refine lv_iadd C.1 C.2.1 dX4_makeAnew_131 ?_
            rw [nI_add]
            refine va_iald (f := va_cpy (B1 3) (B1 3) 72 (36 * (1 - z)) j) C.1 C.2.1 C.2.2.2.2.2.2.2.1 hP 3 0 (rfl) rfl (vp_in_nI (by omega) (by decide)) dX4_makeAnew_132 ?_
            rw [nI_clamp (by omega), pk_cpy_out (Or.inr (by omega))]
            refine va_iast (f := va_cpy (B1 3) (B1 3) 72 (36 * (1 - z)) j) C.1 C.2.1 C.2.2.2.2.2.2.2.1 hP hD hS 3 0 (rfl) rfl (vp_in_nI (by omega) (by decide)) dX4_makeAnew_133 (fun H locs hP hD hS => ?_)
            rw [nI_clamp (by omega), cpy_u] at hP hD
            have hP : va_P D vwCl (mw ad cI cZ X (va_up (va_up J1 5 (nI (1 - z))) 6 (nI ((y9 + st) % 4))) (cpT (1 - z) (j + 1) B1)) H := hP
            have hD : va_D (cm_A (mw ad cI cZ X I A)) (mw ad cI cZ X (va_up (va_up J1 5 (nI (1 - z))) 6 (nI ((y9 + st) % 4))) (cpT (1 - z) (j + 1) B1)) := hD
            refine lv_iinc (v := nI (j + 1)) (lv' := [(5, _), (4, _), (3, _), (0, _), (1, _), (2, _)]) C.1 C.2.1 dX4_makeAnew_134 hl (k := 0) rfl (nI_1 j) (by decide) rfl (fun ls hl => ?_)
            refine lv_goto (tgt := 52) C.1 C.2.1 dX4_makeAnew_137 (by decide) ?_
            exact ih3 (j + 1) (by omega) ls H locs (lv_sub hl [0, 1, 2, 3, 4, 5] rfl) hP hD hS
        exact copy 36 0 rfl ls H locs hl (by rw [cpT_0]; exact hP) (by rw [cpT_0]; exact hD) hS
  exact loop 3 1 I A rfl (Nat.le_refl 1) (fun _ _ _ => rfl) (fun _ _ _ _ _ _ _ _ => rfl) eq72.rf (fun i e1 e2 => by omega) ls H locs hl hP hD hS
