/-! ===== MADE ANEW, in both ===== -/
theorem sl_cpy (ft f : Nat → Int32) (r p : Nat) : sl (va_cpy ft f (r * 22) (r * 22) 22) p = if p / 4 = r then sl ft p else sl f p := by
  obtain ⟨h1, h2, h3⟩ := cpy_row ft f (r * 22) r p
  unfold sl
  rw [h1, h2, h3]
  by_cases h : p / 4 = r
  · simp only [if_pos h]
    unfold uC kC vC ix
    rw [h]
    rfl
  · simp only [if_neg h]
theorem pgN_A {z : Nat} (i : Nat) (hi : i = 1 ∨ i = 2 ∨ i = 3 ∨ i = 4) : ∀ (k j : Nat) (x : Nat × MS), (pgN z j k x).2.2 i = x.2.2 i := by
  intro k
  induction k with
  | zero => intro j x; rfl
  | succ k ih =>
    intro j x
    simp only [pgN]
    rw [ih (j + 1)]
    exact wPg_A i (by omega)
theorem tk_lock {sd ft : Nat → Int32} {z zz y : Nat} (hz : z < 2) (hzz : zz < 2) (hne : z ≠ zz) (hy : y < 4) : ∀ (k j : Nat) (f : Nat → Int32) (σ : WS) (st : MS), j + k ≤ 9 → RW σ st → (∀ i, i < 36 → SR ft (36 * zz + i) (st.2 1) (st.2 2) (st.2 3) (36 * zz + i)) → PI sd σ f → f 396 = nI z → f 397 = nI y → f 418 = nI 0 → KG (uR f z) (kR f z) (sd y) →
    RW (tkP ft zz j k (f, σ)).2 (pgN zz j k (σ.2.2.2.1, st)).2 ∧ (pgN zz j k (σ.2.2.2.1, st)).1 = (tkP ft zz j k (f, σ)).2.2.2.2.1 ∧ PI sd (tkP ft zz j k (f, σ)).2 (tkP ft zz j k (f, σ)).1 ∧ (∀ i, 396 ≤ i → (tkP ft zz j k (f, σ)).1 i = f i) ∧ (∀ p, (p / 4 < zz * 9 + j ∨ zz * 9 + j + k ≤ p / 4) → sl (tkP ft zz j k (f, σ)).1 p = sl f p) ∧ (∀ p, zz * 9 + j ≤ p / 4 → p / 4 < zz * 9 + j + k → sl (tkP ft zz j k (f, σ)).1 p = sl ft p) ∧ (tkP ft zz j k (f, σ)).2.2.2.2.2 = σ.2.2.2.2 + k := by
  intro k
  induction k with
  | zero => intro j f σ st _ h1 _ h3 _ _ _ _; exact ⟨h1, rfl, h3, fun _ _ => rfl, fun _ _ => rfl, fun p a b => by omega, rfl⟩
  | succ k ih =>
    intro j f σ st hj h1 h2 h3 h4 h5 h6 h7
    have hi : ∀ i, 396 ≤ i → va_cpy ft f ((zz * 9 + j) * 22) ((zz * 9 + j) * 22) 22 i = f i := fun i hi => cpy_out (by omega)
    have hs := sl_cpy ft f (zz * 9 + j)
    have hKG : KG (uR (va_cpy ft f ((zz * 9 + j) * 22) ((zz * 9 + j) * 22) 22) z) (kR (va_cpy ft f ((zz * 9 + j) * 22) ((zz * 9 + j) * 22) 22) z) (sd y) := h7.sub (fun i hi9 ui => by
      have hr := sl_R (f := va_cpy ft f ((zz * 9 + j) * 22) ((zz * 9 + j) * 22) 22) (g := f) (z := z) (i := i) (by rw [hs, if_neg (by omega)])
      rw [← hr.1, ← hr.2.1]
      exact ⟨ui, rfl⟩)
    have hGd : Gd sd (va_cpy ft f ((zz * 9 + j) * 22) ((zz * 9 + j) * 22) 22) := Gd.of0 hz hy ((hi _ (by decide)).trans h4) ((hi _ (by decide)).trans h5) ((hi _ (by decide)).trans h6) hKG
    have hP := h3.wr (fn := va_cpy ft f ((zz * 9 + j) * 22) ((zz * 9 + j) * 22) 22) (r := zz * 9 + j) h1.2.1 (by omega) (fun i _ hn => cpy_out (by omega)) hGd
    have hR : RW (wr (va_cpy ft f ((zz * 9 + j) * 22) ((zz * 9 + j) * 22) 22) (zz * 9 + j) σ) (wPg (9 * zz + j) σ.2.2.2.1 st) := by
      have e9 : 9 * zz + j = zz * 9 + j := by omega
      rw [e9]
      refine rw_pg h1 (by omega) (fun i hi9 => ?_)
      have := h2 (4 * j + i) (by omega)
      rw [show 36 * zz + (4 * j + i) = 4 * (zz * 9 + j) + i by omega] at this
      exact SR_sl this (by rw [hs, if_pos (by omega)])
    have ht := wr_t (va_cpy ft f ((zz * 9 + j) * 22) ((zz * 9 + j) * 22) 22) (zz * 9 + j) σ
    have hA : ∀ i, (i = 1 ∨ i = 2 ∨ i = 3) → (wPg (9 * zz + j) σ.2.2.2.1 st).2 i = st.2 i := fun i hi => wPg_A i (by omega)
    have g := ih (j + 1) (va_cpy ft f ((zz * 9 + j) * 22) ((zz * 9 + j) * 22) 22) (wr (va_cpy ft f ((zz * 9 + j) * 22) ((zz * 9 + j) * 22) 22) (zz * 9 + j) σ) (wPg (9 * zz + j) σ.2.2.2.1 st) (by omega) hR (by rw [hA 1 (by simp), hA 2 (by simp), hA 3 (by simp)]; exact h2) hP ((hi _ (by decide)).trans h4) ((hi _ (by decide)).trans h5) ((hi _ (by decide)).trans h6) hKG
    rw [ht.1, ht.2] at g
    obtain ⟨g1, g2, g3, g4, g5, g6, g7⟩ := g
    refine ⟨g1, g2, g3, fun i hi9 => (g4 i hi9).trans (hi i hi9), fun p hp => ?_, fun p a b => ?_, ?_⟩
    · refine (g5 p (by omega)).trans ?_
      rw [hs, if_neg (by omega)]
    · by_cases hp : p / 4 = zz * 9 + j
      · refine (g5 p (by omega)).trans ?_
        rw [hs, if_pos hp]
      · exact g6 p (by omega) (by omega)
    · refine Eq.trans g7 ?_
      omega
set_option maxHeartbeats 1000000 in
theorem INV.anew {n : Nat} {sd fn : Nat → Int32} {σ : WS} {ta lp lr : Int32} {I : Nat → Int32} {A : Nat → Nat → Int32} (h : INV n sd fn σ ta lp lr I A) {z y w : Nat} (hz : z < 2) (hy : y < 4) (hw : w < 4) (hz1 : fn 396 = nI z) (hy1 : fn 397 = nI y) (hk : KG (uR fn z) (kR fn z) (sd y)) {ft : Nat → Int32} (ht1 : ft 396 = nI (1 - z)) (ht2 : ft 397 = nI w) (hTR : TR ft (1 - z) A) (hKG : KG (uR ft (1 - z)) (kR ft (1 - z)) (sd w)) :
    INV (n + 10) sd (tk1 ft 18 (tkP ft (1 - z) 0 9 (fn, σ))).1 (tk1 ft 18 (tkP ft (1 - z) 0 9 (fn, σ))).2 (ta + nI 1) lp lr (anW z w σ.2.2.2.1 (I, A)).1 (anW z w σ.2.2.2.1 (I, A)).2 := by
  obtain ⟨⟨h1, h2, h3, h4, h5, h6, h7, h8⟩, hPI, h418, he, h0⟩ := h
  unfold anW tk1
  generalize hst1 : ((va_up (va_up I 5 (nI (1 - z))) 6 (nI w), cpT (1 - z) 36 A) : MS) = st1
  have s1I : ∀ i, i ≠ 5 → i ≠ 6 → st1.1 i = I i := fun i a b => by rw [← hst1]; exact (va_up_ne _ _ b).trans (va_up_ne _ _ a)
  have s15 : st1.1 5 = nI (1 - z) ∧ st1.1 6 = nI w := by rw [← hst1]; exact ⟨rfl, rfl⟩
  have s1A : ∀ i, i ≠ 1 → i ≠ 2 → i ≠ 3 → st1.2 i = A i := fun i a b c => by rw [← hst1]; exact (va_up_ne _ _ c).trans ((va_up_ne _ _ b).trans (va_up_ne _ _ a))
  have s11 : st1.2 1 = va_cpy (nz (A 1)) (A 1) 72 (36 * (1 - z)) 36 ∧ st1.2 2 = va_cpy (A 2) (A 2) 72 (36 * (1 - z)) 36 ∧ st1.2 3 = va_cpy (A 3) (A 3) 72 (36 * (1 - z)) 36 := by rw [← hst1]; exact ⟨rfl, rfl, rfl⟩
  have R1 : RW σ st1 := RW.c (J := st1.1) (B := st1.2) h8 (fun i hi => s1I i (by omega) (by omega)) (fun i hi _ => s1A i (by omega) (by omega) (by omega))
  have hSR : ∀ i, i < 36 → SR ft (36 * (1 - z) + i) (st1.2 1) (st1.2 2) (st1.2 3) (36 * (1 - z) + i) := by
    intro i hi
    obtain ⟨a1, a2⟩ := hTR i hi
    unfold SR
    rw [s11.1, s11.2.1, s11.2.2, cpy_in (by omega) (by omega), cpy_in (by omega) (by omega), cpy_in (by omega) (by omega), Nat.add_sub_cancel_left]
    exact ⟨nz_b a1, a2⟩
  have L := tk_lock (sd := sd) (ft := ft) (z := z) (zz := 1 - z) (y := y) hz (by omega) (by omega) hy 9 0 fn σ st1 (by decide) R1 hSR hPI hz1 hy1 h418 hk
  obtain ⟨L1, L2, L3, L4, L5, L6, L7⟩ := L
  have j5 : ∀ i, (i ≠ 14 ∧ i ≠ 15 ∧ i ≠ 16 ∧ i ≠ 20 ∧ i ≠ 21) → (pgN (1 - z) 0 9 (σ.2.2.2.1, st1)).2.1 i = st1.1 i := fun i hi => pgN_I i hi 9 0 _
  have j4 : ∀ i, (i = 1 ∨ i = 2 ∨ i = 3 ∨ i = 4) → (pgN (1 - z) 0 9 (σ.2.2.2.1, st1)).2.2 i = st1.2 i := fun i hi => pgN_A i hi 9 0 _
  generalize tkP ft (1 - z) 0 9 (fn, σ) = x at L1 L2 L3 L4 L5 L6 L7 ⊢
  rw [L2]
  generalize (pgN (1 - z) 0 9 (σ.2.2.2.1, st1)).2 = st3 at L1 j5 j4 ⊢
  have f3 : ∀ i, ¬ (396 ≤ i ∧ i < 418) → va_cpy ft x.1 (18 * 22) (18 * 22) 22 i = x.1 i := fun i hi => cpy_out (by omega)
  have f4 : ∀ i, 396 ≤ i → i < 418 → va_cpy ft x.1 (18 * 22) (18 * 22) 22 i = ft i := fun i a b => by
    rw [cpy_in (by omega) (by omega), show 18 * 22 + (i - 18 * 22) = i by omega]
  have hsl : ∀ p, p < 72 → sl (va_cpy ft x.1 (18 * 22) (18 * 22) 22) p = sl x.1 p := fun p hp => by rw [sl_cpy, if_neg (by omega)]
  have hf418 : va_cpy ft x.1 (18 * 22) (18 * 22) 22 418 = nI 0 := by rw [f3 418 (by omega), L4 418 (by decide)]; exact h418
  have hKG9 : KG (uR (va_cpy ft x.1 (18 * 22) (18 * 22) 22) (1 - z)) (kR (va_cpy ft x.1 (18 * 22) (18 * 22) 22) (1 - z)) (sd w) := hKG.sub (fun i hi ui => by
    have hr := sl_R (f := va_cpy ft x.1 (18 * 22) (18 * 22) 22) (g := ft) (z := 1 - z) (i := i) (by rw [hsl _ (by omega), L6 _ (by omega) (by omega)])
    rw [← hr.1, ← hr.2.1]
    exact ⟨ui, rfl⟩)
  have hGd : Gd sd (va_cpy ft x.1 (18 * 22) (18 * 22) 22) := Gd.of0 (by omega) hw ((f4 _ (by decide) (by decide)).trans ht1) ((f4 _ (by decide) (by decide)).trans ht2) hf418 hKG9
  have R4 : RW (wr (va_cpy ft x.1 (18 * 22) (18 * 22) 22) 18 x.2) (wRt x.2.2.2.2.1 st3) := rw_rt L1 (by rw [j5 5 (by decide), s15.1, f4 _ (by decide) (by decide), ht1]) (by rw [j5 6 (by decide), s15.2, f4 _ (by decide) (by decide), ht2])
  have a1 := wRt_A (t := x.2.2.2.2.1) (st := st3)
  have i1 := wRt_I (t := x.2.2.2.2.1) (I := st3.1) (A := st3.2)
  refine ⟨⟨?_, ?_, ?_, ?_, ?_, ?_, ?_, ?_⟩, ?_, hf418, ?_, ?_⟩
  · show ∀ i, i < 4 → (wRt x.2.2.2.2.1 st3).2 4 i = sd i
    rw [a1 4 (by simp), j4 4 (by simp), s1A 4 (by decide) (by decide) (by decide)]; exact h1
  · show IR (va_cpy ft x.1 (18 * 22) (18 * 22) 22) ((wRt x.2.2.2.2.1 st3).2 1) ((wRt x.2.2.2.2.1 st3).2 2) ((wRt x.2.2.2.2.1 st3).2 3)
    rw [a1 1 (by simp), a1 2 (by simp), a1 3 (by simp), j4 1 (by simp), j4 2 (by simp), j4 3 (by simp)]
    intro p hp
    by_cases hin : 36 * (1 - z) ≤ p ∧ p < 36 * (1 - z) + 36
    · have := hSR (p - 36 * (1 - z)) (by omega)
      rw [show 36 * (1 - z) + (p - 36 * (1 - z)) = p by omega] at this
      exact SR_sl this (by rw [hsl p hp, L6 p (by omega) (by omega)])
    · refine SR_sl (f := fn) ?_ (by rw [hsl p hp, L5 p (by omega)])
      rw [s11.1, s11.2.1, s11.2.2]
      exact (h2 p hp).c ⟨rfl, rfl, rfl⟩ ⟨cpy_out (by omega), cpy_out (by omega), cpy_out (by omega)⟩
  · show va_up (wRt x.2.2.2.2.1 st3).1 32 ((wRt x.2.2.2.2.1 st3).1 32 + nI 1) 5 = va_cpy ft x.1 (18 * 22) (18 * 22) 22 396
    rw [va_up_ne _ _ (by decide), i1 5 (by decide), j5 5 (by decide), s15.1, f4 _ (by decide) (by decide), ht1]
  · show va_up (wRt x.2.2.2.2.1 st3).1 32 ((wRt x.2.2.2.2.1 st3).1 32 + nI 1) 6 = va_cpy ft x.1 (18 * 22) (18 * 22) 22 397
    rw [va_up_ne _ _ (by decide), i1 6 (by decide), j5 6 (by decide), s15.2, f4 _ (by decide) (by decide), ht2]
  · show va_up (wRt x.2.2.2.2.1 st3).1 32 ((wRt x.2.2.2.2.1 st3).1 32 + nI 1) 31 = lp
    rw [va_up_ne _ _ (by decide), i1 31 (by decide), j5 31 (by decide), s1I 31 (by decide) (by decide), h5]
  · show va_up (wRt x.2.2.2.2.1 st3).1 32 ((wRt x.2.2.2.2.1 st3).1 32 + nI 1) 32 = ta + nI 1
    rw [va_up_self, i1 32 (by decide), j5 32 (by decide), s1I 32 (by decide) (by decide), h6]
  · show va_up (wRt x.2.2.2.2.1 st3).1 32 ((wRt x.2.2.2.2.1 st3).1 32 + nI 1) 33 = lr
    rw [va_up_ne _ _ (by decide), i1 33 (by decide), j5 33 (by decide), s1I 33 (by decide) (by decide), h7]
  · exact RW.c (I := (wRt x.2.2.2.2.1 st3).1) (A := (wRt x.2.2.2.2.1 st3).2) R4 (fun i hi => va_up_ne _ _ (by omega)) (fun _ _ _ => rfl)
  · exact L3.wr L1.2.1 (by decide) (fun i _ hn => f3 i (by omega)) hGd
  · show (wr (va_cpy ft x.1 (18 * 22) (18 * 22) 22) 18 x.2).2.2.2.2 ≤ n + 10
    rw [(wr_t _ _ _).2, L7]; omega
  · show (wr (va_cpy ft x.1 (18 * 22) (18 * 22) 22) 18 x.2).2.2.2.2 = 0 → _
    rw [(wr_t _ _ _).2]; intro h9; omega
