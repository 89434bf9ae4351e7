/-! ===== SLOTS, THE DISK and WRITES as the class has them and as the reference has them ===== -/
theorem ix_inj {p q a b : Nat} (ha : a < 3) (hb : b < 3) (h : ix p + a = ix q + b) : p = q ∧ a = b := by
  unfold ix at h
  have h1 := Nat.mod_lt p (show 0 < 4 by decide)
  have h2 := Nat.mod_lt q (show 0 < 4 by decide)
  have h3 := Nat.div_add_mod p 4
  have h4 := Nat.div_add_mod q 4
  generalize p / 4 = A at h h3
  generalize q / 4 = B at h h4
  generalize p % 4 = r at h h1 h3
  generalize q % 4 = s at h h2 h4
  rcases Nat.lt_trichotomy A B with h9 | h9 | h9
  · omega
  · subst h9; omega
  · omega
theorem fillC_at (f : Nat → Int32) (p : Nat) (k v : Int32) (q : Nat) : uC (fillC f p k v) q = (if q = p then nI 1 else uC f q) ∧ kC (fillC f p k v) q = (if q = p then k else kC f q) ∧ vC (fillC f p k v) q = (if q = p then v else vC f q) := by
  by_cases h : q = p
  · subst h
    simp [uC, kC, vC, fillC, upd]
  · have hn : ∀ a b, a < 3 → b < 3 → ix q + a ≠ ix p + b := fun a b ha hb e => h (ix_inj ha hb e).1
    have h00 := hn 0 0 (by decide) (by decide)
    have h01 := hn 0 1 (by decide) (by decide)
    have h02 := hn 0 2 (by decide) (by decide)
    have h10 := hn 1 0 (by decide) (by decide)
    have h11 := hn 1 1 (by decide) (by decide)
    have h12 := hn 1 2 (by decide) (by decide)
    have h20 := hn 2 0 (by decide) (by decide)
    have h21 := hn 2 1 (by decide) (by decide)
    have h22 := hn 2 2 (by decide) (by decide)
    simp only [Nat.add_zero] at h00 h01 h02 h10 h20
    simp only [uC, kC, vC, fillC, upd, if_neg h, if_neg h00, if_neg h01, if_neg h02, if_neg h10, if_neg h11, if_neg h12, if_neg h20, if_neg h21, if_neg h22]
    exact ⟨trivial, trivial, trivial⟩
theorem emptyC_at (f : Nat → Int32) (p q : Nat) : uC (emptyC f p) q = (if q = p then nI 0 else uC f q) ∧ kC (emptyC f p) q = kC f q ∧ vC (emptyC f p) q = vC f q := by
  have h1 : ix q + 1 ≠ ix p := fun e => by have := ix_inj (p := q) (q := p) (a := 1) (b := 0) (by decide) (by decide) (show ix q + 1 = ix p + 0 from e); omega
  have h2 : ix q + 2 ≠ ix p := fun e => by have := ix_inj (p := q) (q := p) (a := 2) (b := 0) (by decide) (by decide) (show ix q + 2 = ix p + 0 from e); omega
  refine ⟨?_, by simp only [kC, emptyC, upd, if_neg h1], by simp only [vC, emptyC, upd, if_neg h2]⟩
  by_cases h : q = p
  · subst h; simp [uC, emptyC, upd]
  · have h0 : ix q ≠ ix p := fun e => h (ix_inj (p := q) (q := p) (a := 0) (b := 0) (by decide) (by decide) (show ix q + 0 = ix p + 0 from e)).1
    simp only [uC, emptyC, upd, if_neg h0, if_neg h]
theorem cpy_in {f g : Nat → Int32} {sp dp n k : Nat} (h1 : dp ≤ k) (h2 : k < dp + n) : va_cpy f g sp dp n k = f (sp + (k - dp)) := if_pos ⟨h1, h2⟩
theorem cpy_out {f g : Nat → Int32} {sp dp n k : Nat} (h : k < dp ∨ dp + n ≤ k) : va_cpy f g sp dp n k = g k := if_neg (by omega)
theorem cpy_row (g f : Nat → Int32) (s r p : Nat) : uC (va_cpy g f s (r * 22) 22) p = (if p / 4 = r then g (s + p % 4 * 3) else uC f p) ∧ kC (va_cpy g f s (r * 22) 22) p = (if p / 4 = r then g (s + (p % 4 * 3 + 1)) else kC f p) ∧ vC (va_cpy g f s (r * 22) 22) p = (if p / 4 = r then g (s + (p % 4 * 3 + 2)) else vC f p) := by
  have h4 : p % 4 < 4 := Nat.mod_lt _ (by decide)
  by_cases h : p / 4 = r
  · simp only [if_pos h]
    have hx : ix p = r * 22 + p % 4 * 3 := by unfold ix; rw [h]
    refine ⟨?_, ?_, ?_⟩
    · unfold uC; rw [cpy_in (by omega) (by omega), hx]; congr 1; omega
    · unfold kC; rw [cpy_in (by omega) (by omega), hx]; congr 1; omega
    · unfold vC; rw [cpy_in (by omega) (by omega), hx]; congr 1; omega
  · simp only [if_neg h]
    have hx : ix p = p / 4 * 22 + p % 4 * 3 := rfl
    refine ⟨?_, ?_, ?_⟩
    · unfold uC; exact cpy_out (by omega)
    · unfold kC; exact cpy_out (by omega)
    · unfold vC; exact cpy_out (by omega)
/-- one SLOT, in both -/
def SR (f : Nat → Int32) (p : Nat) (a1 a2 a3 : Nat → Int32) (q : Nat) : Prop := a1 q = bI (decide (¬ uC f p = 0)) ∧ (¬ uC f p = 0 → a2 q = kC f p ∧ a3 q = vC f p)
theorem SR.c {f f' : Nat → Int32} {p q p' q' : Nat} {a1 a2 a3 b1 b2 b3 : Nat → Int32} (h : SR f p a1 a2 a3 q) (hf : uC f' p' = uC f p ∧ kC f' p' = kC f p ∧ vC f' p' = vC f p) (ha : b1 q' = a1 q ∧ b2 q' = a2 q ∧ b3 q' = a3 q) : SR f' p' b1 b2 b3 q' := by
  unfold SR
  rw [hf.1, hf.2.1, hf.2.2, ha.1, ha.2.1, ha.2.2]
  exact h
def IR (f a1 a2 a3 : Nat → Int32) : Prop := ∀ p, p < 72 → SR f p a1 a2 a3 p
theorem SR.new {f a1 a2 a3 : Nat → Int32} {p q : Nat} (h1 : uC f p = nI 1) (h2 : a1 q = nI 1) (h3 : a2 q = kC f p) (h4 : a3 q = vC f p) : SR f p a1 a2 a3 q := by
  refine ⟨?_, fun _ => ⟨h3, h4⟩⟩
  rw [h1, h2]
  decide +kernel
theorem SR.old {f a1 a2 a3 : Nat → Int32} {p q : Nat} (h1 : uC f p = nI 0) (h2 : a1 q = nI 0) : SR f p a1 a2 a3 q := by
  refine ⟨?_, fun h => absurd (h1.trans nI_0) h⟩
  rw [h1, h2]
  decide +kernel
theorem IR.fill {f : Nat → Int32} {A : Nat → Nat → Int32} (h : IR f (A 1) (A 2) (A 3)) (p : Nat) (k v : Int32) : IR (fillC f p k v) (flA p k v A 1) (flA p k v A 2) (flA p k v A 3) := by
  intro q hq
  obtain ⟨e1, e2, e3⟩ := fillC_at f p k v q
  have g1 : flA p k v A 1 q = if q = p then nI 1 else A 1 q := rfl
  have g2 : flA p k v A 2 q = if q = p then k else A 2 q := rfl
  have g3 : flA p k v A 3 q = if q = p then v else A 3 q := rfl
  by_cases hp : q = p
  · simp only [if_pos hp] at e1 e2 e3 g1 g2 g3
    exact SR.new e1 g1 (g2.trans e2.symm) (g3.trans e3.symm)
  · simp only [if_neg hp] at e1 e2 e3 g1 g2 g3
    exact (h q hq).c ⟨e1, e2, e3⟩ ⟨g1, g2, g3⟩
theorem nz_b {a : Nat → Int32} {q : Nat} {b : Bool} (h : a q = bI b) : nz a q = bI b := by
  unfold nz
  rw [h]
  cases b <;> decide +kernel
/-- a WRITE that waits, in both -/
def WE (fr fw : Nat → Int32) (A : Nat → Nat → Int32) (j : Nat) : Prop :=
  ((fr j).toNatClampNeg < 18 ∧ A 22 j = nI 0 ∧ A 23 j = fr j ∧ ∀ i, i < 4 → A 25 (8 * j + i) = bI (decide (¬ fw (j * 22 + i * 3) = 0)) ∧ (¬ fw (j * 22 + i * 3) = 0 → A 27 (8 * j + i) = fw (j * 22 + (i * 3 + 1)) ∧ A 28 (8 * j + i) = fw (j * 22 + (i * 3 + 2)))) ∨
  (fr j = nI 18 ∧ A 22 j = nI 1 ∧ A 23 j = fw (j * 22) ∧ A 24 j = fw (j * 22 + 1)) ∨
  (fr j = nI 19 ∧ A 22 j = nI 2 ∧ A 24 j = fw (j * 22) ∧ ∃ n, n ≤ 7 ∧ A 24 j = nI n ∧ ∀ i, i < n → A 26 (8 * j + i) = fw (j * 22 + (1 + i * 3)) ∧ A 27 (8 * j + i) = fw (j * 22 + (2 + i * 3)) ∧ A 28 (8 * j + i) = fw (j * 22 + (3 + i * 3)))
def JR (f : Nat → Int32) (x : Int32) (a8 a9 a10 : Nat → Int32) : Prop := x = f 418 ∧ ∃ n, n ≤ 7 ∧ x = nI n ∧ ∀ i, i < n → a8 i = f (418 + (1 + i * 3)) ∧ a9 i = f (418 + (2 + i * 3)) ∧ a10 i = f (418 + (3 + i * 3))
def FR (fd : Nat → Int32) (st : MS) : Prop := IR fd (st.2 11) (st.2 12) (st.2 13) ∧ (st.1 14 = fd 396 ∧ st.1 15 = fd 397) ∧ JR fd (st.1 16) (st.2 17) (st.2 18) (st.2 19)
theorem FR.c {fd : Nat → Int32} {st st' : MS} (h : FR fd st) (hI : st'.1 14 = st.1 14 ∧ st'.1 15 = st.1 15 ∧ st'.1 16 = st.1 16) (hA : st'.2 11 = st.2 11 ∧ st'.2 12 = st.2 12 ∧ st'.2 13 = st.2 13 ∧ st'.2 17 = st.2 17 ∧ st'.2 18 = st.2 18 ∧ st'.2 19 = st.2 19) : FR fd st' := by
  unfold FR
  rw [hI.1, hI.2.1, hI.2.2, hA.1, hA.2.1, hA.2.2.1, hA.2.2.2.1, hA.2.2.2.2.1, hA.2.2.2.2.2]
  exact h
set_option maxHeartbeats 1000000 in
theorem fin1_FR {fd fr fw : Nat → Int32} {st : MS} {j : Nat} (h : FR fd st) (hw : WE fr fw st.2 j) : FR (va_cpy fw fd (j * 22) ((fr j).toNatClampNeg * 22) 22) (fin1 j st) := by
  obtain ⟨hI, ⟨h14, h15⟩, h16, n0, hn0, hx0, hj0⟩ := h
  rcases hw with ⟨hr, e22, e23, hs⟩ | ⟨hr, e22, e23, e24⟩ | ⟨hr, e22, e24, n, hn, en, hs⟩
  · have hr := hr
    generalize hrr : (fr j).toNatClampNeg = r at hr ⊢
    have hf : fin1 j st = (st.1, va_up (va_up (va_up st.2 11 (va_cpy (nz (st.2 25)) (st.2 11) (8 * j) (4 * (st.2 23 j).toNatClampNeg) 4)) 12 (va_cpy (st.2 27) (st.2 12) (8 * j) (4 * (st.2 23 j).toNatClampNeg) 4)) 13 (va_cpy (st.2 28) (st.2 13) (8 * j) (4 * (st.2 23 j).toNatClampNeg) 4)) := by
      unfold fin1
      rw [if_neg (by rw [e22]; decide +kernel), if_neg (by rw [e22]; decide +kernel)]
    rw [hf, e23, hrr]
    refine ⟨fun p hp => ?_, ⟨?_, ?_⟩, ?_, n0, hn0, hx0, fun i hi => ?_⟩
    · show SR _ p (va_cpy (nz (st.2 25)) (st.2 11) (8 * j) (4 * r) 4) (va_cpy (st.2 27) (st.2 12) (8 * j) (4 * r) 4) (va_cpy (st.2 28) (st.2 13) (8 * j) (4 * r) 4) p
      obtain ⟨c1, c2, c3⟩ := cpy_row fw fd (j * 22) r p
      by_cases hp4 : p / 4 = r
      · simp only [if_pos hp4] at c1 c2 c3
        obtain ⟨s1, s2⟩ := hs (p % 4) (Nat.mod_lt _ (by decide))
        have hi : 8 * j + (p - 4 * r) = 8 * j + p % 4 := by omega
        unfold SR
        rw [c1, c2, c3, cpy_in (by omega) (by omega), cpy_in (by omega) (by omega), cpy_in (by omega) (by omega), hi]
        exact ⟨nz_b s1, s2⟩
      · simp only [if_neg hp4] at c1 c2 c3
        exact (hI p hp).c ⟨c1, c2, c3⟩ ⟨cpy_out (by omega), cpy_out (by omega), cpy_out (by omega)⟩
    · exact h14.trans (cpy_out (by omega)).symm
    · exact h15.trans (cpy_out (by omega)).symm
    · exact h16.trans (cpy_out (by omega)).symm
    · rw [cpy_out (by omega), cpy_out (by omega), cpy_out (by omega)]; exact hj0 i hi
  · have hrr : (fr j).toNatClampNeg = 18 := by rw [hr]; exact nI_clamp (by decide)
    rw [hrr]
    have hf : fin1 j st = (va_up (va_up st.1 14 (st.2 23 j)) 15 (st.2 24 j), st.2) := by
      unfold fin1
      rw [if_pos e22]
    rw [hf]
    refine ⟨fun p hp => ?_, ⟨?_, ?_⟩, ?_, n0, hn0, hx0, fun i hi => ?_⟩
    · obtain ⟨c1, c2, c3⟩ := cpy_row fw fd (j * 22) 18 p
      have hp4 : ¬ p / 4 = 18 := by omega
      simp only [if_neg hp4] at c1 c2 c3
      exact (hI p hp).c ⟨c1, c2, c3⟩ ⟨rfl, rfl, rfl⟩
    · show st.2 23 j = _
      rw [cpy_in (by omega) (by omega)]; exact e23
    · show st.2 24 j = _
      rw [cpy_in (by omega) (by omega)]; exact e24
    · exact h16.trans (cpy_out (by omega)).symm
    · rw [cpy_out (by omega), cpy_out (by omega), cpy_out (by omega)]; exact hj0 i hi
  · have hrr : (fr j).toNatClampNeg = 19 := by rw [hr]; exact nI_clamp (by decide)
    rw [hrr]
    have hnn : (st.2 24 j).toNatClampNeg = n := by rw [en]; exact nI_clamp (by omega)
    have hf : fin1 j st = (va_up st.1 16 (st.2 24 j), va_up (va_up (va_up st.2 17 (va_cpy (st.2 26) (st.2 17) (8 * j) 0 (st.2 24 j).toNatClampNeg)) 18 (va_cpy (st.2 27) (st.2 18) (8 * j) 0 (st.2 24 j).toNatClampNeg)) 19 (va_cpy (st.2 28) (st.2 19) (8 * j) 0 (st.2 24 j).toNatClampNeg)) := by
      unfold fin1
      rw [if_neg (by rw [e22]; decide +kernel), if_pos e22]
    rw [hf, hnn]
    refine ⟨fun p hp => ?_, ⟨?_, ?_⟩, ?_, n, hn, en, fun i hi => ?_⟩
    · obtain ⟨c1, c2, c3⟩ := cpy_row fw fd (j * 22) 19 p
      have hp4 : ¬ p / 4 = 19 := by omega
      simp only [if_neg hp4] at c1 c2 c3
      exact (hI p hp).c ⟨c1, c2, c3⟩ ⟨rfl, rfl, rfl⟩
    · exact h14.trans (cpy_out (by omega)).symm
    · exact h15.trans (cpy_out (by omega)).symm
    · show st.2 24 j = _
      rw [cpy_in (by omega) (by omega)]; exact e24
    · show va_cpy (st.2 26) (st.2 17) (8 * j) 0 n i = _ ∧ va_cpy (st.2 27) (st.2 18) (8 * j) 0 n i = _ ∧ va_cpy (st.2 28) (st.2 19) (8 * j) 0 n i = _
      have hc : ∀ x, x < 22 → va_cpy fw fd (j * 22) (19 * 22) 22 (418 + x) = fw (j * 22 + x) := fun x hx => by
        rw [cpy_in (by omega) (by omega), show 418 + x - 19 * 22 = x by omega]
      rw [cpy_in (Nat.zero_le _) (by omega), cpy_in (Nat.zero_le _) (by omega), cpy_in (Nat.zero_le _) (by omega), hc (1 + i * 3) (by omega), hc (2 + i * 3) (by omega), hc (3 + i * 3) (by omega)]
      simp only [Nat.sub_zero]
      exact hs i hi
theorem WE.c {fr fw fr' fw' : Nat → Int32} {A B : Nat → Nat → Int32} {j : Nat} (h : WE fr fw A j) (hr : fr' j = fr j) (hw : ∀ i, i < 22 → fw' (j * 22 + i) = fw (j * 22 + i)) (h2 : B 22 j = A 22 j ∧ B 23 j = A 23 j ∧ B 24 j = A 24 j) (h8 : ∀ i, i < 8 → B 25 (8 * j + i) = A 25 (8 * j + i) ∧ B 26 (8 * j + i) = A 26 (8 * j + i) ∧ B 27 (8 * j + i) = A 27 (8 * j + i) ∧ B 28 (8 * j + i) = A 28 (8 * j + i)) : WE fr' fw' B j := by
  have w0 := hw 0 (by decide)
  rcases h with ⟨hr9, e22, e23, hs⟩ | ⟨hr9, e22, e23, e24⟩ | ⟨hr9, e22, e24, n, hn, en, hs⟩
  · refine Or.inl ⟨by rw [hr]; exact hr9, h2.1.trans e22, by rw [h2.2.1, hr]; exact e23, fun i hi => ?_⟩
    rw [(h8 i (by omega)).1, (h8 i (by omega)).2.2.1, (h8 i (by omega)).2.2.2, hw (i * 3) (by omega), hw (i * 3 + 1) (by omega), hw (i * 3 + 2) (by omega)]
    exact hs i hi
  · refine Or.inr (Or.inl ⟨by rw [hr]; exact hr9, h2.1.trans e22, ?_, ?_⟩)
    · rw [h2.2.1]; exact e23.trans w0.symm
    · rw [h2.2.2, hw 1 (by decide)]; exact e24
  · refine Or.inr (Or.inr ⟨by rw [hr]; exact hr9, h2.1.trans e22, ?_, n, hn, by rw [h2.2.2]; exact en, fun i hi => ?_⟩)
    · rw [h2.2.2]; exact e24.trans w0.symm
    · rw [(h8 i (by omega)).2.1, (h8 i (by omega)).2.2.1, (h8 i (by omega)).2.2.2, hw (1 + i * 3) (by omega), hw (2 + i * 3) (by omega), hw (3 + i * 3) (by omega)]
      exact hs i hi
theorem fin1_WE {fr fw : Nat → Int32} {st : MS} {i j : Nat} (h : WE fr fw st.2 j) : WE fr fw (fin1 i st).2 j := by
  have q := (fin1_same i st).1
  exact h.c rfl (fun _ _ => rfl) ⟨by rw [q 22 (by simp)], by rw [q 23 (by simp)], by rw [q 24 (by simp)]⟩ (fun a _ => ⟨by rw [q 25 (by simp)], by rw [q 26 (by simp)], by rw [q 27 (by simp)], by rw [q 28 (by simp)]⟩)
/-- the first WRITES done, in both -/
theorem finN_FR {fr fw : Nat → Int32} : ∀ (k j : Nat) {fd : Nat → Int32} {st : MS}, FR fd st → (∀ i, j ≤ i → i < j + k → WE fr fw st.2 i) → FR (doN fr fw j k fd) (finN j k st) := by
  intro k
  induction k with
  | zero => intro j fd st h _; exact h
  | succ k ih =>
    intro j fd st h hw
    exact ih (j + 1) (fin1_FR h (hw j (Nat.le_refl _) (by omega))) (fun i h1 h2 => fin1_WE (hw i (by omega) (by omega)))
def RW (σ : WS) (st : MS) : Prop := FR σ.1 st ∧ sOk σ ∧ okW σ.2.2.2.1 st ∧ st.1 21 = nI σ.2.2.2.2 ∧ ∀ j, j < σ.2.2.2.1 → WE σ.2.1 σ.2.2.1 st.2 j
