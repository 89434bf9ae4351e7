/-! ===== class and reference, call by call ===== -/
theorem RW.c {σ : WS} {I J : Nat → Int32} {A B : Nat → Nat → Int32} (h : RW σ (I, A)) (hI : ∀ i, (i = 14 ∨ i = 15 ∨ i = 16 ∨ i = 20 ∨ i = 21) → J i = I i) (hA : ∀ i, 11 ≤ i → i ≠ 30 → B i = A i) : RW σ (J, B) := by
  obtain ⟨h1, h2, h3, h4, h5⟩ := h
  refine ⟨h1.c ⟨hI 14 (by simp), hI 15 (by simp), hI 16 (by simp)⟩ ⟨hA 11 (by decide) (by decide), hA 12 (by decide) (by decide), hA 13 (by decide) (by decide), hA 17 (by decide) (by decide), hA 18 (by decide) (by decide), hA 19 (by decide) (by decide)⟩, h2, ⟨h3.1, (hI 20 (by simp)).trans h3.2.1, fun j hj => ?_⟩, (hI 21 (by simp)).trans h4, fun j hj => ?_⟩
  · have := h3.2.2 j hj
    unfold wKnd at this ⊢
    rw [show (J, B).2 22 = A 22 from hA 22 (by decide) (by decide), show (J, B).2 23 = A 23 from hA 23 (by decide) (by decide), show (J, B).2 24 = A 24 from hA 24 (by decide) (by decide)]
    exact this
  · refine (h5 j hj).c rfl (fun _ _ => rfl) ⟨?_, ?_, ?_⟩ (fun i _ => ⟨?_, ?_, ?_, ?_⟩)
    · show B 22 j = A 22 j
      rw [hA 22 (by decide) (by decide)]
    · show B 23 j = A 23 j
      rw [hA 23 (by decide) (by decide)]
    · show B 24 j = A 24 j
      rw [hA 24 (by decide) (by decide)]
    · show B 25 _ = A 25 _
      rw [hA 25 (by decide) (by decide)]
    · show B 26 _ = A 26 _
      rw [hA 26 (by decide) (by decide)]
    · show B 27 _ = A 27 _
      rw [hA 27 (by decide) (by decide)]
    · show B 28 _ = A 28 _
      rw [hA 28 (by decide) (by decide)]
def RR (sd fn : Nat → Int32) (σ : WS) (ta lp lr : Int32) (I : Nat → Int32) (A : Nat → Nat → Int32) : Prop :=
  (∀ i, i < 4 → A 4 i = sd i) ∧ IR fn (A 1) (A 2) (A 3) ∧ I 5 = fn 396 ∧ I 6 = fn 397 ∧ I 31 = lp ∧ I 32 = ta ∧ I 33 = lr ∧ RW σ (I, A)
theorem RR.c {sd fn : Nat → Int32} {σ : WS} {ta lp lr : Int32} {I J : Nat → Int32} {A B : Nat → Nat → Int32} (h : RR sd fn σ ta lp lr I A) (hI : ∀ i, i ≠ 0 → i ≠ 7 → i ≠ 29 → J i = I i) (hA : ∀ i, i ≠ 1 → i ≠ 2 → i ≠ 3 → i ≠ 8 → i ≠ 9 → i ≠ 10 → i ≠ 30 → B i = A i) (h72 : eq72 B A) : RR sd fn σ ta lp lr J B := by
  obtain ⟨h1, h2, h3, h4, h5, h6, h7, h8⟩ := h
  refine ⟨?_, fun p hp => ?_, (hI 5 (by decide) (by decide) (by decide)).trans h3, (hI 6 (by decide) (by decide) (by decide)).trans h4, (hI 31 (by decide) (by decide) (by decide)).trans h5, (hI 32 (by decide) (by decide) (by decide)).trans h6, (hI 33 (by decide) (by decide) (by decide)).trans h7, h8.c (fun i hi => hI i (by omega) (by omega) (by omega)) (fun i h1 h2 => hA i (by omega) (by omega) (by omega) (by omega) (by omega) (by omega) h2)⟩
  · rw [hA 4 (by decide) (by decide) (by decide) (by decide) (by decide) (by decide) (by decide)]; exact h1
  · exact (h2 p hp).c ⟨rfl, rfl, rfl⟩ (h72 p hp)
/-- what holds between the calls -/
def INV (n : Nat) (sd fn : Nat → Int32) (σ : WS) (ta lp lr : Int32) (I : Nat → Int32) (A : Nat → Nat → Int32) : Prop :=
  RR sd fn σ ta lp lr I A ∧ PI sd σ fn ∧ fn 418 = nI 0 ∧ σ.2.2.2.2 ≤ n ∧ (σ.2.2.2.2 = 0 → σ.2.2.2.1 = 0 ∧ ∀ i, i < 440 → fn i = nI 0 ∧ σ.1 i = nI 0)
theorem INV.c {n : Nat} {sd fn : Nat → Int32} {σ : WS} {ta lp lr : Int32} {I J : Nat → Int32} {A B : Nat → Nat → Int32} (h : INV n sd fn σ ta lp lr I A) (hI : ∀ i, i ≠ 0 → i ≠ 7 → i ≠ 29 → J i = I i) (hA : ∀ i, i ≠ 1 → i ≠ 2 → i ≠ 3 → i ≠ 8 → i ≠ 9 → i ≠ 10 → i ≠ 30 → B i = A i) (h72 : eq72 B A) : INV n sd fn σ ta lp lr J B := ⟨h.1.c hI hA h72, h.2⟩
theorem INV.up {n k : Nat} {sd fn : Nat → Int32} {σ : WS} {ta lp lr : Int32} {I : Nat → Int32} {A : Nat → Nat → Int32} (h : INV n sd fn σ ta lp lr I A) (hk : n ≤ k) : INV k sd fn σ ta lp lr I A := ⟨h.1, h.2.1, h.2.2.1, Nat.le_trans h.2.2.2.1 hk, h.2.2.2.2⟩
theorem Gd.now {sd f : Nat → Int32} (h : Gd sd f) (h0 : f 418 = nI 0) : ∃ z y, z < 2 ∧ y < 4 ∧ f 396 = nI z ∧ f 397 = nI y ∧ KG (uR f z) (kR f z) (sd y) := by
  obtain ⟨z, y, M, hz, hy, h1, h2, h3, h4⟩ := h
  have hl : M.length = 0 := by
    have e : nI 0 = nI M.length := h0.symm.trans h3.2.1
    have := h3.1
    have := (nI_eq (by omega) (by omega)).mp e
    omega
  have hM : M = [] := List.eq_nil_of_length_eq_zero hl
  subst hM
  exact ⟨z, y, hz, hy, h1, h2, h4⟩
theorem Gd.of0 {sd f : Nat → Int32} {z y : Nat} (hz : z < 2) (hy : y < 4) (h1 : f 396 = nI z) (h2 : f 397 = nI y) (h0 : f 418 = nI 0) (hk : KG (uR f z) (kR f z) (sd y)) : Gd sd f :=
  ⟨z, y, [], hz, hy, h1, h2, ⟨Nat.zero_le _, h0, fun j m hm => by simp at hm⟩, hk⟩
theorem bI_ne (b : Bool) : decide (¬ bI b = 0) = b := by cases b <;> decide +kernel
theorem IR.teq {f : Nat → Int32} {A : Nat → Nat → Int32} (h : IR f (A 1) (A 2) (A 3)) {z : Nat} (hz : z < 2) : teq (uR f z) (kR f z) (vR f z) (uM A z) (kM A z) (vM A z) := by
  intro i hi
  obtain ⟨h1, h2⟩ := h (36 * z + i) (by omega)
  refine ⟨?_, fun hu => ?_⟩
  · unfold uM
    rw [h1, bI_ne]
    rfl
  · have := h2 (by unfold uR at hu; exact of_decide_eq_true hu)
    exact ⟨this.1.symm, this.2.symm⟩
theorem fillC_row {f : Nat → Int32} {p : Nat} {k v : Int32} {i : Nat} (h : ¬ (p / 4 * 22 ≤ i ∧ i < p / 4 * 22 + 22)) : fillC f p k v i = f i := by
  have hx : ix p = p / 4 * 22 + p % 4 * 3 := rfl
  have h4 : p % 4 < 4 := Nat.mod_lt _ (by decide)
  unfold fillC
  rw [upd_n (by omega), upd_n (by omega), upd_n (by omega)]
theorem emptyC_row {f : Nat → Int32} {p : Nat} {i : Nat} (h : ¬ (p / 4 * 22 ≤ i ∧ i < p / 4 * 22 + 22)) : emptyC f p i = f i := by
  have hx : ix p = p / 4 * 22 + p % 4 * 3 := rfl
  have h4 : p % 4 < 4 := Nat.mod_lt _ (by decide)
  unfold emptyC
  rw [upd_n (by omega)]
theorem wr_t (fn : Nat → Int32) (r : Nat) (σ : WS) : (wr fn r σ).2.2.2.1 = t0 σ.2.2.2.1 + 1 ∧ (wr fn r σ).2.2.2.2 = σ.2.2.2.2 + 1 := by rw [wr_eq]; exact ⟨rfl, rfl⟩
/-- one SLOT filled, and its PAGE written -/
theorem INV.fill {n : Nat} {sd fn : Nat → Int32} {σ : WS} {ta lp lr : Int32} {I : Nat → Int32} {A : Nat → Nat → Int32} (h : INV n sd fn σ ta lp lr I A) {p : Nat} {k v : Int32} (hp : p < 72) (hg : Gd sd (fillC fn p k v)) :
    INV (n + 1) sd (fillC fn p k v) (wr (fillC fn p k v) (p / 4) σ) ta lp lr (wPg (p / 4) σ.2.2.2.1 (I, flA p k v A)).1 (wPg (p / 4) σ.2.2.2.1 (I, flA p k v A)).2 := by
  obtain ⟨⟨h1, h2, h3, h4, h5, h6, h7, h8⟩, hPI, h418, he, h0⟩ := h
  have hIR := h2.fill p k v
  have hRW : RW σ (I, flA p k v A) := h8.c (fun i _ => rfl) (fun i hi _ => by unfold flA; rw [va_up_ne _ _ (by omega), va_up_ne _ _ (by omega), va_up_ne _ _ (by omega)])
  have a1 := wPg_A (t := σ.2.2.2.1) (r := p / 4) (st := (I, flA p k v A))
  have i1 := wPg_I (t := σ.2.2.2.1) (r := p / 4) (I := I) (A := flA p k v A)
  refine ⟨⟨?_, ?_, ?_, ?_, ?_, ?_, ?_, ?_⟩, ?_, ?_, ?_, ?_⟩
  · rw [a1 4 (by simp)]; exact h1
  · rw [a1 1 (by simp), a1 2 (by simp), a1 3 (by simp)]; exact hIR
  · rw [i1 5 (by decide), fillC_hi hp (by decide)]; exact h3
  · rw [i1 6 (by decide), fillC_hi hp (by decide)]; exact h4
  · rw [i1 31 (by decide)]; exact h5
  · rw [i1 32 (by decide)]; exact h6
  · rw [i1 33 (by decide)]; exact h7
  · exact rw_pg hRW (by omega) (fun i hi => hIR _ (by omega))
  · exact hPI.wr h8.2.1 (by omega) (fun i _ hi => fillC_row hi) hg
  · rw [fillC_hi hp (by decide)]; exact h418
  · rw [(wr_t _ _ _).2]; omega
  · rw [(wr_t _ _ _).2]; intro h9; omega
/-- one SLOT emptied, and its PAGE written -/
theorem INV.empty {n : Nat} {sd fn : Nat → Int32} {σ : WS} {ta lp lr : Int32} {I : Nat → Int32} {A : Nat → Nat → Int32} (h : INV n sd fn σ ta lp lr I A) {p : Nat} (hp : p < 72) :
    INV (n + 1) sd (emptyC fn p) (wr (emptyC fn p) (p / 4) σ) ta lp lr (wPg (p / 4) σ.2.2.2.1 (I, va_up A 1 (upd (A 1) p (nI 0)))).1 (wPg (p / 4) σ.2.2.2.1 (I, va_up A 1 (upd (A 1) p (nI 0)))).2 := by
  have hgd := h.2.1.gd.now h.2.2.1
  obtain ⟨⟨h1, h2, h3, h4, h5, h6, h7, h8⟩, hPI, h418, he, h0⟩ := h
  obtain ⟨z, y, hz, hy, e1, e2, hk⟩ := hgd
  have hx := ix_lt hp
  have hi : ∀ i, 396 ≤ i → emptyC fn p i = fn i := fun i hi => by unfold emptyC; exact upd_n (by omega)
  have hIR : IR (emptyC fn p) (upd (A 1) p (nI 0)) (A 2) (A 3) := by
    intro q hq
    obtain ⟨c1, c2, c3⟩ := emptyC_at fn p q
    by_cases hqp : q = p
    · rw [if_pos hqp] at c1
      exact SR.old c1 (by rw [hqp]; exact upd_s _ _ _)
    · rw [if_neg hqp] at c1
      exact (h2 q hq).c ⟨c1, c2, c3⟩ ⟨upd_n hqp, rfl, rfl⟩
  have hg : Gd sd (emptyC fn p) := by
    refine Gd.of0 hz hy ((hi _ (by decide)).trans e1) ((hi _ (by decide)).trans e2) ((hi _ (by decide)).trans h418) (hk.sub (fun i hi9 ui => ?_))
    obtain ⟨c1, c2, c3⟩ := emptyC_at fn p (36 * z + i)
    refine ⟨?_, c2⟩
    unfold uR at ui ⊢
    rw [c1] at ui
    by_cases hq : 36 * z + i = p
    · rw [if_pos hq] at ui; exact absurd ui (by decide +kernel)
    · rw [if_neg hq] at ui; exact ui
  have hRW : RW σ (I, va_up A 1 (upd (A 1) p (nI 0))) := h8.c (fun i _ => rfl) (fun i hi _ => va_up_ne _ _ (by omega))
  have a1 := wPg_A (t := σ.2.2.2.1) (r := p / 4) (st := (I, va_up A 1 (upd (A 1) p (nI 0))))
  have i1 := wPg_I (t := σ.2.2.2.1) (r := p / 4) (I := I) (A := va_up A 1 (upd (A 1) p (nI 0)))
  refine ⟨⟨?_, ?_, ?_, ?_, ?_, ?_, ?_, ?_⟩, ?_, ?_, ?_, ?_⟩
  · rw [a1 4 (by simp)]; exact h1
  · rw [a1 1 (by simp), a1 2 (by simp), a1 3 (by simp)]; exact hIR
  · rw [i1 5 (by decide), hi _ (by decide)]; exact h3
  · rw [i1 6 (by decide), hi _ (by decide)]; exact h4
  · rw [i1 31 (by decide)]; exact h5
  · rw [i1 32 (by decide)]; exact h6
  · rw [i1 33 (by decide)]; exact h7
  · exact rw_pg hRW (by omega) (fun i hi => hIR _ (by omega))
  · exact hPI.wr h8.2.1 (by omega) (fun i _ hi => emptyC_row hi) hg
  · rw [hi _ (by decide)]; exact h418
  · rw [(wr_t _ _ _).2]; omega
  · rw [(wr_t _ _ _).2]; intro h9; omega
