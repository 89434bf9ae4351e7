/-! ===== MAKING ANEW, tried, in both ===== -/
def slA (A : Nat → Nat → Int32) (q : Nat) : Int32 × Int32 × Int32 := (A 1 q, A 2 q, A 3 q)
theorem slA_flR : ∀ (M : List (Nat × Int32 × Int32)) (A : Nat → Nat → Int32) (q : Nat), slA (flR M A) q = ovS M q (slA A q) := by
  intro M
  induction M with
  | nil => intro A q; rfl
  | cons m M ih =>
    intro A q
    rw [ovS_cons, ← ih A q]
    show (upd (flR M A 1) m.1 (nI 1) q, upd (flR M A 2) m.1 m.2.1 q, upd (flR M A 3) m.1 m.2.2 q) = _
    unfold upd
    by_cases h : q = m.1
    · simp only [if_pos h]
    · simp only [if_neg h]; rfl
theorem ovS_abs (z : Nat) (i : Nat) (x : Int32 × Int32 × Int32) : ∀ (M : List (Nat × Int32 × Int32)), ovS (absM z M) (36 * z + i) x = ovS M i x := by
  intro M
  induction M with
  | nil => rfl
  | cons m M ih =>
    show ovS ((36 * z + m.1, m.2.1, m.2.2) :: absM z M) (36 * z + i) x = _
    rw [ovS_cons, ovS_cons, ih]
    by_cases h : i = m.1
    · rw [if_pos h, if_pos (by rw [h])]
    · rw [if_neg h, if_neg (by omega)]
theorem SR_ov {f f' : Nat → Int32} {A A' : Nat → Nat → Int32} {p q i : Nat} {M : List (Nat × Int32 × Int32)} (h : SR f p (A 1) (A 2) (A 3) q) (hf : sl f' p = ovS M i (sl f p)) (hA : slA A' q = ovS M i (slA A q)) : SR f' p (A' 1) (A' 2) (A' 3) q := by
  unfold ovS at hf hA
  cases hl : lkM M i with
  | some m =>
    rw [hl] at hf hA
    unfold sl at hf
    unfold slA at hA
    simp only [Prod.mk.injEq] at hf hA
    exact SR.new hf.1 hA.1 (hA.2.1.trans hf.2.1.symm) (hA.2.2.trans hf.2.2.symm)
  | none =>
    rw [hl] at hf hA
    unfold sl at hf
    unfold slA at hA
    simp only [Prod.mk.injEq] at hf hA
    exact h.c hf hA
/-- the tried SET, in both -/
def TR (f : Nat → Int32) (zz : Nat) (A : Nat → Nat → Int32) : Prop := ∀ i, i < 36 → SR f (36 * zz + i) (A 1) (A 2) (A 3) (36 * 2 + i)
theorem TR.teq {f : Nat → Int32} {zz : Nat} {A : Nat → Nat → Int32} (h : TR f zz A) : teq (uR f zz) (kR f zz) (vR f zz) (uM A 2) (kM A 2) (vM A 2) := by
  intro i hi
  obtain ⟨h1, h2⟩ := h i hi
  refine ⟨?_, fun hu => ?_⟩
  · unfold uM
    rw [h1, bI_ne]
    rfl
  · have := h2 (by unfold uR at hu; exact of_decide_eq_true hu)
    exact ⟨this.1.symm, this.2.symm⟩
theorem absM_nd (z : Nat) : ∀ {M : List (Nat × Int32 × Int32)}, (M.map (·.1)).Nodup → ((absM z M).map (·.1)).Nodup := by
  intro M
  induction M with
  | nil => intro _; exact List.nodup_nil
  | cons m M ih =>
    intro h
    simp only [List.map_cons] at h
    obtain ⟨h1, h2⟩ := List.nodup_cons.mp h
    show ((36 * z + m.1) :: (absM z M).map (·.1)).Nodup
    refine List.nodup_cons.mpr ⟨fun h9 => h1 ?_, ih h2⟩
    obtain ⟨q, hq, e⟩ := List.mem_map.mp h9
    obtain ⟨q0, hq0, e0⟩ := List.mem_map.mp hq
    have e1 : q.1 = 36 * z + q0.1 := by rw [← e0]
    exact List.mem_map.mpr ⟨q0, hq0, by omega⟩
def tsR (zz : Nat) (s : Int32) (K : Int32 → Prop) (x : Option (Nat → Int32)) (y : Option (Nat → Nat → Int32)) : Prop := match x, y with
  | some f, some A => TR f zz A ∧ KG (uR f zz) (kR f zz) s ∧ ∀ i, i < 36 → uR f zz i = true → K (kR f zz i)
  | none, none => True
  | _, _ => False
theorem tr_step {zz : Nat} {s : Int32} {f : Nat → Int32} {A : Nat → Nat → Int32} {key val : Int32} {K : Int32 → Prop} (hT : TR f zz A) (hg : KG (uR f zz) (kR f zz) s) (hK : ∀ i, i < 36 → uR f zz i = true → K (kR f zz i)) (hn : ¬ K key) : tsR zz s (fun x => x = key ∨ K x) (trS zz s f key val) (piT s A key val) := by
  have hno : ∀ i, i < 36 → uR f zz i = true → kR f zz i ≠ key := fun i hi ui e => hn (e ▸ hK i hi ui)
  have hch : chS (uR f zz) (kR f zz) (vR f zz) s key val = ch0 (uR f zz) (kR f zz) (vR f zz) s key val := chS_none (find_none hno)
  have hc0 : ch0 (uR f zz) (kR f zz) (vR f zz) s key val = ch0 (uM A 2) (kM A 2) (vM A 2) s key val := ch0_c hT.teq s key val
  unfold trS piT
  rw [hch, ← hc0]
  by_cases h2 : (ch0 (uR f zz) (kR f zz) (vR f zz) s key val).1 = -2
  · rw [if_pos h2, if_pos h2]; trivial
  · rw [if_neg h2, if_neg h2]
    obtain ⟨L, hL, hw, hnd⟩ := ch0_way h2
    have hmnd := ch0_nd (uR f zz) (kR f zz) (vR f zz) s key val
    rw [hL] at hmnd ⊢
    obtain ⟨g1, g2⟩ := KG_path L key val f hg hno hw hnd
    refine ⟨fun i hi => ?_, g1, fun i hi ui => ?_⟩
    · refine SR_ov (M := mvS (kR f zz) (vR f zz) key val L) (i := i) (hT i hi) ?_ ?_
      · rw [sl_fillM _ _ _ (absM_nd zz hmnd), ovS_abs]
      · rw [slA_flR, ovS_abs]
    · rcases g2 i hi ui with h9 | ⟨j, h9, h8, h7⟩
      · exact Or.inl h9
      · rw [← h7]; exact Or.inr (hK j h9 h8)
theorem tsR.weak {zz : Nat} {s : Int32} {K K' : Int32 → Prop} {x : Option (Nat → Int32)} {y : Option (Nat → Nat → Int32)} (h : tsR zz s K x y) (hK : ∀ a, K a → K' a) : tsR zz s K' x y := by
  cases x with
  | none => cases y with
    | none => trivial
    | some A => exact h
  | some f => cases y with
    | none => exact h
    | some A => exact ⟨h.1, h.2.1, fun i hi ui => hK _ (h.2.2 i hi ui)⟩
theorem tr_loop {fn : Nat → Int32} {z zz : Nat} {s : Int32} (hz : z < 2) (hd : ∀ i j, i < 36 → j < 36 → uR fn z i = true → uR fn z j = true → kR fn z i = kR fn z j → i = j) : ∀ (k j : Nat) (f : Nat → Int32) (A : Nat → Nat → Int32), j + k ≤ 36 → TR f zz A → KG (uR f zz) (kR f zz) s → IR fn (A 1) (A 2) (A 3) → (∀ i, i < 36 → uR f zz i = true → ∃ a, a < j ∧ uR fn z a = true ∧ kR fn z a = kR f zz i) →
    tsR zz s (fun x => ∃ a, a < j + k ∧ uR fn z a = true ∧ kR fn z a = x) (trL fn z zz s j k f) (fitL z s j k A) := by
  intro k
  induction k with
  | zero => intro j f A _ hT hg _ hK; exact ⟨hT, hg, hK⟩
  | succ k ih =>
    intro j f A hj hT hg hI hK
    obtain ⟨e1, e2⟩ := hI.teq hz j (by omega)
    simp only [trL, fitL]
    rw [← e1]
    by_cases hu : uR fn z j = true
    · rw [if_pos hu, if_pos hu]
      obtain ⟨e3, e4⟩ := e2 hu
      rw [← e3, ← e4]
      have hs := tr_step (val := vR fn z j) (K := fun x => ∃ a, a < j ∧ uR fn z a = true ∧ kR fn z a = x) hT hg hK (key := kR fn z j) (fun ⟨a, h1, h2, h3⟩ => by
        have := hd a j (by omega) (by omega) h2 hu h3
        omega)
      cases hx : trS zz s f (kR fn z j) (vR fn z j) with
      | none =>
        cases hy : piT s A (kR fn z j) (vR fn z j) with
        | none => trivial
        | some B => rw [hx, hy] at hs; exact hs.elim
      | some f' =>
        cases hy : piT s A (kR fn z j) (vR fn z j) with
        | none => rw [hx, hy] at hs; exact hs.elim
        | some B =>
          rw [hx, hy] at hs
          have hlo := piT_lo hy
          have := ih (j + 1) f' B (by omega) hs.1 hs.2.1 (fun p hp => (hI p hp).c ⟨rfl, rfl, rfl⟩ (hlo p hp)) (fun i hi ui => by
            rcases hs.2.2 i hi ui with h9 | ⟨a, h1, h2, h3⟩
            · exact ⟨j, by omega, hu, h9.symm⟩
            · exact ⟨a, by omega, h2, h3⟩)
          rw [show j + 1 + k = j + (k + 1) by omega] at this
          exact this
    · rw [if_neg hu, if_neg hu]
      have := ih (j + 1) f A (by omega) hT hg hI (fun i hi ui => by
        obtain ⟨a, h1, h2, h3⟩ := hK i hi ui
        exact ⟨a, by omega, h2, h3⟩)
      rw [show j + 1 + k = j + (k + 1) by omega] at this
      exact this
theorem tr0_lo (z w i : Nat) (hi : i < 396) : tr0 z w i = nI 0 := by
  unfold tr0
  rw [upd_n (by omega), upd_n (by omega)]
/-- one SEED tried: the same answer, the same SET -/
theorem tr_all {fn : Nat → Int32} {A : Nat → Nat → Int32} {z w : Nat} {s key val : Int32} (hz : z < 2) (hd : ∀ i j, i < 36 → j < 36 → uR fn z i = true → uR fn z j = true → kR fn z i = kR fn z j → i = j) (hn : ∀ i, i < 36 → uR fn z i = true → kR fn z i ≠ key) (hI : IR fn (A 1) (A 2) (A 3)) : tsR (1 - z) s (fun _ => True) (trA fn z s w key val) (fitA z s key val A) := by
  have hfalse : ∀ i, i < 36 → uR (tr0 z w) (1 - z) i = false := fun i hi => by
    have := ix_lt (p := 36 * (1 - z) + i) (by omega)
    unfold uR uC
    rw [tr0_lo z w _ (by omega)]
    decide +kernel
  have hT : TR (tr0 z w) (1 - z) (va_up A 1 (clr (A 1) 108)) := by
    intro i hi
    have := ix_lt (p := 36 * (1 - z) + i) (by omega)
    refine SR.old ?_ ?_
    · unfold uC; exact tr0_lo z w _ (by omega)
    · show clr (A 1) 108 (36 * 2 + i) = nI 0
      unfold clr
      exact if_pos ⟨by omega, by omega⟩
  have hl := tr_loop (zz := 1 - z) (s := s) hz hd 36 0 (tr0 z w) (va_up A 1 (clr (A 1) 108)) (by decide) hT ⟨fun i j hi _ ui _ _ => absurd ui (by rw [hfalse i hi]; decide), fun i hi ui => absurd ui (by rw [hfalse i hi]; decide)⟩ (fun p hp => (hI p hp).c ⟨rfl, rfl, rfl⟩ (clrA_lo A p hp)) (fun i hi ui => absurd ui (by rw [hfalse i hi]; decide))
  unfold trA fitA
  cases hx : trL fn z (1 - z) s 0 36 (tr0 z w) with
  | none =>
    cases hy : fitL z s 0 36 (va_up A 1 (clr (A 1) 108)) with
    | none => trivial
    | some B => rw [hx, hy] at hl; exact hl.elim
  | some f =>
    cases hy : fitL z s 0 36 (va_up A 1 (clr (A 1) 108)) with
    | none => rw [hx, hy] at hl; exact hl.elim
    | some B =>
      rw [hx, hy] at hl
      exact (tr_step (K := fun x => ∃ a, a < 0 + 36 ∧ uR fn z a = true ∧ kR fn z a = x) hl.1 hl.2.1 hl.2.2 (fun ⟨a, h1, h2, h3⟩ => hn a (by omega) h2 h3)).weak (fun _ _ => trivial)
theorem anS_some {fn : Nat → Int32} {z : Nat} {sd : Nat → Int32} {y : Nat} {key val : Int32} {f : Nat → Int32} {st : Nat} : ∀ (k a : Nat), a ≤ st → st < a + k → (∀ i, a ≤ i → i < st → trA fn z (sd ((y + i) % 4)) ((y + i) % 4) key val = none) → trA fn z (sd ((y + st) % 4)) ((y + st) % 4) key val = some f → anS fn z sd y key val a k = some f := by
  intro k
  induction k with
  | zero => intro a h1 h2; omega
  | succ k ih =>
    intro a h1 h2 hno hs
    simp only [anS]
    by_cases ha : a = st
    · rw [ha, hs]
    · rw [hno a (Nat.le_refl _) (by omega)]
      exact ih (a + 1) (by omega) (by omega) (fun i b c => hno i (by omega) c) hs
theorem anS_none {fn : Nat → Int32} {z : Nat} {sd : Nat → Int32} {y : Nat} {key val : Int32} : ∀ (k a : Nat), (∀ i, a ≤ i → i < a + k → trA fn z (sd ((y + i) % 4)) ((y + i) % 4) key val = none) → anS fn z sd y key val a k = none := by
  intro k
  induction k with
  | zero => intro a _; rfl
  | succ k ih =>
    intro a hno
    simp only [anS]
    rw [hno a (Nat.le_refl _) (by omega)]
    exact ih (a + 1) (fun i b c => hno i (by omega) (by omega))
