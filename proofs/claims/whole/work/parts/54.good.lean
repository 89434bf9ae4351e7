/-! ===== what a crash may find: every first part of the WRITES that wait gives a good DISK ===== -/
def sl (f : Nat → Int32) (p : Nat) : Int32 × Int32 × Int32 := (uC f p, kC f p, vC f p)
theorem sl_fill (f : Nat → Int32) (p : Nat) (k v : Int32) (q : Nat) : sl (fillC f p k v) q = if q = p then (nI 1, k, v) else sl f q := by
  obtain ⟨h1, h2, h3⟩ := fillC_at f p k v q
  unfold sl
  rw [h1, h2, h3]
  by_cases h : q = p
  · simp only [if_pos h]
  · simp only [if_neg h]
theorem sl_c {f g : Nat → Int32} {p : Nat} (h : ∀ i, i < 396 → f i = g i) (hp : p < 72) : sl f p = sl g p := by
  have := ix_lt hp
  unfold sl uC kC vC
  rw [h _ (by omega), h _ (by omega), h _ (by omega)]
theorem sl_R {f g : Nat → Int32} {z i : Nat} (h : sl f (36 * z + i) = sl g (36 * z + i)) : uR f z i = uR g z i ∧ kR f z i = kR g z i ∧ vR f z i = vR g z i := by
  unfold sl at h
  simp only [Prod.mk.injEq] at h
  unfold uR kR vR
  rw [h.1, h.2.1, h.2.2]
  exact ⟨rfl, rfl, rfl⟩
def lkM (M : List (Nat × Int32 × Int32)) (p : Nat) : Option (Nat × Int32 × Int32) := match M with
  | [] => none
  | m :: M => if p = m.1 then some m else lkM M p
theorem lkM_none : ∀ {M : List (Nat × Int32 × Int32)} {p : Nat}, p ∉ M.map (·.1) → lkM M p = none := by
  intro M
  induction M with
  | nil => intro p _; rfl
  | cons m M ih =>
    intro p h
    simp only [List.map_cons, List.mem_cons, not_or] at h
    simp only [lkM, if_neg h.1]
    exact ih h.2
theorem lkM_in : ∀ {M : List (Nat × Int32 × Int32)} {p : Nat}, lkM M p = none → p ∉ M.map (·.1) := by
  intro M
  induction M with
  | nil => intro p _; simp
  | cons m M ih =>
    intro p h
    simp only [lkM] at h
    split at h
    · cases h
    · rename_i h9
      simp only [List.map_cons, List.mem_cons, not_or]
      exact ⟨h9, ih h⟩
def ovS (M : List (Nat × Int32 × Int32)) (p : Nat) (x : Int32 × Int32 × Int32) : Int32 × Int32 × Int32 := match lkM M p with
  | some m => (nI 1, m.2.1, m.2.2)
  | none => x
theorem ovS_cons (m : Nat × Int32 × Int32) (M : List (Nat × Int32 × Int32)) (p : Nat) (x : Int32 × Int32 × Int32) : ovS (m :: M) p x = if p = m.1 then (nI 1, m.2.1, m.2.2) else ovS M p x := by
  unfold ovS
  by_cases h : p = m.1
  · simp only [lkM, if_pos h]
  · simp only [lkM, if_neg h]
theorem sl_fillM : ∀ (M : List (Nat × Int32 × Int32)) (f : Nat → Int32) (p : Nat), (M.map (·.1)).Nodup → sl (fillM M f) p = ovS M p (sl f p) := by
  intro M
  induction M with
  | nil => intro f p _; rfl
  | cons m M ih =>
    intro f p h
    simp only [List.map_cons] at h
    obtain ⟨h1, h2⟩ := List.nodup_cons.mp h
    rw [fillM_cons, ih _ p h2, ovS_cons, sl_fill]
    by_cases hp : p = m.1
    · rw [if_pos hp, if_pos hp]
      unfold ovS
      rw [lkM_none (by rw [hp]; exact h1)]
    · rw [if_neg hp, if_neg hp]
theorem sl_mkR : ∀ (M : List (Nat × Int32 × Int32)) (x : (Nat → Int32) × WS) (p : Nat), sl (mkR M x).1 p = ovS M p (sl x.1 p) := by
  intro M
  induction M with
  | nil => intro x p; rfl
  | cons m M ih =>
    intro x p
    show sl (fillC (mkR M x).1 m.1 m.2.1 m.2.2) p = _
    rw [sl_fill, ovS_cons, ih x p]
theorem mkR_hi {i : Nat} (hi : 396 ≤ i) : ∀ (M : List (Nat × Int32 × Int32)) (x : (Nat → Int32) × WS), (∀ m ∈ M, m.1 < 72) → (mkR M x).1 i = x.1 i := by
  intro M
  induction M with
  | nil => intro x _; rfl
  | cons m M ih =>
    intro x h
    show fillC (mkR M x).1 m.1 m.2.1 m.2.2 i = _
    rw [fillC_hi (h m List.mem_cons_self) hi]
    exact ih x (fun q hq => h q (List.mem_cons_of_mem _ hq))
theorem ovS_sub {M N : List (Nat × Int32 × Int32)} (h : ∀ p, p ∈ N.map (·.1) → p ∈ M.map (·.1)) (p : Nat) (x : Int32 × Int32 × Int32) : ovS M p (ovS N p x) = ovS M p x := by
  unfold ovS
  cases hM : lkM M p with
  | some m => rfl
  | none =>
    have := lkM_none (fun h9 => lkM_in hM (h p h9))
    rw [this]
/-- a good image: a ROOT that is, a JOURNAL that can be redone, and behind that the SET in use is good -/
def Gd (sd f : Nat → Int32) : Prop := ∃ (z y : Nat) (M : List (Nat × Int32 × Int32)), z < 2 ∧ y < 4 ∧ f 396 = nI z ∧ f 397 = nI y ∧ mEnc (fun i => f (418 + i)) M ∧ KG (uR (fillM M f) z) (kR (fillM M f) z) (sd y)
theorem fillM_c : ∀ (M : List (Nat × Int32 × Int32)) {f g : Nat → Int32} {i : Nat}, f i = g i → fillM M f i = fillM M g i := by
  intro M
  induction M with
  | nil => intro f g i h; exact h
  | cons m M ih =>
    intro f g i h
    rw [fillM_cons, fillM_cons]
    refine ih ?_
    unfold fillC upd
    by_cases h2 : i = ix m.1 + 2
    · simp only [if_pos h2]
    · by_cases h1 : i = ix m.1 + 1
      · simp only [if_neg h2, if_pos h1]
      · by_cases h0 : i = ix m.1
        · simp only [if_neg h2, if_neg h1, if_pos h0]
        · simp only [if_neg h2, if_neg h1, if_neg h0]; exact h
theorem Gd.c {sd f g : Nat → Int32} (h : Gd sd f) (hfg : ∀ i, i < 440 → g i = f i) : Gd sd g := by
  obtain ⟨z, y, M, hz, hy, h1, h2, h3, h4⟩ := h
  refine ⟨z, y, M, hz, hy, (hfg 396 (by decide)).trans h1, (hfg 397 (by decide)).trans h2, ⟨h3.1, ?_, fun j m hm => ?_⟩, h4.sub (fun i hi ui => ?_)⟩
  · exact (hfg 418 (by decide)).trans h3.2.1
  · have hj : j < M.length := (List.getElem?_eq_some_iff.mp hm).1
    have := h3.1
    obtain ⟨a1, a2, a3, a4⟩ := h3.2.2 j m hm
    refine ⟨?_, ?_, ?_, a4⟩
    · show g (418 + (1 + j * 3)) = _
      rw [hfg _ (by omega)]; exact a1
    · show g (418 + (2 + j * 3)) = _
      rw [hfg _ (by omega)]; exact a2
    · show g (418 + (3 + j * 3)) = _
      rw [hfg _ (by omega)]; exact a3
  · have hs := sl_R (sl_c (f := fillM M g) (g := fillM M f) (p := 36 * z + i) (fun j hj => fillM_c M (hfg j (by omega))) (by omega))
    rw [← hs.1, ← hs.2.1]
    exact ⟨ui, rfl⟩
theorem doN_c {fr fw fr' fw' : Nat → Int32} : ∀ (k j : Nat) (g : Nat → Int32), (∀ i, j ≤ i → i < j + k → fr' i = fr i ∧ ∀ a, a < 22 → fw' (i * 22 + a) = fw (i * 22 + a)) → doN fr' fw' j k g = doN fr fw j k g := by
  intro k
  induction k with
  | zero => intro j g _; rfl
  | succ k ih =>
    intro j g h
    simp only [doN]
    obtain ⟨h1, h2⟩ := h j (Nat.le_refl _) (by omega)
    have hc : va_cpy fw' g (j * 22) ((fr' j).toNatClampNeg * 22) 22 = va_cpy fw g (j * 22) ((fr j).toNatClampNeg * 22) 22 := by
      rw [h1]
      funext i
      unfold va_cpy
      split
      · exact h2 _ (by omega)
      · rfl
    rw [hc]
    exact ih (j + 1) _ (fun i a b => h i (by omega) (by omega))
theorem doN_app {fr fw : Nat → Int32} : ∀ (k j : Nat) (g : Nat → Int32), doN fr fw j (k + 1) g = va_cpy fw (doN fr fw j k g) ((j + k) * 22) ((fr (j + k)).toNatClampNeg * 22) 22 := by
  intro k
  induction k with
  | zero => intro j g; rfl
  | succ k ih =>
    intro j g
    have := ih (j + 1) (va_cpy fw g (j * 22) ((fr j).toNatClampNeg * 22) 22)
    rw [show j + 1 + k = j + (k + 1) by omega] at this
    exact this
/-- the WRITES that wait give, one behind the other, good images, the last of them f -/
def PI (sd : Nat → Int32) (σ : WS) (f : Nat → Int32) : Prop := (∀ k, k ≤ σ.2.2.2.1 → Gd sd (doN σ.2.1 σ.2.2.1 0 k σ.1)) ∧ ∀ i, i < 440 → doN σ.2.1 σ.2.2.1 0 σ.2.2.2.1 σ.1 i = f i
theorem PI.gd {sd : Nat → Int32} {σ : WS} {f : Nat → Int32} (h : PI sd σ f) : Gd sd f := (h.1 _ (Nat.le_refl _)).c (fun i hi => (h.2 i hi).symm)
theorem PI.to {sd : Nat → Int32} {σ : WS} {f g : Nat → Int32} (h : PI sd σ f) (hfg : ∀ i, i < 440 → f i = g i) : PI sd σ g := ⟨h.1, fun i hi => (h.2 i hi).trans (hfg i hi)⟩
theorem PI.wr {sd : Nat → Int32} {σ : WS} {f fn : Nat → Int32} {r : Nat} (h : PI sd σ f) (hs : sOk σ) (hr : r < 20) (hrow : ∀ i, i < 440 → ¬ (r * 22 ≤ i ∧ i < r * 22 + 22) → fn i = f i) (hg : Gd sd fn) : PI sd (wr fn r σ) fn := by
  rw [wr_eq]
  have last : ∀ (g : Nat → Int32) (t : Nat), (∀ i, i < 440 → g i = f i) → ∀ i, i < 440 → va_cpy (va_cpy fn σ.2.2.1 (r * 22) (t * 22) 22) g (t * 22) ((upd σ.2.1 t (nI r) t).toNatClampNeg * 22) 22 i = fn i := by
    intro g t hgf i hi
    rw [upd_s, nI_clamp (by omega)]
    by_cases hin : r * 22 ≤ i ∧ i < r * 22 + 22
    · rw [cpy_in hin.1 hin.2, cpy_in (by omega) (by omega)]
      congr 1
      omega
    · rw [cpy_out (by omega), hrow i hi hin]
      exact hgf i hi
  unfold fd0 t0
  by_cases ht : σ.2.2.2.1 < 40
  · simp only [if_pos ht]
    have hpre : ∀ k, k ≤ σ.2.2.2.1 → doN (upd σ.2.1 σ.2.2.2.1 (nI r)) (va_cpy fn σ.2.2.1 (r * 22) (σ.2.2.2.1 * 22) 22) 0 k σ.1 = doN σ.2.1 σ.2.2.1 0 k σ.1 := fun k hk =>
      doN_c k 0 σ.1 (fun i _ hi => ⟨upd_n (by omega), fun a ha => cpy_out (by omega)⟩)
    have hl : ∀ i, i < 440 → doN (upd σ.2.1 σ.2.2.2.1 (nI r)) (va_cpy fn σ.2.2.1 (r * 22) (σ.2.2.2.1 * 22) 22) 0 (σ.2.2.2.1 + 1) σ.1 i = fn i := by
      intro i hi
      rw [doN_app, hpre _ (Nat.le_refl _), Nat.zero_add]
      exact last _ _ h.2 i hi
    refine ⟨fun k hk => ?_, hl⟩
    have hk : k ≤ σ.2.2.2.1 + 1 := hk
    by_cases hk9 : k ≤ σ.2.2.2.1
    · show Gd sd (doN (upd σ.2.1 σ.2.2.2.1 (nI r)) (va_cpy fn σ.2.2.1 (r * 22) (σ.2.2.2.1 * 22) 22) 0 k σ.1)
      rw [hpre k hk9]; exact h.1 k hk9
    · rw [show k = σ.2.2.2.1 + 1 by omega]
      exact hg.c hl
  · simp only [if_neg ht]
    have hl : ∀ i, i < 440 → doN (upd σ.2.1 0 (nI r)) (va_cpy fn σ.2.2.1 (r * 22) (0 * 22) 22) 0 (0 + 1) (doN σ.2.1 σ.2.2.1 0 σ.2.2.2.1 σ.1) i = fn i := last _ 0 h.2
    refine ⟨fun k hk => ?_, hl⟩
    have hk : k ≤ 0 + 1 := hk
    by_cases hk9 : k = 0
    · rw [hk9]; exact h.1 _ (Nat.le_refl _)
    · rw [show k = 0 + 1 by omega]
      exact hg.c hl
