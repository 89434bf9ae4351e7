/-! ===== KEYS: each once, each at a HOME of its own or in the stash ===== -/
def hok (s key : Int32) (i : Nat) : Prop := i / 4 = 8 ∨ i / 4 = hm1 s key ∨ i / 4 = hm2 s key
def KG (u : Nat → Bool) (k : Nat → Int32) (s : Int32) : Prop := (∀ i j, i < 36 → j < 36 → u i = true → u j = true → k i = k j → i = j) ∧ ∀ i, i < 36 → u i = true → hok s (k i) i
theorem KG.sub {u u' : Nat → Bool} {k k' : Nat → Int32} {s : Int32} (h : KG u k s) (hc : ∀ i, i < 36 → u' i = true → u i = true ∧ k' i = k i) : KG u' k' s := by
  refine ⟨fun i j hi hj ui uj e => ?_, fun i hi ui => ?_⟩
  · obtain ⟨a1, a2⟩ := hc i hi ui
    obtain ⟨b1, b2⟩ := hc j hj uj
    exact h.1 i j hi hj a1 b1 (by rw [← a2, ← b2]; exact e)
  · obtain ⟨a1, a2⟩ := hc i hi ui
    rw [a2]; exact h.2 i hi a1
theorem atS_none {u : Nat → Bool} {k : Nat → Int32} {key : Int32} {b : Nat} (h : atS u k key b = none) {i : Nat} (hi : i / 4 = b) (hu : u i = true) : k i ≠ key := by
  intro hk
  have h1 := scan_none _ _ _ h (i % 4) (Nat.zero_le _) (by omega)
  have h2 : 4 * b + i % 4 = i := by omega
  rw [h2, hu, hk] at h1
  simp at h1
/-- a KEY that isn't found isn't there -/
theorem find_abs {u : Nat → Bool} {k : Nat → Int32} {s key : Int32} (h : KG u k s) (hf : findS u k s key = none) : ∀ i, i < 36 → u i = true → k i ≠ key := by
  intro i hi hu e
  unfold findS at hf
  cases h1 : atS u k key (hm1 s key) with
  | some p => rw [h1] at hf; cases hf
  | none =>
    rw [h1] at hf
    dsimp only at hf
    cases h2 : atS u k key (hm2 s key) with
    | some p => rw [h2] at hf; cases hf
    | none =>
      rw [h2] at hf
      dsimp only at hf
      have := h.2 i hi hu
      rw [e] at this
      rcases this with h9 | h9 | h9
      · exact atS_none hf h9 hu e
      · exact atS_none h1 h9 hu e
      · exact atS_none h2 h9 hu e
theorem find_none {u : Nat → Bool} {k : Nat → Int32} {s key : Int32} (h : ∀ i, i < 36 → u i = true → k i ≠ key) : findS u k s key = none := by
  cases hf : findS u k s key with
  | none => rfl
  | some i =>
    obtain ⟨a, b, c⟩ := findS_lt hf
    exact absurd c (h i a b)
/-- a way for a KEY: used SLOTS, each a HOME of what comes there, and an empty one at the end -/
def PathOk (u : Nat → Bool) (k : Nat → Int32) (s : Int32) : Int32 → List Nat → Prop
  | _, [] => False
  | a, [e] => e < 36 ∧ u e = false ∧ hok s a e
  | a, p :: q :: L => p < 36 ∧ u p = true ∧ hok s a p ∧ PathOk u k s (k p) (q :: L)
theorem PathOk.c {u u' : Nat → Bool} {k k' : Nat → Int32} {s : Int32} : ∀ (L : List Nat) (a : Int32), (∀ q ∈ L, u' q = u q ∧ k' q = k q) → PathOk u k s a L → PathOk u' k' s a L := by
  intro L
  induction L with
  | nil => intro a _ h; exact h
  | cons p L ih =>
    intro a hc h
    obtain ⟨c1, c2⟩ := hc p List.mem_cons_self
    cases L with
    | nil => exact ⟨h.1, by rw [c1]; exact h.2.1, h.2.2⟩
    | cons q L =>
      refine ⟨h.1, by rw [c1]; exact h.2.1, h.2.2.1, ?_⟩
      rw [c2]
      exact ih _ (fun x hx => hc x (List.mem_cons_of_mem _ hx)) h.2.2.2
theorem otherS_hok (s key : Int32) (b i : Nat) (h : i / 4 = otherS s key b) : hok s key i := by
  unfold otherS at h
  split at h
  · exact Or.inr (Or.inr h)
  · exact Or.inr (Or.inl h)
theorem pathS_way {u : Nat → Bool} {k : Nat → Int32} {s : Int32} : ∀ (n t b : Nat) (L : List Nat), b < 8 → emS u b = none → (pathS u k s n t b L).1 = true → ∃ N, (pathS u k s n t b L).2 = L ++ N ∧ ∀ a, (∀ i, i / 4 = b → hok s a i) → PathOk u k s a N := by
  intro n
  induction n with
  | zero => intro t b L _ _ h; simp [pathS] at h
  | succ n ih =>
    intro t b L hb hf h
    cases hnx : nx L b t 0 4 with
    | none => simp [pathS, hnx] at h
    | some p =>
      obtain ⟨hp, -⟩ := nx_some _ _ hnx
      have hu := emS_full hf hp
      have ho := otherS_lt s (k p) b
      simp only [pathS, hnx] at h ⊢
      cases hem : emS u (otherS s (k p) b) with
      | some e =>
        obtain ⟨e1, e2, e3⟩ := emS_lt hem (by omega)
        exact ⟨[p, e], by simp, fun a ha => ⟨by omega, hu, ha p hp, e1, e3, otherS_hok s (k p) b e e2⟩⟩
      | none =>
        rw [hem] at h
        dsimp only at h ⊢
        obtain ⟨N, hN, hw⟩ := ih (t + 1) _ (L ++ [p]) ho hem h
        refine ⟨p :: N, by rw [hN]; simp, fun a ha => ?_⟩
        have h9 := hw (k p) (fun i hi => otherS_hok s (k p) b i hi)
        cases N with
        | nil => exact absurd h9 (by simp [PathOk])
        | cons q N => exact ⟨by omega, hu, ha p hp, h9⟩
theorem ch0_way {u : Nat → Bool} {k v : Nat → Int32} {s key val : Int32} (h : ¬ (ch0 u k v s key val).1 = -2) : ∃ L, (ch0 u k v s key val).2 = mvS k v key val L ∧ PathOk u k s key L ∧ L.Nodup := by
  have q1 := hm1_lt s key
  have q2 := hm2_lt s key
  have one : ∀ b e, b < 9 → emS u b = some e → (∀ i, i / 4 = b → hok s key i) → ∃ L, [(e, key, val)] = mvS k v key val L ∧ PathOk u k s key L ∧ L.Nodup := fun b e hb he hh => by
    obtain ⟨e1, e2, e3⟩ := emS_lt he hb
    exact ⟨[e], rfl, ⟨e1, e3, hh e e2⟩, by simp⟩
  have path : ∀ b, b < 8 → emS u b = none → (pathS u k s 6 0 b []).1 = true → (∀ i, i / 4 = b → hok s key i) → ∃ L, mvS k v key val (pathS u k s 6 0 b []).2 = mvS k v key val L ∧ PathOk u k s key L ∧ L.Nodup := fun b hb hf ht hh => by
    have nd := (pathS_used (k := k) (s := s) 6 0 b [] hb hf (fun q hq => by cases hq) List.nodup_nil).2.2
    obtain ⟨N, hN, hw⟩ := pathS_way 6 0 b [] hb hf ht
    rw [List.nil_append] at hN
    rw [hN] at nd ⊢
    exact ⟨N, rfl, hw key hh, nd⟩
  have o1 : ∀ i, i / 4 = hm1 s key → hok s key i := fun i hi => Or.inr (Or.inl hi)
  have o2 : ∀ i, i / 4 = hm2 s key → hok s key i := fun i hi => Or.inr (Or.inr hi)
  revert h
  unfold ch0
  cases c1 : emS u (hm1 s key) with
  | some p => intro _; exact one _ p (by omega) c1 o1
  | none =>
    cases c2 : emS u (hm2 s key) with
    | some p => intro _; exact one _ p (by omega) c2 o2
    | none =>
      dsimp only
      split
      · rename_i h1; intro _; exact path _ q1 c1 h1 o1
      · split
        · rename_i h2; intro _; exact path _ q2 c2 h2 o2
        · cases c6 : emS u 8 with
          | some p => intro _; exact one 8 p (by decide) c6 (fun i hi => Or.inl hi)
          | none => intro h; exact absurd rfl h
theorem fillC_R (f : Nat → Int32) (z p : Nat) (a b : Int32) (i : Nat) : uR (fillC f (36 * z + p) a b) z i = (if i = p then true else uR f z i) ∧ kR (fillC f (36 * z + p) a b) z i = (if i = p then a else kR f z i) ∧ vR (fillC f (36 * z + p) a b) z i = (if i = p then b else vR f z i) := by
  obtain ⟨h1, h2, h3⟩ := fillC_at f (36 * z + p) a b (36 * z + i)
  unfold uR kR vR
  rw [h1, h2, h3]
  by_cases h : i = p
  · subst h
    simp only [if_true]
    exact ⟨by decide +kernel, trivial, trivial⟩
  · have h9 : ¬ 36 * z + i = 36 * z + p := by omega
    simp only [if_neg h, if_neg h9]
    exact ⟨trivial, trivial, trivial⟩
/-- a KEY that isn't there comes to a SLOT that is a HOME of it -/
theorem KG_one {z : Nat} {s a b : Int32} {f : Nat → Int32} {p : Nat} (h : KG (uR f z) (kR f z) s) (hn : ∀ i, i < 36 → uR f z i = true → kR f z i ≠ a) (hp : hok s a p) : KG (uR (fillC f (36 * z + p) a b) z) (kR (fillC f (36 * z + p) a b) z) s := by
  refine ⟨fun i j hi hj ui uj e => ?_, fun i hi ui => ?_⟩
  · rw [(fillC_R f z p a b i).1] at ui
    rw [(fillC_R f z p a b j).1] at uj
    rw [(fillC_R f z p a b i).2.1, (fillC_R f z p a b j).2.1] at e
    by_cases h1 : i = p
    · by_cases h2 : j = p
      · rw [h1, h2]
      · rw [if_pos h1, if_neg h2] at e
        rw [if_neg h2] at uj
        exact absurd e.symm (hn j hj uj)
    · rw [if_neg h1] at ui e
      by_cases h2 : j = p
      · rw [if_pos h2] at e
        exact absurd e (hn i hi ui)
      · rw [if_neg h2] at uj e
        exact h.1 i j hi hj ui uj e
  · rw [(fillC_R f z p a b i).1] at ui
    rw [(fillC_R f z p a b i).2.1]
    by_cases h1 : i = p
    · rw [if_pos h1, h1]; exact hp
    · rw [if_neg h1] at ui ⊢
      exact h.2 i hi ui
theorem fillM_cons (m : Nat × Int32 × Int32) (M : List (Nat × Int32 × Int32)) (f : Nat → Int32) : fillM (m :: M) f = fillM M (fillC f m.1 m.2.1 m.2.2) := rfl
theorem KG_path {z : Nat} {s : Int32} : ∀ (L : List Nat) (a b : Int32) (f : Nat → Int32), KG (uR f z) (kR f z) s → (∀ i, i < 36 → uR f z i = true → kR f z i ≠ a) → PathOk (uR f z) (kR f z) s a L → L.Nodup →
    KG (uR (fillM (absM z (mvS (kR f z) (vR f z) a b L)) f) z) (kR (fillM (absM z (mvS (kR f z) (vR f z) a b L)) f) z) s ∧ ∀ i, i < 36 → uR (fillM (absM z (mvS (kR f z) (vR f z) a b L)) f) z i = true → kR (fillM (absM z (mvS (kR f z) (vR f z) a b L)) f) z i = a ∨ ∃ j, j < 36 ∧ uR f z j = true ∧ kR f z j = kR (fillM (absM z (mvS (kR f z) (vR f z) a b L)) f) z i := by
  intro L
  induction L with
  | nil => intro a b f _ _ h _; exact absurd h (by simp [PathOk])
  | cons p L ih =>
    intro a b f hg hn hw hd
    have old : ∀ i, i < 36 → uR (fillC f (36 * z + p) a b) z i = true → kR (fillC f (36 * z + p) a b) z i = a ∨ ∃ j, j < 36 ∧ uR f z j = true ∧ kR f z j = kR (fillC f (36 * z + p) a b) z i := by
      intro i hi ui
      rw [(fillC_R f z p a b i).1] at ui
      rw [(fillC_R f z p a b i).2.1]
      by_cases h1 : i = p
      · exact Or.inl (if_pos h1)
      · rw [if_neg h1] at ui ⊢
        exact Or.inr ⟨i, hi, ui, rfl⟩
    cases L with
    | nil =>
      exact ⟨KG_one (b := b) hg hn hw.2.2, old⟩
    | cons q L =>
      obtain ⟨hp, hu, hh, hw⟩ := hw
      have hpL : p ∉ q :: L := (List.nodup_cons.mp hd).1
      have hc : ∀ x ∈ q :: L, uR (fillC f (36 * z + p) a b) z x = uR f z x ∧ kR (fillC f (36 * z + p) a b) z x = kR f z x ∧ vR (fillC f (36 * z + p) a b) z x = vR f z x := fun x hx => by
        have hxp : x ≠ p := fun e => hpL (e ▸ hx)
        obtain ⟨r1, r2, r3⟩ := fillC_R f z p a b x
        rw [if_neg hxp] at r1 r2 r3
        exact ⟨r1, r2, r3⟩
      have hm : mvS (kR f z) (vR f z) (kR f z p) (vR f z p) (q :: L) = mvS (kR (fillC f (36 * z + p) a b) z) (vR (fillC f (36 * z + p) a b) z) (kR f z p) (vR f z p) (q :: L) :=
        mvS_c0 _ _ _ (fun x hx => ⟨(hc x hx).2.1.symm, (hc x hx).2.2.symm⟩)
      have e1 : fillM (absM z (mvS (kR f z) (vR f z) a b (p :: q :: L))) f = fillM (absM z (mvS (kR (fillC f (36 * z + p) a b) z) (vR (fillC f (36 * z + p) a b) z) (kR f z p) (vR f z p) (q :: L))) (fillC f (36 * z + p) a b) := by
        rw [← hm]; rfl
      rw [e1]
      have hn1 : ∀ i, i < 36 → uR (fillC f (36 * z + p) a b) z i = true → kR (fillC f (36 * z + p) a b) z i ≠ kR f z p := by
        intro i hi ui
        rw [(fillC_R f z p a b i).1] at ui
        rw [(fillC_R f z p a b i).2.1]
        by_cases h1 : i = p
        · rw [if_pos h1]; exact fun e => hn p hp hu e.symm
        · rw [if_neg h1] at ui ⊢
          exact fun e => h1 (hg.1 i p hi hp ui hu e)
      obtain ⟨g1, g2⟩ := ih (kR f z p) (vR f z p) (fillC f (36 * z + p) a b) (KG_one hg hn hh) hn1 (PathOk.c _ _ (fun x hx => ⟨(hc x hx).1, (hc x hx).2.1⟩) hw) (List.nodup_cons.mp hd).2
      refine ⟨g1, fun i hi ui => ?_⟩
      rcases g2 i hi ui with h9 | ⟨j, h9, h8, h7⟩
      · exact Or.inr ⟨p, hp, hu, h9.symm⟩
      · rw [← h7]
        exact old j h9 h8
