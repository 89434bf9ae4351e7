/-! ===== two readings of one SET: the same SLOTS used, the same KEYS and VALUES where used ===== -/
def teq (u : Nat → Bool) (k v : Nat → Int32) (u' : Nat → Bool) (k' v' : Nat → Int32) : Prop := ∀ i, i < 36 → u i = u' i ∧ (u i = true → k i = k' i ∧ v i = v' i)
theorem emS_c {u u' : Nat → Bool} (h : ∀ i, i < 36 → u i = u' i) {b : Nat} (hb : b < 9) : emS u b = emS u' b := by
  unfold emS
  refine scan_congr _ _ _ (fun i _ hi => ?_)
  rw [h (4 * b + i) (by omega)]
theorem atS_c {u u' : Nat → Bool} {k v k' v' : Nat → Int32} (h : teq u k v u' k' v') (key : Int32) {b : Nat} (hb : b < 9) : atS u k key b = atS u' k' key b := by
  unfold atS
  refine scan_congr _ _ _ (fun i _ hi => ?_)
  obtain ⟨h1, h2⟩ := h (4 * b + i) (by omega)
  rw [← h1]
  cases hu : u (4 * b + i) with
  | false => rfl
  | true => rw [(h2 hu).1]
theorem findS_c {u u' : Nat → Bool} {k v k' v' : Nat → Int32} (h : teq u k v u' k' v') (s key : Int32) : findS u k s key = findS u' k' s key := by
  have q1 := hm1_lt s key
  have q2 := hm2_lt s key
  unfold findS
  rw [atS_c h key (show hm1 s key < 9 by omega), atS_c h key (show hm2 s key < 9 by omega), atS_c h key (show 8 < 9 by decide)]
/-- all SLOTS of a full BUCKET are used -/
theorem emS_full {u : Nat → Bool} {b : Nat} (h : emS u b = none) {i : Nat} (hi : i / 4 = b) : u i = true := by
  have h1 := scan_none _ _ _ h (i % 4) (Nat.zero_le _) (by omega)
  have h2 : 4 * b + i % 4 = i := by omega
  rw [h2] at h1
  simpa using h1
theorem pathS_c {u u' : Nat → Bool} {k v k' v' : Nat → Int32} (h : teq u k v u' k' v') (s : Int32) : ∀ (n t b : Nat) (L : List Nat), b < 8 → emS u b = none → pathS u k s n t b L = pathS u' k' s n t b L := by
  intro n
  induction n with
  | zero => intro t b L _ _; rfl
  | succ n ih =>
    intro t b L hb hf
    cases hnx : nx L b t 0 4 with
    | none => simp only [pathS, hnx]
    | some p =>
      have hp := (nx_some _ _ hnx).1
      have hu := emS_full hf hp
      have hk := ((h p (by omega)).2 hu).1
      have ho := otherS_lt s (k p) b
      have he := emS_c (fun i hi => (h i hi).1) (show otherS s (k p) b < 9 by omega)
      simp only [pathS, hnx]
      rw [← hk, ← he]
      cases hem : emS u (otherS s (k p) b) with
      | some e => rfl
      | none => exact ih (t + 1) _ _ ho hem
/-- of a PATH: what was on it stays ahead; all but the end are used; no SLOT twice -/
theorem pathS_used {u : Nat → Bool} {k : Nat → Int32} {s : Int32} : ∀ (n t b : Nat) (L : List Nat), b < 8 → emS u b = none → (∀ q ∈ L, u q = true) → L.Nodup →
    ((pathS u k s n t b L).1 = false → ∀ q ∈ (pathS u k s n t b L).2, u q = true) ∧ ((pathS u k s n t b L).1 = true → ∃ L' e, (pathS u k s n t b L).2 = L' ++ [e] ∧ (∀ q ∈ L', u q = true) ∧ u e = false ∧ L' ≠ []) ∧ (pathS u k s n t b L).2.Nodup := by
  intro n
  induction n with
  | zero => intro t b L _ _ hL hN; exact ⟨fun _ => hL, fun h => absurd h (by simp [pathS]), hN⟩
  | succ n ih =>
    intro t b L hb hf hL hN
    cases hnx : nx L b t 0 4 with
    | none => simp only [pathS, hnx]; exact ⟨fun _ => hL, fun h => absurd h (by simp), hN⟩
    | some p =>
      obtain ⟨hp, hpL⟩ := nx_some _ _ hnx
      have hu := emS_full hf hp
      have ho := otherS_lt s (k p) b
      have hL' : ∀ q ∈ L ++ [p], u q = true := fun q hq => (List.mem_append.mp hq).elim (hL q) (fun h9 => by rw [List.mem_singleton.mp h9]; exact hu)
      have hN' : (L ++ [p]).Nodup := List.nodup_append.mpr ⟨hN, by simp, fun a ha b hb => by rw [List.mem_singleton.mp hb]; intro q; exact hpL (q ▸ ha)⟩
      cases hem : emS u (otherS s (k p) b) with
      | some e =>
        have he := (emS_lt hem (by omega)).2.2
        simp only [pathS, hnx, hem]
        refine ⟨fun h => absurd h (by simp), fun _ => ⟨L ++ [p], e, rfl, hL', he, by simp⟩, ?_⟩
        refine List.nodup_append.mpr ⟨hN', by simp, fun a ha b hb => ?_⟩
        rw [List.mem_singleton.mp hb]
        intro q
        rw [q] at ha
        rw [hL' e ha] at he
        cases he
      | none =>
        simp only [pathS, hnx, hem]
        exact ih (t + 1) _ _ ho hem hL' hN'
theorem mvS_c {k v k' v' : Nat → Int32} : ∀ (L : List Nat) (a b : Int32) (e : Nat), (∀ q ∈ L, k q = k' q ∧ v q = v' q) → mvS k v a b (L ++ [e]) = mvS k' v' a b (L ++ [e]) := by
  intro L
  induction L with
  | nil => intro a b e _; rfl
  | cons q L ih =>
    intro a b e h
    simp only [List.cons_append, mvS]
    rw [(h q List.mem_cons_self).1, (h q List.mem_cons_self).2, ih _ _ e (fun x hx => h x (List.mem_cons_of_mem _ hx))]
theorem mvS_c0 {k v k' v' : Nat → Int32} : ∀ (L : List Nat) (a b : Int32), (∀ q ∈ L, k q = k' q ∧ v q = v' q) → mvS k v a b L = mvS k' v' a b L := by
  intro L
  induction L with
  | nil => intro a b _; rfl
  | cons q L ih =>
    intro a b h
    simp only [mvS]
    rw [(h q List.mem_cons_self).1, (h q List.mem_cons_self).2, ih _ _ (fun x hx => h x (List.mem_cons_of_mem _ hx))]
theorem path_c {u u' : Nat → Bool} {k v k' v' : Nat → Int32} (h : teq u k v u' k' v') (s key val : Int32) {b : Nat} (hb : b < 8) (hf : emS u b = none) : pathS u k s 6 0 b [] = pathS u' k' s 6 0 b [] ∧ mvS k v key val (pathS u k s 6 0 b []).2 = mvS k' v' key val (pathS u k s 6 0 b []).2 := by
  refine ⟨pathS_c h s 6 0 b [] hb hf, ?_⟩
  obtain ⟨g1, g2, -⟩ := pathS_used (k := k) (s := s) 6 0 b [] hb hf (fun q hq => by cases hq) List.nodup_nil
  obtain ⟨-, g4⟩ := pathS_ok u k s 6 0 b [] hb (fun q hq => by cases hq)
  cases hc : (pathS u k s 6 0 b []).1 with
  | false => exact mvS_c0 _ _ _ (fun q hq => (h q (g4 q hq)).2 (g1 hc q hq))
  | true =>
    obtain ⟨L', e, e1, e2, -, -⟩ := g2 hc
    rw [e1] at g4 ⊢
    exact mvS_c L' _ _ e (fun q hq => (h q (g4 q (List.mem_append_left _ hq))).2 (e2 q hq))
theorem ch0_c {u u' : Nat → Bool} {k v k' v' : Nat → Int32} (h : teq u k v u' k' v') (s key val : Int32) : ch0 u k v s key val = ch0 u' k' v' s key val := by
  have q1 := hm1_lt s key
  have q2 := hm2_lt s key
  have hu : ∀ i, i < 36 → u i = u' i := fun i hi => (h i hi).1
  have e1 := emS_c hu (show hm1 s key < 9 by omega)
  have e2 := emS_c hu (show hm2 s key < 9 by omega)
  have e8 := emS_c hu (show 8 < 9 by decide)
  unfold ch0
  rw [← e1]
  cases c1 : emS u (hm1 s key) with
  | some p => rfl
  | none =>
    dsimp only
    rw [← e2]
    cases c2 : emS u (hm2 s key) with
    | some p => rfl
    | none =>
      dsimp only
      obtain ⟨p1, m1⟩ := path_c h s key val q1 c1
      obtain ⟨p2, m2⟩ := path_c h s key val q2 c2
      rw [← p1, ← p2, ← m1, ← m2, ← e8]
/-- what is chosen: no SLOT twice -/
theorem ch0_nd (u : Nat → Bool) (k v : Nat → Int32) (s key val : Int32) : ((ch0 u k v s key val).2.map (·.1)).Nodup := by
  have q1 := hm1_lt s key
  have q2 := hm2_lt s key
  have mvm : ∀ (L : List Nat) (a b : Int32), (mvS k v a b L).map (·.1) = L := by
    intro L
    induction L with
    | nil => intro a b; rfl
    | cons q L ih => intro a b; simp only [mvS, List.map_cons, ih]
  have path : ∀ b, b < 8 → emS u b = none → ((mvS k v key val (pathS u k s 6 0 b []).2).map (·.1)).Nodup := fun b hb hf => by
    rw [mvm]
    exact (pathS_used (k := k) (s := s) 6 0 b [] hb hf (fun q hq => by cases hq) List.nodup_nil).2.2
  unfold ch0
  cases c1 : emS u (hm1 s key) with
  | some p => simp
  | none =>
    cases c2 : emS u (hm2 s key) with
    | some p => simp
    | none =>
      dsimp only
      split
      · exact path _ q1 c1
      · split
        · exact path _ q2 c2
        · cases c6 : emS u 8 with
          | some p => simp
          | none => exact path _ q2 c2
