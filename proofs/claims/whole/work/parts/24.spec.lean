/-! ===== the words of the document over 36 SLOTS of one SET: used, KEY, VALUE by their place in it ===== -/
theorem scan_shift (P : Nat → Bool) (c b : Nat) : ∀ (k j : Nat), scan P (c + b) j k = (scan P b j k).map (fun i => c + i) := by
  intro k
  induction k with
  | zero => intro j; rfl
  | succ k ih =>
    intro j
    unfold scan
    by_cases h : P j = true
    · rw [if_pos h, if_pos h]; simp [Nat.add_assoc]
    · rw [if_neg h, if_neg h]; exact ih (j + 1)
theorem scan_congr {P Q : Nat → Bool} (b : Nat) : ∀ (k j : Nat), (∀ i, j ≤ i → i < j + k → P i = Q i) → scan P b j k = scan Q b j k := by
  intro k
  induction k with
  | zero => intro j _; rfl
  | succ k ih =>
    intro j h
    unfold scan
    rw [h j (Nat.le_refl j) (by omega), ih (j + 1) (fun i h1 h2 => h i (by omega) (by omega))]
theorem scan_some {P : Nat → Bool} (b : Nat) : ∀ (k j : Nat) {i : Nat}, scan P b j k = some i → ∃ s, i = b + s ∧ j ≤ s ∧ s < j + k ∧ P s = true := by
  intro k
  induction k with
  | zero => intro j i h; cases h
  | succ k ih =>
    intro j i h
    unfold scan at h
    by_cases hp : P j = true
    · rw [if_pos hp] at h
      cases h
      exact ⟨j, rfl, Nat.le_refl j, by omega, hp⟩
    · rw [if_neg hp] at h
      obtain ⟨s, h1, h2, h3, h4⟩ := ih (j + 1) h
      exact ⟨s, h1, by omega, by omega, h4⟩
theorem scan_none {P : Nat → Bool} (b : Nat) : ∀ (k j : Nat), scan P b j k = none → ∀ s, j ≤ s → s < j + k → P s = false := by
  intro k
  induction k with
  | zero => intro j _ s h1 h2; omega
  | succ k ih =>
    intro j h s h1 h2
    unfold scan at h
    by_cases hp : P j = true
    · rw [if_pos hp] at h; cases h
    · rw [if_neg hp] at h
      rcases Nat.lt_or_ge j s with q | q
      · exact ih (j + 1) h s (by omega) (by omega)
      · obtain rfl : s = j := by omega
        simpa using hp
/-- the least empty SLOT of a PAGE; the SLOT of a PAGE with a KEY -/
def emS (u : Nat → Bool) (b : Nat) : Option Nat := scan (fun j => !u (4 * b + j)) (4 * b) 0 4
def atS (u : Nat → Bool) (k : Nat → Int32) (key : Int32) (b : Nat) : Option Nat := scan (fun j => u (4 * b + j) && decide (k (4 * b + j) = key)) (4 * b) 0 4
theorem emS_lt {u : Nat → Bool} {b i : Nat} (h : emS u b = some i) (hb : b < 9) : i < 36 ∧ i / 4 = b ∧ u i = false := by
  obtain ⟨s, h1, -, h3, h4⟩ := scan_some _ _ _ h
  subst h1
  exact ⟨by omega, by omega, by simpa using h4⟩
theorem atS_lt {u : Nat → Bool} {k : Nat → Int32} {key : Int32} {b i : Nat} (h : atS u k key b = some i) (hb : b < 9) : i < 36 ∧ i / 4 = b ∧ u i = true ∧ k i = key := by
  obtain ⟨s, h1, -, h3, h4⟩ := scan_some _ _ _ h
  subst h1
  simp only [Bool.and_eq_true, decide_eq_true_eq] at h4
  exact ⟨by omega, by omega, h4.1, h4.2⟩
def findS (u : Nat → Bool) (k : Nat → Int32) (s key : Int32) : Option Nat := match atS u k key (hm1 s key) with
  | some i => some i
  | none => match atS u k key (hm2 s key) with
    | some i => some i
    | none => atS u k key 8
/-- the first SLOT of b, from t on, round, that is not in L -/
def nx (L : List Nat) (b t : Nat) : Nat → Nat → Option Nat
  | _, 0 => none
  | i, k + 1 => if 4 * b + (t + i) % 4 ∈ L then nx L b t (i + 1) k else some (4 * b + (t + i) % 4)
theorem nx_mod (L : List Nat) (b t : Nat) : ∀ (k i : Nat), nx L b (t % 4) i k = nx L b t i k := by
  intro k
  induction k with
  | zero => intro i; rfl
  | succ k ih =>
    intro i
    unfold nx
    rw [ih (i + 1), show (t % 4 + i) % 4 = (t + i) % 4 by omega]
theorem nx_some {L : List Nat} {b t : Nat} : ∀ (k i : Nat) {q : Nat}, nx L b t i k = some q → q / 4 = b ∧ q ∉ L := by
  intro k
  induction k with
  | zero => intro i q h; cases h
  | succ k ih =>
    intro i q h
    unfold nx at h
    split at h
    · exact ih (i + 1) h
    · cases h; exact ⟨by omega, by assumption⟩
/-- the other HOME of a KEY that stands in b -/
def otherS (s key : Int32) (b : Nat) : Nat := if b = hm1 s key then hm2 s key else hm1 s key
theorem otherS_lt (s key : Int32) (b : Nat) : otherS s key b < 8 := by
  unfold otherS
  split
  · exact hm2_lt s key
  · exact hm1_lt s key
/-- a PATH: n steps left, t done, from b, with L on it -/
def pathS (u : Nat → Bool) (k : Nat → Int32) (s : Int32) : Nat → Nat → Nat → List Nat → Bool × List Nat
  | 0, _, _, L => (false, L)
  | n + 1, t, b, L => match nx L b t 0 4 with
    | none => (false, L)
    | some p => match emS u (otherS s (k p) b) with
      | some e => (true, L ++ [p] ++ [e])
      | none => pathS u k s n (t + 1) (otherS s (k p) b) (L ++ [p])
/-- what goes to each SLOT of a list -/
def mvS (k v : Nat → Int32) : Int32 → Int32 → List Nat → List (Nat × Int32 × Int32)
  | _, _, [] => []
  | a, b, p :: L => (p, a, b) :: mvS k v (k p) (v p) L
/-- what is to be moved on behind a list -/
def kvS (k v : Nat → Int32) : Int32 → Int32 → List Nat → Int32 × Int32
  | a, b, [] => (a, b)
  | _, _, p :: L => kvS k v (k p) (v p) L
theorem mvS_app (k v : Nat → Int32) (p : Nat) : ∀ (L : List Nat) (a b : Int32), mvS k v a b (L ++ [p]) = mvS k v a b L ++ [(p, (kvS k v a b L).1, (kvS k v a b L).2)] := by
  intro L
  induction L with
  | nil => intro a b; rfl
  | cons q L ih => intro a b; simp only [List.cons_append, mvS, kvS, ih]
theorem kvS_app (k v : Nat → Int32) (p : Nat) : ∀ (L : List Nat) (a b : Int32), kvS k v a b (L ++ [p]) = (k p, v p) := by
  intro L
  induction L with
  | nil => intro a b; rfl
  | cons q L ih => intro a b; simp only [List.cons_append, kvS, ih]
theorem mvS_len (k v : Nat → Int32) : ∀ (L : List Nat) (a b : Int32), (mvS k v a b L).length = L.length := by
  intro L
  induction L with
  | nil => intro a b; rfl
  | cons q L ih => intro a b; simp only [mvS, List.length_cons, ih]
/-! ===== an image's row of cells read as SLOTS of a SET ===== -/
def uR (f : Nat → Int32) (z i : Nat) : Bool := decide (¬ uC f (36 * z + i) = 0)
def kR (f : Nat → Int32) (z i : Nat) : Int32 := kC f (36 * z + i)
def vR (f : Nat → Int32) (z i : Nat) : Int32 := vC f (36 * z + i)
theorem ix_row (z b j : Nat) (hj : j < 4) : ix (36 * z + (4 * b + j)) = (z * 9 + b) * 22 + j * 3 := by
  unfold ix
  have h1 : (36 * z + (4 * b + j)) / 4 = z * 9 + b := by omega
  have h2 : (36 * z + (4 * b + j)) % 4 = j := by omega
  rw [h1, h2]
/-- a place in a SET as the class tells it -/
def optA (z : Nat) (o : Option Nat) : Int32 := optI (o.map (fun i => 36 * z + i))
theorem em_abs (f : Nat → Int32) (z b : Nat) : optI (scan (emP f (z * 9 + b)) ((z * 9 + b) * 4) 0 4) = optA z (emS (uR f z) b) := by
  unfold optA emS
  rw [← scan_shift, show 36 * z + 4 * b = (z * 9 + b) * 4 by omega]
  congr 1
  refine scan_congr _ _ _ (fun i _ h => ?_)
  unfold emP uR uC
  rw [ix_row z b i (by omega)]
  by_cases h0 : f ((z * 9 + b) * 22 + i * 3) = 0 <;> simp [h0]
theorem at_abs (f : Nat → Int32) (z b : Nat) (key : Int32) : optI (scan (atP f (z * 9 + b) key) ((z * 9 + b) * 4) 0 4) = optA z (atS (uR f z) (kR f z) key b) := by
  unfold optA atS
  rw [← scan_shift, show 36 * z + 4 * b = (z * 9 + b) * 4 by omega]
  congr 1
  refine scan_congr _ _ _ (fun i _ h => ?_)
  unfold atP uR uC kR kC
  rw [ix_row z b i (by omega), show (z * 9 + b) * 22 + i * 3 + 1 = (z * 9 + b) * 22 + (i * 3 + 1) by omega]
  by_cases h0 : f ((z * 9 + b) * 22 + i * 3) = 0 <;> simp [h0]
theorem nI_m1 {n : Nat} (h : n < 2 ^ 31) : ¬ nI n = -1 := by
  intro q
  have h1 := nI_toInt h
  rw [q] at h1
  have h2 : (-1 : Int32).toInt = -1 := by decide
  omega
/-! ===== Waiting ===== -/
set_option maxHeartbeats 4000000 in
set_option maxRecDepth 100000 in
/-- size -/
theorem k_X2_size (l : Launch) (D : va_G) (cI cZ cJ : ClassId) (ws : va_W) (t : Nat) {qW qR qC wt ar ac : Nat} {fr fw : Nat → Int32} (hW : ws[qW]? = some (wt, .inr (2, [.ref ar, .ref ac, .int (nI t)]))) (hR : ws[qR]? = some (ar, .inl (cI, 40, .inl fr))) (hC : ws[qC]? = some (ac, .inl (cI, 880, .inl fw))) : CM l D (cm_T cI cZ cJ) yX2_size cX2_size 1 (some .int) (cm_rm 0 0) [.ref wt] ws (some (.int (nI t))) (ws) := by
  refine CM.of (by decide) (Nat.le_of_ble_eq_true rfl) ?_
  intro p e s m below meth c ls H locs C hl hP hD hS
  refine lv_aload_n C.1 C.2.1 dX2_size_0 rfl (lv_at hl 0 rfl) ?_
  refine va_get (ci := 2) (C := RX2) (T := TX2) (N := 3) C.1 C.2.1 C.2.2.2.2.2.1 ui_X2 C.2.2.2.2.1 C.2.2.2.2.2.2.2.1 hP qW (hW) rfl 2 (by decide) (C.2.2.2.2.2.1 _ tw_42) (fun _ h9 => h9) rfl dX2_size_1 ?_
  exact cm_iret C hP hD hS dX2_size_4 (rfl) (rfl)
set_option maxHeartbeats 4000000 in
set_option maxRecDepth 100000 in
/-- add -/
theorem k_X2_add (l : Launch) (D : va_G) (cI cZ cJ : ClassId) (ws : va_W) (t : Nat) (ht : t < 40) {qW qR qC wt ar ac : Nat} {fr fw : Nat → Int32} (hW : ws[qW]? = some (wt, .inr (2, [.ref ar, .ref ac, .int (nI t)]))) (hR : ws[qR]? = some (ar, .inl (cI, 40, .inl fr))) (hC : ws[qC]? = some (ac, .inl (cI, 880, .inl fw))) {qI qA im ad : Nat} {f : Nat → Int32} (hI : ws[qI]? = some (im, .inr (0, [.ref ad]))) (hA : ws[qA]? = some (ad, .inl (cI, 440, .inl f))) (hwr : qW ≠ qR) (hwc : qW ≠ qC) (hcr : qC ≠ qR) (hir : qI ≠ qR) (har : qA ≠ qR) (r : Nat) (hr : r < 20) : CM l D (cm_T cI cZ cJ) yX2_add cX2_add 3 none (cm_rm 2 65) [.ref wt, .ref im, .int (nI r)] ws none (((ws.set qR (ar, .inl (cI, 40, .inl (upd fr t (nI r))))).set qC (ac, .inl (cI, 880, .inl (va_cpy f fw (r * 22) (t * 22) 22)))).set qW (wt, .inr (2, [.ref ar, .ref ac, .int (nI (t + 1))]))) := by
  refine CM.of (by decide) (Nat.le_of_ble_eq_true rfl) ?_
  intro p e s m below meth c ls H locs C hl hP hD hS
  refine lv_aload_n C.1 C.2.1 dX2_add_0 rfl (lv_at hl 0 rfl) ?_
  refine va_get (ci := 2) (C := RX2) (T := TX2) (N := 3) C.1 C.2.1 C.2.2.2.2.2.1 ui_X2 C.2.2.2.2.1 C.2.2.2.2.2.2.2.1 hP qW (hW) rfl 2 (by decide) (C.2.2.2.2.2.1 _ tw_42) (fun _ h9 => h9) rfl dX2_add_1 ?_
  refine lv_if_lt (tgt := 55) C.1 C.2.1 dX2_add_4 (by decide) (fun h => absurd h (nI_pos (by omega))) (fun _ => ?_)
  refine lv_aload_n C.1 C.2.1 dX2_add_7 rfl (lv_at hl 0 rfl) ?_
  refine va_get (ci := 2) (C := RX2) (T := TX2) (N := 3) C.1 C.2.1 C.2.2.2.2.2.1 ui_X2 C.2.2.2.2.1 C.2.2.2.2.2.2.2.1 hP qW (hW) rfl 2 (by decide) (C.2.2.2.2.2.1 _ tw_42) (fun _ h9 => h9) rfl dX2_add_8 ?_
  refine lv_aload_n C.1 C.2.1 dX2_add_11 rfl (lv_at hl 0 rfl) ?_
  refine va_get (ci := 2) (C := RX2) (T := TX2) (N := 3) C.1 C.2.1 C.2.2.2.2.2.1 ui_X2 C.2.2.2.2.1 C.2.2.2.2.2.2.2.1 hP qW (hW) rfl 0 (by decide) (C.2.2.2.2.2.1 _ tw_40) (fun _ h9 => h9) rfl dX2_add_12 ?_
  refine va_alen C.1 C.2.1 C.2.2.2.2.2.2.2.1 hP qR 0 (hR) rfl (v := nI 40) rfl dX2_add_15 ?_
  refine lv_icmp_ge (tgt := 55) C.1 C.2.1 dX2_add_16 (by decide) (fun h => absurd h (nI_ge ht (by decide))) (fun _ => ?_)
  refine lv_aload_n C.1 C.2.1 dX2_add_19 rfl (lv_at hl 0 rfl) ?_
  refine va_get (ci := 2) (C := RX2) (T := TX2) (N := 3) C.1 C.2.1 C.2.2.2.2.2.1 ui_X2 C.2.2.2.2.1 C.2.2.2.2.2.2.2.1 hP qW (hW) rfl 0 (by decide) (C.2.2.2.2.2.1 _ tw_40) (fun _ h9 => h9) rfl dX2_add_20 ?_
  refine lv_aload_n C.1 C.2.1 dX2_add_23 rfl (lv_at hl 0 rfl) ?_
  refine va_get (ci := 2) (C := RX2) (T := TX2) (N := 3) C.1 C.2.1 C.2.2.2.2.2.1 ui_X2 C.2.2.2.2.1 C.2.2.2.2.2.2.2.1 hP qW (hW) rfl 2 (by decide) (C.2.2.2.2.2.1 _ tw_42) (fun _ h9 => h9) rfl dX2_add_24 ?_
  refine lv_iload_n C.1 C.2.1 dX2_add_27 rfl (lv_at hl 2 rfl) ?_
  refine va_iast C.1 C.2.1 C.2.2.2.2.2.2.2.1 hP hD hS qR 0 (hR) rfl (vp_in_nI ht (by decide)) dX2_add_28 (fun H locs hP hD hS => ?_)
  refine lv_aload_n C.1 C.2.1 dX2_add_29 rfl (lv_at hl 1 rfl) ?_
  refine va_get (ci := 0) (C := RX0) (T := TX0) (N := 1) C.1 C.2.1 C.2.2.2.2.2.1 ui_X0 C.2.2.2.2.1 C.2.2.2.2.2.2.2.1 hP qI (ws_ne hir hI) rfl 0 (by decide) (C.2.2.2.2.2.1 _ tw_28) (fun _ h9 => h9) rfl dX2_add_30 ?_
  refine lv_iload_n C.1 C.2.1 dX2_add_33 rfl (lv_at hl 2 rfl) ?_
  refine lv_aload_n C.1 C.2.1 dX2_add_34 rfl (lv_at hl 0 rfl) ?_
  refine va_get (ci := 2) (C := RX2) (T := TX2) (N := 3) C.1 C.2.1 C.2.2.2.2.2.1 ui_X2 C.2.2.2.2.1 C.2.2.2.2.2.2.2.1 hP qW (ws_ne hwr hW) rfl 1 (by decide) (C.2.2.2.2.2.1 _ tw_41) (fun _ h9 => h9) rfl dX2_add_35 ?_
  refine lv_aload_n C.1 C.2.1 dX2_add_38 rfl (lv_at hl 0 rfl) ?_
  refine va_get (ci := 2) (C := RX2) (T := TX2) (N := 3) C.1 C.2.1 C.2.2.2.2.2.1 ui_X2 C.2.2.2.2.1 C.2.2.2.2.2.2.2.1 hP qW (ws_ne hwr hW) rfl 2 (by decide) (C.2.2.2.2.2.1 _ tw_42) (fun _ h9 => h9) rfl dX2_add_39 ?_
  refine cm_cN0 (host := RX3) 4 C (c_copyRow l D cI cZ cJ _ (ws_ne har hA) (by decide) (ws_ne hcr hC) (by decide) r t (by omega) (by omega)) tw_240 rfl rfl (C.2.2.2.2.2.2.2.2.2.2.2.2.2.2.2.2.2) tw_1 tw_239 (by decide +kernel) ⟨Nat.le_of_ble_eq_true rfl, Nat.le_of_ble_eq_true rfl⟩ ⟨Nat.zero_le _, Nat.zero_le _⟩ hP hD hS hl.1 rfl rfl (Nat.le_of_ble_eq_true rfl) dX2_add_42 (fun H locs hP hD hS => ?_)
  refine lv_aload_n C.1 C.2.1 dX2_add_45 rfl (lv_at hl 0 rfl) ?_
  refine lv_dup C.1 C.2.1 dX2_add_46 rfl ?_
  refine va_get (ci := 2) (C := RX2) (T := TX2) (N := 3) C.1 C.2.1 C.2.2.2.2.2.1 ui_X2 C.2.2.2.2.1 C.2.2.2.2.2.2.2.1 hP qW (ws_ne hwc (ws_ne hwr hW)) rfl 2 (by decide) (C.2.2.2.2.2.1 _ tw_42) (fun _ h9 => h9) rfl dX2_add_47 ?_
  refine lv_iconst (v := nI 1) C.1 C.2.1 dX2_add_50 (by decide +kernel) ?_
  refine lv_iadd C.1 C.2.1 dX2_add_51 ?_
  rw [nI_add]
  refine va_put (ci := 2) (C := RX2) (T := TX2) (N := 3) (ty := .int) C.1 C.2.1 C.2.2.2.2.2.1 ui_X2 tyX2 tyX2_ok nmX2 C.2.2.2.2.1 C.2.2.2.2.2.2.2.1 hP hD hS qW (ws_ne hwc (ws_ne hwr hW)) rfl 2 (by decide) (C.2.2.2.2.2.1 _ tw_42) (fun _ h9 => h9) rfl (by decide +kernel) rfl rfl (Nat.le_of_ble_eq_true rfl) dX2_add_52 (fun H locs hP hD hS => ?_)
  exact cm_vret C hP hD hS dX2_add_55 (by rw [nI_clamp (by omega)]; rfl)
set_option maxHeartbeats 4000000 in
set_option maxRecDepth 100000 in
/-- doFirst -/
theorem k_X2_doFirst (l : Launch) (D : va_G) (cI cZ cJ : ClassId) (ws : va_W) (t : Nat) {qW qR qC wt ar ac : Nat} {fr fw : Nat → Int32} (hW : ws[qW]? = some (wt, .inr (2, [.ref ar, .ref ac, .int (nI t)]))) (hR : ws[qR]? = some (ar, .inl (cI, 40, .inl fr))) (hC : ws[qC]? = some (ac, .inl (cI, 880, .inl fw))) {qI qA im ad : Nat} {f : Nat → Int32} (hI : ws[qI]? = some (im, .inr (0, [.ref ad]))) (hA : ws[qA]? = some (ad, .inl (cI, 440, .inl f))) (hia : qI ≠ qA) (hwa : qW ≠ qA) (hra : qR ≠ qA) (hca : qC ≠ qA) (n : Nat) (hn : n ≤ 40) (hrw : ∀ j, j < n → fr j = nI (fr j).toNatClampNeg ∧ (fr j).toNatClampNeg < 20) : CM l D (cm_T cI cZ cJ) yX2_doFirst cX2_doFirst 4 none (cm_rm 2 65) [.ref wt, .int (nI n), .ref im] ws none ((ws.set qA (ad, .inl (cI, 440, .inl (doN fr fw 0 n f)))).set qW (wt, .inr (2, [.ref ar, .ref ac, .int (nI 0)]))) := by
  refine CM.of (by decide) (Nat.le_of_ble_eq_true rfl) ?_
  intro p e s m below meth c ls H locs C hl hP hD hS
  refine lv_iconst (v := nI 0) C.1 C.2.1 dX2_doFirst_0 (by decide +kernel) ?_
  refine lv_istore_n (lv' := [(3, _), (0, _), (1, _), (2, _)]) C.1 C.2.1 dX2_doFirst_1 rfl hl (by decide) rfl (fun ls hl => ?_)
  have loop : ∀ (k j : Nat) (g : Nat → Int32), j + k = n → ∀ (ls : Array Slot) (H : Heap) (locs : List Loc), lv_has ls 4 [(3, .int (nI j)), (0, .ref wt), (1, .int (nI n)), (2, .ref im)] → va_P D vwCl (ws.set qA (ad, .inl (cI, 440, .inl (g)))) H → va_D (cm_A ws) (ws.set qA (ad, .inl (cI, 440, .inl (g)))) → va_S (cm_A ws) s.heap H locs → W p l e (cm_rm 2 65) s m ([.ref wt, .int (nI n), .ref im] : List Value).toArray below meth c H locs 0 0 (cm_Q below D [.ref wt, .int (nI n), .ref im] s ws none ((ws.set qA (ad, .inl (cI, 440, .inl (doN fr fw j k g)))).set qW (wt, .inr (2, [.ref ar, .ref ac, .int (nI 0)])))) (F0 m 2 ls []) := by
    intro k
    induction k with
    | zero =>
      intro j g hj ls H locs hl hP hD hS
      refine lv_iload_n C.1 C.2.1 dX2_doFirst_2 rfl (lv_at hl 0 rfl) ?_
      refine lv_iload_n C.1 C.2.1 dX2_doFirst_3 rfl (lv_at hl 2 rfl) ?_
      refine lv_icmp_ge (tgt := 40) C.1 C.2.1 dX2_doFirst_4 (by decide) (fun _ => ?_) (fun h => absurd (nI_le (by omega) (by omega)) h)
      refine lv_aload_n C.1 C.2.1 dX2_doFirst_40 rfl (lv_at hl 1 rfl) ?_
      refine lv_iconst (v := nI 0) C.1 C.2.1 dX2_doFirst_41 (by decide +kernel) ?_
      refine va_put (ci := 2) (C := RX2) (T := TX2) (N := 3) (ty := .int) C.1 C.2.1 C.2.2.2.2.2.1 ui_X2 tyX2 tyX2_ok nmX2 C.2.2.2.2.1 C.2.2.2.2.2.2.2.1 hP hD hS qW (ws_ne hwa hW) rfl 2 (by decide) (C.2.2.2.2.2.1 _ tw_42) (fun _ h9 => h9) rfl (by decide +kernel) rfl rfl (Nat.le_of_ble_eq_true rfl) dX2_doFirst_42 (fun H locs hP hD hS => ?_)
      exact cm_vret C hP hD hS dX2_doFirst_45 rfl
    | succ k ih =>
      intro j g hj ls H locs hl hP hD hS
      refine lv_iload_n C.1 C.2.1 dX2_doFirst_2 rfl (lv_at hl 0 rfl) ?_
      refine lv_iload_n C.1 C.2.1 dX2_doFirst_3 rfl (lv_at hl 2 rfl) ?_
      refine lv_icmp_ge (tgt := 40) C.1 C.2.1 dX2_doFirst_4 (by decide) (fun h => absurd h (nI_ge (by omega) (by omega))) (fun _ => ?_)
      refine lv_iload_n C.1 C.2.1 dX2_doFirst_7 rfl (lv_at hl 0 rfl) ?_
      refine lv_aload_n C.1 C.2.1 dX2_doFirst_8 rfl (lv_at hl 1 rfl) ?_
      refine va_get (ci := 2) (C := RX2) (T := TX2) (N := 3) C.1 C.2.1 C.2.2.2.2.2.1 ui_X2 C.2.2.2.2.1 C.2.2.2.2.2.2.2.1 hP qW (ws_ne hwa hW) rfl 0 (by decide) (C.2.2.2.2.2.1 _ tw_40) (fun _ h9 => h9) rfl dX2_doFirst_9 ?_
      refine va_alen C.1 C.2.1 C.2.2.2.2.2.2.2.1 hP qR 0 (ws_ne hra hR) rfl (v := nI 40) rfl dX2_doFirst_12 ?_
      refine lv_icmp_ge (tgt := 40) C.1 C.2.1 dX2_doFirst_13 (by decide) (fun h => absurd h (nI_ge (by omega) (by decide))) (fun _ => ?_)
      refine lv_aload_n C.1 C.2.1 dX2_doFirst_16 rfl (lv_at hl 1 rfl) ?_
      refine va_get (ci := 2) (C := RX2) (T := TX2) (N := 3) C.1 C.2.1 C.2.2.2.2.2.1 ui_X2 C.2.2.2.2.1 C.2.2.2.2.2.2.2.1 hP qW (ws_ne hwa hW) rfl 1 (by decide) (C.2.2.2.2.2.1 _ tw_41) (fun _ h9 => h9) rfl dX2_doFirst_17 ?_
      refine lv_iload_n C.1 C.2.1 dX2_doFirst_20 rfl (lv_at hl 0 rfl) ?_
      refine lv_aload_n C.1 C.2.1 dX2_doFirst_21 rfl (lv_at hl 3 rfl) ?_
      refine va_get (ci := 0) (C := RX0) (T := TX0) (N := 1) C.1 C.2.1 C.2.2.2.2.2.1 ui_X0 C.2.2.2.2.1 C.2.2.2.2.2.2.2.1 hP qI (ws_ne hia hI) rfl 0 (by decide) (C.2.2.2.2.2.1 _ tw_28) (fun _ h9 => h9) rfl dX2_doFirst_22 ?_
      refine lv_aload_n C.1 C.2.1 dX2_doFirst_25 rfl (lv_at hl 1 rfl) ?_
      refine va_get (ci := 2) (C := RX2) (T := TX2) (N := 3) C.1 C.2.1 C.2.2.2.2.2.1 ui_X2 C.2.2.2.2.1 C.2.2.2.2.2.2.2.1 hP qW (ws_ne hwa hW) rfl 0 (by decide) (C.2.2.2.2.2.1 _ tw_40) (fun _ h9 => h9) rfl dX2_doFirst_26 ?_
      refine lv_iload_n C.1 C.2.1 dX2_doFirst_29 rfl (lv_at hl 0 rfl) ?_
      refine va_iald C.1 C.2.1 C.2.2.2.2.2.2.2.1 hP qR 0 (ws_ne hra hR) rfl (vp_in_nI (by omega) (by decide)) dX2_doFirst_30 ?_
      rw [nI_clamp (by omega), (hrw j (by omega)).1]
      refine cm_cN0 (host := RX3) 4 C (c_copyRow l D cI cZ cJ _ (ws_ne hca hC) (by decide) (ws_self hA) (by decide) j (fr j).toNatClampNeg (by omega) (by have := (hrw j (by omega)).2; omega)) tw_240 rfl rfl (C.2.2.2.2.2.2.2.2.2.2.2.2.2.2.2.2.2) tw_1 tw_239 (by decide +kernel) ⟨Nat.le_of_ble_eq_true rfl, Nat.le_of_ble_eq_true rfl⟩ ⟨Nat.zero_le _, Nat.zero_le _⟩ hP hD hS hl.1 rfl rfl (Nat.le_of_ble_eq_true rfl) dX2_doFirst_31 (fun H locs hP hD hS => ?_)
      rw [List.set_set] at hP hD
      refine lv_iinc (v := nI (j + 1)) (lv' := [(3, _), (0, _), (1, _), (2, _)]) C.1 C.2.1 dX2_doFirst_34 hl (k := 0) rfl (nI_1 j) (by decide) rfl (fun ls hl => ?_)
      refine lv_goto (tgt := 2) C.1 C.2.1 dX2_doFirst_37 (by decide) ?_
      exact ih (j + 1) _ (by omega) ls H locs hl hP hD hS
  have hs : ws.set qA (ad, .inl (cI, 440, .inl f)) = ws := ws_id hA
  exact loop n 0 f (Nat.zero_add n) ls H locs hl (by rw [hs]; exact hP) (by rw [hs]; exact hD) hS
