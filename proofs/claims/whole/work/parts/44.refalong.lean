/-! ===== going along a PATH in the reference ===== -/
def okW (t : Nat) (st : MS) : Prop := t ≤ 40 ∧ st.1 20 = nI t ∧ ∀ j, j < t → wKnd st.2 j
theorem t0_lt (t : Nat) : t0 t < 40 := by unfold t0; split <;> omega
theorem nxt_A {what : Int32} {t : Nat} {st : MS} (i : Nat) (hi : i = 23 ∨ i = 24 ∨ i = 25 ∨ i = 26 ∨ i = 27 ∨ i = 28 ∨ i = 1 ∨ i = 2 ∨ i = 3 ∨ i = 4 ∨ i = 8 ∨ i = 9 ∨ i = 10 ∨ i = 30) : (nxt what t st).2 i = st.2 i := by
  have h22 : i ≠ 22 := by omega
  unfold nxt
  by_cases q : t < 40
  · rw [if_pos q]; exact va_up_ne _ _ h22
  · rw [if_neg q]
    refine (va_up_ne _ _ h22).trans ?_
    exact (finN_same t 0 st).1 i (Or.inr hi)
theorem nxt_22 {what : Int32} {t : Nat} {st : MS} : (nxt what t st).2 22 = upd (st.2 22) (t0 t) what := by
  unfold nxt t0
  by_cases q : t < 40
  · rw [if_pos q, if_pos q]; rfl
  · rw [if_neg q, if_neg q]
    show upd ((finN 0 t st).2 22) 0 what = _
    rw [(finN_same t 0 st).1 22 (Or.inl rfl)]
theorem nxt_20 {what : Int32} {t : Nat} {st : MS} : (nxt what t st).1 20 = nI (t0 t + 1) := by
  unfold nxt t0
  by_cases q : t < 40
  · rw [if_pos q, if_pos q]; rfl
  · rw [if_neg q, if_neg q]; rfl
theorem okW_of {t : Nat} {st st' : MS} (h : okW t st) (h20 : st'.1 20 = nI (t0 t + 1)) (hnew : wKnd st'.2 (t0 t)) (hold : ∀ j, j ≠ t0 t → st'.2 22 j = st.2 22 j ∧ st'.2 23 j = st.2 23 j ∧ st'.2 24 j = st.2 24 j) : okW (t0 t + 1) st' := by
  have ht := t0_lt t
  refine ⟨by omega, h20, fun j hj => ?_⟩
  by_cases hjt : j = t0 t
  · subst hjt; exact hnew
  · obtain ⟨e1, e2, e3⟩ := hold j hjt
    unfold wKnd
    rw [e1, e2, e3]
    refine h.2.2 j ?_
    unfold t0 at hj hjt
    have := h.1
    split at hj <;> rename_i q
    · rw [if_pos q] at hjt; omega
    · omega
theorem wPg_ok {t r : Nat} {st : MS} (h : okW t st) (hr : r < 18) : okW (t0 t + 1) (wPg r t st) := by
  have e22 : (wPg r t st).2 22 = upd (st.2 22) (t0 t) (nI 0) := nxt_22
  have e23 : (wPg r t st).2 23 = upd (st.2 23) (t0 t) (nI r) := by
    show upd ((nxt (nI 0) t st).2 23) (t0 t) (nI r) = _
    rw [nxt_A 23 (by simp)]
  have e24 : (wPg r t st).2 24 = st.2 24 := nxt_A 24 (by simp)
  refine okW_of h nxt_20 (Or.inr (Or.inr ⟨by rw [e22, pk_us], r, hr, by rw [e23, pk_us]⟩)) (fun j hj => ?_)
  rw [e22, e23, e24, pk_un hj, pk_un hj]
  exact ⟨rfl, rfl, rfl⟩
theorem wJn_ok {t n : Nat} {st : MS} (h : okW t st) (hn : n ≤ 7) : okW (t0 t + 1) (wJn n t st) := by
  have e22 : (wJn n t st).2 22 = upd (st.2 22) (t0 t) (nI 2) := nxt_22
  have e23 : (wJn n t st).2 23 = st.2 23 := nxt_A 23 (by simp)
  have e24 : (wJn n t st).2 24 = upd (st.2 24) (t0 t) (nI n) := by
    show upd ((nxt (nI 2) t st).2 24) (t0 t) (nI n) = _
    rw [nxt_A 24 (by simp)]
  refine okW_of h nxt_20 (Or.inr (Or.inl ⟨by rw [e22, pk_us], n, hn, by rw [e24, pk_us]⟩)) (fun j hj => ?_)
  rw [e22, e23, e24, pk_un hj, pk_un hj]
  exact ⟨rfl, rfl, rfl⟩
theorem wRt_ok {t : Nat} {st : MS} (h : okW t st) : okW (t0 t + 1) (wRt t st) := by
  have e22 : (wRt t st).2 22 = upd (st.2 22) (t0 t) (nI 1) := nxt_22
  have e23 : (wRt t st).2 23 = upd (st.2 23) (t0 t) ((nxt (nI 1) t st).1 5) := by
    show upd ((nxt (nI 1) t st).2 23) (t0 t) _ = _
    rw [nxt_A 23 (by simp)]
  have e24 : (wRt t st).2 24 = upd (st.2 24) (t0 t) ((nxt (nI 1) t st).1 6) := by
    show upd ((nxt (nI 1) t st).2 24) (t0 t) _ = _
    rw [nxt_A 24 (by simp)]
  refine okW_of h nxt_20 (Or.inl (by rw [e22, pk_us])) (fun j hj => ?_)
  rw [e22, e23, e24, pk_un hj, pk_un hj, pk_un hj]
  exact ⟨rfl, rfl, rfl⟩
/-- what a WRITE leaves as it is -/
theorem wPg_A {t r : Nat} {st : MS} (i : Nat) (hi : i = 1 ∨ i = 2 ∨ i = 3 ∨ i = 4 ∨ i = 8 ∨ i = 9 ∨ i = 10 ∨ i = 30) : (wPg r t st).2 i = st.2 i := by
  refine (va_up_ne _ _ (by omega)).trans ((va_up_ne _ _ (by omega)).trans ((va_up_ne _ _ (by omega)).trans ((va_up_ne _ _ (by omega)).trans (nxt_A i (by omega)))))
theorem wJn_A {t n : Nat} {st : MS} (i : Nat) (hi : i = 1 ∨ i = 2 ∨ i = 3 ∨ i = 4 ∨ i = 8 ∨ i = 9 ∨ i = 10 ∨ i = 30) : (wJn n t st).2 i = st.2 i := by
  refine (va_up_ne _ _ (by omega)).trans ((va_up_ne _ _ (by omega)).trans ((va_up_ne _ _ (by omega)).trans ((va_up_ne _ _ (by omega)).trans (nxt_A i (by omega)))))
theorem wRt_A {t : Nat} {st : MS} (i : Nat) (hi : i = 1 ∨ i = 2 ∨ i = 3 ∨ i = 4 ∨ i = 8 ∨ i = 9 ∨ i = 10 ∨ i = 30) : (wRt t st).2 i = st.2 i := by
  refine (va_up_ne _ _ (by omega)).trans ((va_up_ne _ _ (by omega)).trans (nxt_A i (by omega)))
theorem wPg_I {t r : Nat} {I : Nat → Int32} {A : Nat → Nat → Int32} (i : Nat) (hi : i ≠ 14 ∧ i ≠ 15 ∧ i ≠ 16 ∧ i ≠ 20 ∧ i ≠ 21) : (wPg r t (I, A)).1 i = I i := nxt_I i hi rfl
theorem wJn_I {t n : Nat} {I : Nat → Int32} {A : Nat → Nat → Int32} (i : Nat) (hi : i ≠ 14 ∧ i ≠ 15 ∧ i ≠ 16 ∧ i ≠ 20 ∧ i ≠ 21) : (wJn n t (I, A)).1 i = I i := nxt_I i hi rfl
theorem wRt_I {t : Nat} {I : Nat → Int32} {A : Nat → Nat → Int32} (i : Nat) (hi : i ≠ 14 ∧ i ≠ 15 ∧ i ≠ 16 ∧ i ≠ 20 ∧ i ≠ 21) : (wRt t (I, A)).1 i = I i := nxt_I i hi rfl
/-- SLOTS filled, from the end back; and each written -/
def flR : List (Nat × Int32 × Int32) → (Nat → Nat → Int32) → (Nat → Nat → Int32)
  | [], A => A
  | m :: M, A => flA m.1 m.2.1 m.2.2 (flR M A)
theorem flR_app : ∀ (M N : List (Nat × Int32 × Int32)) (A : Nat → Nat → Int32), flR (M ++ N) A = flR M (flR N A) := by
  intro M
  induction M with
  | nil => intro N A; rfl
  | cons m M ih => intro N A; simp only [List.cons_append, flR, ih]
def flW1 (m : Nat × Int32 × Int32) (y : Nat × MS) : Nat × MS := (t0 y.1 + 1, wPg (m.1 / 4) y.1 (y.2.1, flA m.1 m.2.1 m.2.2 y.2.2))
def flW : List (Nat × Int32 × Int32) → Nat × MS → Nat × MS
  | [], x => x
  | m :: M, x => flW1 m (flW M x)
theorem flW_app : ∀ (M N : List (Nat × Int32 × Int32)) (x : Nat × MS), flW (M ++ N) x = flW M (flW N x) := by
  intro M
  induction M with
  | nil => intro N x; rfl
  | cons m M ih => intro N x; simp only [List.cons_append, flW, ih]
def tA (x0 : Int32) (src ps g : Nat → Int32) (n : Nat) : Nat → Int32 := fun i => if i < n then (if i = 0 then x0 else src (ps (i - 1)).toNatClampNeg) else g i
theorem tA_0 (x0 : Int32) (src ps g : Nat → Int32) : tA x0 src ps g 0 = g := by funext i; simp [tA]
theorem tA_s (x0 : Int32) (src ps g : Nat → Int32) (n : Nat) : upd (tA x0 src ps g n) n (if n = 0 then x0 else src (ps (n - 1)).toNatClampNeg) = tA x0 src ps g (n + 1) := by
  funext i
  unfold tA upd
  by_cases h : i = n
  · subst h; simp
  · by_cases h2 : i < n
    · simp [h, h2, Nat.lt_succ_of_lt h2]
    · have : ¬ i < n + 1 := by omega
      simp [h, h2, this]
def goT (k v : Int32) (n : Nat) (A : Nat → Nat → Int32) : Nat → Nat → Int32 := va_up (va_up (va_up A 8 (va_cpy (A 30) (A 8) 0 0 n)) 9 (tA k (A 2) (A 30) (A 9) n)) 10 (tA v (A 3) (A 30) (A 10) n)
theorem goT_0 (k v : Int32) (A : Nat → Nat → Int32) : goT k v 0 A = A := by
  unfold goT
  simp only [cpy_0, tA_0]
  funext k9
  by_cases h10 : k9 = 10 <;> by_cases h9 : k9 = 9 <;> by_cases h8 : k9 = 8 <;> simp [va_up, *]
/-- what the rows told say -/
def tEnc (a8 a9 a10 : Nat → Int32) (M : List (Nat × Int32 × Int32)) : Prop := ∀ (j : Nat) (m : Nat × Int32 × Int32), M[j]? = some m → a8 j = nI m.1 ∧ a9 j = m.2.1 ∧ a10 j = m.2.2
theorem mvS_at (k v : Nat → Int32) : ∀ (L : List Nat) (a b : Int32) (j : Nat) (m : Nat × Int32 × Int32), (mvS k v a b L)[j]? = some m → L[j]? = some m.1 ∧ m.2.1 = (if j = 0 then a else match L[j - 1]? with | some q => k q | none => 0) ∧ m.2.2 = (if j = 0 then b else match L[j - 1]? with | some q => v q | none => 0) := by
  intro L
  induction L with
  | nil => intro a b j m h; simp [mvS] at h
  | cons q L ih =>
    intro a b j m h
    cases j with
    | zero =>
      have h : (q, a, b) = m := by simpa [mvS] using h
      subst h
      simp
    | succ j =>
      have h : (mvS k v (k q) (v q) L)[j]? = some m := by simpa [mvS] using h
      obtain ⟨h1, h2, h3⟩ := ih _ _ j m h
      refine ⟨by simpa using h1, ?_, ?_⟩
      · rw [h2]
        cases j with
        | zero => simp
        | succ j => simp
      · rw [h3]
        cases j with
        | zero => simp
        | succ j => simp
theorem goT_enc {w : Nat} (hw : w < 3) {A : Nat → Nat → Int32} {key val : Int32} {L : List Nat} (hL : ∀ q ∈ L, q < 36) (hps : ∀ (i q : Nat), L[i]? = some q → A 30 i = nI (36 * w + q)) : tEnc (goT key val L.length A 8) (goT key val L.length A 9) (goT key val L.length A 10) (absM w (mvS (kM A w) (vM A w) key val L)) := by
  intro j m hj
  rw [absM, List.getElem?_map] at hj
  cases hm : (mvS (kM A w) (vM A w) key val L)[j]? with
  | none => rw [hm] at hj; cases hj
  | some m0 =>
    rw [hm] at hj
    cases hj
    obtain ⟨h1, h2, h3⟩ := mvS_at (kM A w) (vM A w) L key val j m0 hm
    have hjl : j < L.length := (List.getElem?_eq_some_iff.mp h1).1
    have e8 : goT key val L.length A 8 j = A 30 j := by
      show va_cpy (A 30) (A 8) 0 0 L.length j = A 30 j
      rw [pk_cpy_in (by omega) (by omega)]
      simp
    refine ⟨by rw [e8, hps j _ h1], ?_, ?_⟩
    · show tA key (A 2) (A 30) (A 9) L.length j = m0.2.1
      unfold tA
      rw [if_pos hjl, h2]
      by_cases h0 : j = 0
      · rw [if_pos h0, if_pos h0]
      · rw [if_neg h0, if_neg h0]
        have hq : L[j - 1]? = some (L[j - 1]'(by omega)) := List.getElem?_eq_getElem (by omega)
        have hlt := hL _ (List.getElem_mem (l := L) (n := j - 1) (by omega))
        rw [hps _ _ hq, nI_clamp (by omega), hq]
        rfl
    · show tA val (A 3) (A 30) (A 10) L.length j = m0.2.2
      unfold tA
      rw [if_pos hjl, h3]
      by_cases h0 : j = 0
      · rw [if_pos h0, if_pos h0]
      · rw [if_neg h0, if_neg h0]
        have hq : L[j - 1]? = some (L[j - 1]'(by omega)) := List.getElem?_eq_getElem (by omega)
        have hlt := hL _ (List.getElem_mem (l := L) (n := j - 1) (by omega))
        rw [hps _ _ hq, nI_clamp (by omega), hq]
        rfl
/-- the whole way along, written -/
def goW (key val : Int32) (n : Nat) (M : List (Nat × Int32 × Int32)) (t : Nat) (st : MS) : MS :=
  wJn 0 (flW M (t0 t + 1, wJn n t (va_up (va_up st.1 7 (nI n)) 31 (nI n), goT key val n st.2))).1 (va_up (flW M (t0 t + 1, wJn n t (va_up (va_up st.1 7 (nI n)) 31 (nI n), goT key val n st.2))).2.1 7 (nI 0), (flW M (t0 t + 1, wJn n t (va_up (va_up st.1 7 (nI n)) 31 (nI n), goT key val n st.2))).2.2)
theorem flW_ok {M : List (Nat × Int32 × Int32)} (hM : ∀ m ∈ M, m.1 < 72) : ∀ {x : Nat × MS}, okW x.1 x.2 → okW (flW M x).1 (flW M x).2 := by
  induction M with
  | nil => intro x h; exact h
  | cons m M ih =>
    intro x h
    have := hM m List.mem_cons_self
    have h1 := ih (fun q hq => hM q (List.mem_cons_of_mem _ hq)) h
    exact wPg_ok (st := ((flW M x).2.1, flA m.1 m.2.1 m.2.2 (flW M x).2.2)) ⟨h1.1, h1.2.1, h1.2.2⟩ (by omega)
theorem flW_I {M : List (Nat × Int32 × Int32)} (i : Nat) (hi : i ≠ 14 ∧ i ≠ 15 ∧ i ≠ 16 ∧ i ≠ 20 ∧ i ≠ 21) : ∀ {x : Nat × MS}, (flW M x).2.1 i = x.2.1 i := by
  induction M with
  | nil => intro x; rfl
  | cons m M ih => intro x; exact (wPg_I i hi).trans ih
set_option maxHeartbeats 4000000 in
set_option maxRecDepth 100000 in
/-- goAlong -/
theorem k_X4_goAlong0 (l : Launch) (D : va_G) (cI cZ cJ : ClassId) (ad : Nat → Nat) (X : va_W) (I : Nat → Int32) (A : Nat → Nat → Int32) (w : Nat) (hw0 : w < 3) (L : List Nat) (hL : ∀ q ∈ L, q < 36) (hL7 : L.length ≤ 7) (h29 : I 29 = nI L.length) (hps : ∀ (i q : Nat), L[i]? = some q → A 30 i = nI (36 * w + q)) (key val : Int32)  : CM l D (cm_T cI cZ cJ) yX4_goAlong cX4_goAlong 5 none (cm_rm 5 115) [.ref (ad 0), .int key, .int val, .int (nI 0)] (mw ad cI cZ X I A) none (mw ad cI cZ X (va_up (va_up I 7 (nI L.length)) 7 (nI 0)) (flR (absM w (mvS (kM A w) (vM A w) key val L)) (goT key val L.length A))) := by
  refine CM.of (by decide) (Nat.le_of_ble_eq_true rfl) ?_
  intro p e s m below meth c ls H locs C hl hP hD hS
  have hpp : ∀ i, i < L.length → A 30 i = nI (A 30 i).toNatClampNeg ∧ (A 30 i).toNatClampNeg < 108 := fun i hi => by
    have hq := hps i _ (List.getElem?_eq_getElem hi)
    have hlt := hL _ (List.getElem_mem (l := L) hi)
    rw [hq, nI_clamp (by omega)]
    exact ⟨rfl, by omega⟩
  refine lv_iconst (v := nI 0) C.1 C.2.1 dX4_goAlong_0 (by decide +kernel) ?_
  refine lv_istore (lv' := [(4, _), (0, _), (1, _), (2, _), (3, _)]) C.1 C.2.1 dX4_goAlong_1 hl (by decide) rfl (fun ls hl => ?_)
  have hen := goT_enc (w := w) (by omega) (key := key) (val := val) hL hps
  have hlen : (absM w (mvS (kM A w) (vM A w) key val L)).length = L.length := by rw [absM, List.length_map, mvS_len]
  have hM72 : ∀ m ∈ (absM w (mvS (kM A w) (vM A w) key val L)), m.1 < 108 := fun m9 hm9 => by
    obtain ⟨m0, h0, rfl⟩ := List.mem_map.mp hm9
    have := hL _ (mvS_mem _ _ _ _ _ m0 h0)
    dsimp only
    omega
  generalize hM9 : (absM w (mvS (kM A w) (vM A w) key val L)) = M9 at hen hlen hM72 ⊢
  have hcont : ∀ (ls : Array Slot) (H : Heap) (locs : List Loc), lv_has ls 5 [(4, .int (nI L.length)), (0, .ref (ad 0)), (1, .int key), (2, .int val), (3, .int (nI 0))] → va_P D vwCl (mw ad cI cZ X I (goT key val L.length A)) H → va_D (cm_A (mw ad cI cZ X I A)) (mw ad cI cZ X I (goT key val L.length A)) → va_S (cm_A (mw ad cI cZ X I A)) s.heap H locs → W p l e (cm_rm 5 115) s m ([.ref (ad 0), .int key, .int val, .int (nI 0)] : List Value).toArray below meth c H locs 0 0 (cm_Q below D [.ref (ad 0), .int key, .int val, .int (nI 0)] s (mw ad cI cZ X I A) none (mw ad cI cZ X (va_up (va_up I 7 (nI L.length)) 7 (nI 0)) (flR M9 (goT key val L.length A)))) (F0 m 92 ls []) := by
    intro ls H locs hl hP hD hS
    refine lv_aload_n C.1 C.2.1 dX4_goAlong_92 rfl (lv_at hl 1 rfl) ?_
    refine lv_aload_n C.1 C.2.1 dX4_goAlong_93 rfl (lv_at hl 1 rfl) ?_
    refine va_get (ci := 4) (C := RX4) (T := TX4) (N := 34) C.1 C.2.1 C.2.2.2.2.2.1 ui_X4 C.2.2.2.2.1 C.2.2.2.2.2.2.2.1 hP 0 (rfl) rfl 29 (by decide) (C.2.2.2.2.2.1 _ tw_485) (fun _ h9 => h9) rfl dX4_goAlong_94 ?_
    rw [h29]
    refine va_put (ci := 4) (C := RX4) (T := TX4) (N := 34) (ty := .int) C.1 C.2.1 C.2.2.2.2.2.1 ui_X4 tyX4 tyX4_ok nmX4 C.2.2.2.2.1 C.2.2.2.2.2.2.2.1 hP hD hS 0 (rfl) rfl 7 (by decide) (C.2.2.2.2.2.1 _ tw_463) (fun _ h9 => h9) rfl (by decide +kernel) rfl rfl (Nat.le_of_ble_eq_true rfl) dX4_goAlong_97 (fun H locs hP hD hS => ?_)
    have hP : va_P D vwCl (mw ad cI cZ X (va_up I 7 (nI L.length)) (goT key val L.length A)) H := hP
    have hD : va_D (cm_A (mw ad cI cZ X I A)) (mw ad cI cZ X (va_up I 7 (nI L.length)) (goT key val L.length A)) := hD
    refine lv_iload_n C.1 C.2.1 dX4_goAlong_100 rfl (lv_at hl 4 rfl) ?_
    refine lv_if_eq (tgt := 116) C.1 C.2.1 dX4_goAlong_101 (by decide) (fun _ => ?_) (fun h => absurd (by decide) h)
    refine lv_aload_n C.1 C.2.1 dX4_goAlong_116 rfl (lv_at hl 1 rfl) ?_
    refine va_get (v := .int (I 29)) (ci := 4) (C := RX4) (T := TX4) (N := 34) C.1 C.2.1 C.2.2.2.2.2.1 ui_X4 C.2.2.2.2.1 C.2.2.2.2.2.2.2.1 hP 0 (rfl) rfl 29 (by decide) (C.2.2.2.2.2.1 _ tw_485) (fun _ h9 => h9) rfl dX4_goAlong_117 ?_
    rw [h29]
    refine lv_iconst (v := nI 1) C.1 C.2.1 dX4_goAlong_120 (by decide +kernel) ?_
    refine lv_isub C.1 C.2.1 dX4_goAlong_121 ?_
    refine lv_istore (lv' := [(4, _), (0, _), (1, _), (2, _), (3, _)]) C.1 C.2.1 dX4_goAlong_122 hl (by decide) rfl (fun ls hl => ?_)
    have down : ∀ (k : Nat) (C9 : Nat → Nat → Int32), k ≤ L.length → C9 8 = (goT key val L.length A) 8 → C9 9 = (goT key val L.length A) 9 → C9 10 = (goT key val L.length A) 10 → flR (M9.take k) C9 = flR M9 (goT key val L.length A) → ∀ (ls : Array Slot) (H : Heap) (locs : List Loc), lv_has ls 5 [(4, .int (nI k - nI 1)), (0, .ref (ad 0)), (1, .int key), (2, .int val), (3, .int (nI 0))] → va_P D vwCl (mw ad cI cZ X (va_up I 7 (nI L.length)) C9) H → va_D (cm_A (mw ad cI cZ X I A)) (mw ad cI cZ X (va_up I 7 (nI L.length)) C9) → va_S (cm_A (mw ad cI cZ X I A)) s.heap H locs → W p l e (cm_rm 5 115) s m ([.ref (ad 0), .int key, .int val, .int (nI 0)] : List Value).toArray below meth c H locs 0 0 (cm_Q below D [.ref (ad 0), .int key, .int val, .int (nI 0)] s (mw ad cI cZ X I A) none (mw ad cI cZ X (va_up (va_up I 7 (nI L.length)) 7 (nI 0)) (flR M9 (goT key val L.length A)))) (F0 m 124 ls []) := by
      intro k
      induction k with
      | zero =>
        intro C9 hk h8 h9 h10 hf ls H locs hl hP hD hS
        refine lv_iload C.1 C.2.1 dX4_goAlong_124 (lv_at hl 0 rfl) ?_
        refine lv_if_lt (tgt := 161) C.1 C.2.1 dX4_goAlong_126 (by decide) (fun _ => ?_) (fun h => absurd (by decide) h)
        refine lv_aload_n C.1 C.2.1 dX4_goAlong_161 rfl (lv_at hl 1 rfl) ?_
        refine lv_iconst (v := nI 0) C.1 C.2.1 dX4_goAlong_162 (by decide +kernel) ?_
        refine va_put (ci := 4) (C := RX4) (T := TX4) (N := 34) (ty := .int) C.1 C.2.1 C.2.2.2.2.2.1 ui_X4 tyX4 tyX4_ok nmX4 C.2.2.2.2.1 C.2.2.2.2.2.2.2.1 hP hD hS 0 (rfl) rfl 7 (by decide) (C.2.2.2.2.2.1 _ tw_463) (fun _ h9 => h9) rfl (by decide +kernel) rfl rfl (Nat.le_of_ble_eq_true rfl) dX4_goAlong_163 (fun H locs hP hD hS => ?_)
        refine lv_iload_n C.1 C.2.1 dX4_goAlong_166 rfl (lv_at hl 4 rfl) ?_
        refine lv_if_eq (tgt := 174) C.1 C.2.1 dX4_goAlong_167 (by decide) (fun _ => ?_) (fun h => absurd (by decide) h)
        have hf : C9 = flR M9 (goT key val L.length A) := hf
        exact cm_vret C hP hD hS dX4_goAlong_174 (by rw [← hf]; rfl)
      | succ k ih =>
        intro C9 hk h8 h9 h10 hf ls H locs hl hP hD hS
        have hmk : M9[k]? = some (M9[k]'(by omega)) := List.getElem?_eq_getElem (by omega)
        have hmm := hM72 _ (List.getElem_mem (l := M9) (n := k) (by omega))
        generalize M9[k]'(by omega) = m9 at hmk hmm
        obtain ⟨m1, m2, m3⟩ := hen k m9 hmk
        rw [pk_sub (by omega), Nat.add_sub_cancel] at hl
        have htk : M9.take (k + 1) = M9.take k ++ [m9] := by rw [List.take_add_one, hmk]; rfl
        refine lv_iload C.1 C.2.1 dX4_goAlong_124 (lv_at hl 0 rfl) ?_
        refine lv_if_lt (tgt := 161) C.1 C.2.1 dX4_goAlong_126 (by decide) (fun h => absurd h (nI_pos (by omega))) (fun _ => ?_)
        refine lv_aload_n C.1 C.2.1 dX4_goAlong_129 rfl (lv_at hl 1 rfl) ?_
        refine lv_aload_n C.1 C.2.1 dX4_goAlong_130 rfl (lv_at hl 1 rfl) ?_
        refine va_get (ci := 4) (C := RX4) (T := TX4) (N := 34) C.1 C.2.1 C.2.2.2.2.2.1 ui_X4 C.2.2.2.2.1 C.2.2.2.2.2.2.2.1 hP 0 (rfl) rfl 8 (by decide) (C.2.2.2.2.2.1 _ tw_464) (fun _ h9 => h9) rfl dX4_goAlong_131 ?_
        refine lv_iload C.1 C.2.1 dX4_goAlong_134 (lv_at hl 0 rfl) ?_
        refine va_iald (f := C9 8) C.1 C.2.1 C.2.2.2.2.2.2.2.1 hP 5 0 (rfl) rfl (vp_in_nI (by omega) (by decide)) dX4_goAlong_136 ?_
        rw [nI_clamp (by omega), h8, m1]
        refine lv_aload_n C.1 C.2.1 dX4_goAlong_137 rfl (lv_at hl 1 rfl) ?_
        refine va_get (ci := 4) (C := RX4) (T := TX4) (N := 34) C.1 C.2.1 C.2.2.2.2.2.1 ui_X4 C.2.2.2.2.1 C.2.2.2.2.2.2.2.1 hP 0 (rfl) rfl 9 (by decide) (C.2.2.2.2.2.1 _ tw_465) (fun _ h9 => h9) rfl dX4_goAlong_138 ?_
        refine lv_iload C.1 C.2.1 dX4_goAlong_141 (lv_at hl 0 rfl) ?_
        refine va_iald (f := C9 9) C.1 C.2.1 C.2.2.2.2.2.2.2.1 hP 6 0 (rfl) rfl (vp_in_nI (by omega) (by decide)) dX4_goAlong_143 ?_
        rw [nI_clamp (by omega), h9, m2]
        refine lv_aload_n C.1 C.2.1 dX4_goAlong_144 rfl (lv_at hl 1 rfl) ?_
        refine va_get (ci := 4) (C := RX4) (T := TX4) (N := 34) C.1 C.2.1 C.2.2.2.2.2.1 ui_X4 C.2.2.2.2.1 C.2.2.2.2.2.2.2.1 hP 0 (rfl) rfl 10 (by decide) (C.2.2.2.2.2.1 _ tw_466) (fun _ h9 => h9) rfl dX4_goAlong_145 ?_
        refine lv_iload C.1 C.2.1 dX4_goAlong_148 (lv_at hl 0 rfl) ?_
        refine va_iald (f := C9 10) C.1 C.2.1 C.2.2.2.2.2.2.2.1 hP 7 0 (rfl) rfl (vp_in_nI (by omega) (by decide)) dX4_goAlong_150 ?_
        rw [nI_clamp (by omega), h10, m3]
        refine lv_iload_n C.1 C.2.1 dX4_goAlong_151 rfl (lv_at hl 4 rfl) ?_
        refine cm_cV0 (q0 := 0) 4 C (k_X4_fill0 l D cI cZ cJ ad X (va_up I 7 (nI L.length)) C9 m9.1 hmm m9.2.1 m9.2.2) tw_588 tw_590 ts_14 tw_5 tw_591 rfl rfl (rfl) rfl (by decide +kernel) ⟨Nat.le_of_ble_eq_true rfl, Nat.le_of_ble_eq_true rfl⟩ ⟨Nat.zero_le _, Nat.zero_le _⟩ hP hD hS hl.1 rfl rfl (Nat.le_of_ble_eq_true rfl) dX4_goAlong_152 (fun H locs hP hD hS => ?_)
        refine lv_iinc (v := (nI k - nI 1)) (lv' := [(4, _), (0, _), (1, _), (2, _), (3, _)]) C.1 C.2.1 dX4_goAlong_155 hl (k := 0) rfl (m1_sub (nI k)) (by decide) rfl (fun ls hl => ?_)
        refine lv_goto (tgt := 124) C.1 C.2.1 dX4_goAlong_158 (by decide) ?_
        exact ih (flA m9.1 m9.2.1 m9.2.2 C9) (by omega) h8 h9 h10 (by rw [← hf, htk, flR_app]; rfl) ls H locs hl hP hD hS
    exact down L.length (goT key val L.length A) (Nat.le_refl _) rfl rfl rfl (by rw [← hlen, List.take_length]) ls H locs hl hP hD hS
  have loop : ∀ (k j : Nat), j + k = L.length → ∀ (ls : Array Slot) (H : Heap) (locs : List Loc), lv_has ls 5 [(4, .int (nI j)), (0, .ref (ad 0)), (1, .int key), (2, .int val), (3, .int (nI 0))] → va_P D vwCl (mw ad cI cZ X I (goT key val j A)) H → va_D (cm_A (mw ad cI cZ X I A)) (mw ad cI cZ X I (goT key val j A)) → va_S (cm_A (mw ad cI cZ X I A)) s.heap H locs → W p l e (cm_rm 5 115) s m ([.ref (ad 0), .int key, .int val, .int (nI 0)] : List Value).toArray below meth c H locs 0 0 (cm_Q below D [.ref (ad 0), .int key, .int val, .int (nI 0)] s (mw ad cI cZ X I A) none (mw ad cI cZ X (va_up (va_up I 7 (nI L.length)) 7 (nI 0)) (flR M9 (goT key val L.length A)))) (F0 m 3 ls []) := by
    intro k
    induction k with
    | zero =>
      intro j hj ls H locs hl hP hD hS
      refine lv_iload C.1 C.2.1 dX4_goAlong_3 (lv_at hl 0 rfl) ?_
      refine lv_aload_n C.1 C.2.1 dX4_goAlong_5 rfl (lv_at hl 1 rfl) ?_
      refine va_get (ci := 4) (C := RX4) (T := TX4) (N := 34) C.1 C.2.1 C.2.2.2.2.2.1 ui_X4 C.2.2.2.2.1 C.2.2.2.2.2.2.2.1 hP 0 (rfl) rfl 29 (by decide) (C.2.2.2.2.2.1 _ tw_485) (fun _ h9 => h9) rfl dX4_goAlong_6 ?_
      rw [h29]
      refine lv_icmp_ge (tgt := 92) C.1 C.2.1 dX4_goAlong_9 (by decide) (fun _ => ?_) (fun h => absurd (nI_le (by omega) (by omega)) h)
      obtain rfl : j = L.length := by omega
      exact hcont ls H locs hl hP hD hS
    | succ k ih =>
      intro j hj ls H locs hl hP hD hS
      by_cases h0 : j = 0
      · refine lv_iload C.1 C.2.1 dX4_goAlong_3 (lv_at hl 0 rfl) ?_
        refine lv_aload_n C.1 C.2.1 dX4_goAlong_5 rfl (lv_at hl 1 rfl) ?_
        refine va_get (ci := 4) (C := RX4) (T := TX4) (N := 34) C.1 C.2.1 C.2.2.2.2.2.1 ui_X4 C.2.2.2.2.1 C.2.2.2.2.2.2.2.1 hP 0 (rfl) rfl 29 (by decide) (C.2.2.2.2.2.1 _ tw_485) (fun _ h9 => h9) rfl dX4_goAlong_6 ?_
        rw [h29]
        refine lv_icmp_ge (tgt := 92) C.1 C.2.1 dX4_goAlong_9 (by decide) (fun h => absurd h (nI_ge (by omega) (by omega))) (fun _ => ?_)
        refine lv_aload_n C.1 C.2.1 dX4_goAlong_12 rfl (lv_at hl 1 rfl) ?_
        refine va_get (ci := 4) (C := RX4) (T := TX4) (N := 34) C.1 C.2.1 C.2.2.2.2.2.1 ui_X4 C.2.2.2.2.1 C.2.2.2.2.2.2.2.1 hP 0 (rfl) rfl 8 (by decide) (C.2.2.2.2.2.1 _ tw_464) (fun _ h9 => h9) rfl dX4_goAlong_13 ?_
        refine lv_iload C.1 C.2.1 dX4_goAlong_16 (lv_at hl 0 rfl) ?_
        refine lv_aload_n C.1 C.2.1 dX4_goAlong_18 rfl (lv_at hl 1 rfl) ?_
        refine va_get (ci := 4) (C := RX4) (T := TX4) (N := 34) C.1 C.2.1 C.2.2.2.2.2.1 ui_X4 C.2.2.2.2.1 C.2.2.2.2.2.2.2.1 hP 0 (rfl) rfl 30 (by decide) (C.2.2.2.2.2.1 _ tw_486) (fun _ h9 => h9) rfl dX4_goAlong_19 ?_
        refine lv_iload C.1 C.2.1 dX4_goAlong_22 (lv_at hl 0 rfl) ?_
        refine va_iald (f := A 30) C.1 C.2.1 C.2.2.2.2.2.2.2.1 hP 21 0 (rfl) rfl (vp_in_nI (by omega) (by decide)) dX4_goAlong_24 ?_
        rw [nI_clamp (by omega)]
        refine va_iast (f := va_cpy (A 30) (A 8) 0 0 j) C.1 C.2.1 C.2.2.2.2.2.2.2.1 hP hD hS 5 0 (rfl) rfl (vp_in_nI (by omega) (by decide)) dX4_goAlong_25 (fun H locs hP hD hS => ?_)
        rw [nI_clamp (by omega), show upd (va_cpy (A 30) (A 8) 0 0 j) j (A 30 j) = va_cpy (A 30) (A 8) 0 0 (j + 1) by have h := cpy_u0 (A 30) (A 8) 0 j; rwa [Nat.zero_add] at h] at hP hD
        have hP : va_P D vwCl (mw ad cI cZ X I (va_up (va_up (va_up A 8 (va_cpy (A 30) (A 8) 0 0 (j + 1))) 9 (tA key (A 2) (A 30) (A 9) j)) 10 (tA val (A 3) (A 30) (A 10) j))) H := hP
        have hD : va_D (cm_A (mw ad cI cZ X I A)) (mw ad cI cZ X I (va_up (va_up (va_up A 8 (va_cpy (A 30) (A 8) 0 0 (j + 1))) 9 (tA key (A 2) (A 30) (A 9) j)) 10 (tA val (A 3) (A 30) (A 10) j))) := hD
        refine lv_aload_n C.1 C.2.1 dX4_goAlong_26 rfl (lv_at hl 1 rfl) ?_
        refine va_get (ci := 4) (C := RX4) (T := TX4) (N := 34) C.1 C.2.1 C.2.2.2.2.2.1 ui_X4 C.2.2.2.2.1 C.2.2.2.2.2.2.2.1 hP 0 (rfl) rfl 9 (by decide) (C.2.2.2.2.2.1 _ tw_465) (fun _ h9 => h9) rfl dX4_goAlong_27 ?_
        refine lv_iload C.1 C.2.1 dX4_goAlong_30 (lv_at hl 0 rfl) ?_
        refine lv_iload C.1 C.2.1 dX4_goAlong_32 (lv_at hl 0 rfl) ?_
        refine lv_if_ne (tgt := 41) C.1 C.2.1 dX4_goAlong_34 (by decide) (fun h => absurd (by rw [h0]; rfl) h) (fun _ => ?_)
        refine lv_iload_n C.1 C.2.1 dX4_goAlong_37 rfl (lv_at hl 2 rfl) ?_
        refine lv_goto (tgt := 55) C.1 C.2.1 dX4_goAlong_38 (by decide) ?_
        refine va_iast (f := tA key (A 2) (A 30) (A 9) j) C.1 C.2.1 C.2.2.2.2.2.2.2.1 hP hD hS 6 0 (rfl) rfl (vp_in_nI (by omega) (by decide)) dX4_goAlong_55 (fun H locs hP hD hS => ?_)
        rw [nI_clamp (by omega), show upd (tA key (A 2) (A 30) (A 9) j) j (key) = tA key (A 2) (A 30) (A 9) (j + 1) by have h := tA_s key (A 2) (A 30) (A 9) j; rwa [if_pos h0] at h] at hP hD
        have hP : va_P D vwCl (mw ad cI cZ X I (va_up (va_up (va_up A 8 (va_cpy (A 30) (A 8) 0 0 (j + 1))) 9 (tA key (A 2) (A 30) (A 9) (j + 1))) 10 (tA val (A 3) (A 30) (A 10) j))) H := hP
        have hD : va_D (cm_A (mw ad cI cZ X I A)) (mw ad cI cZ X I (va_up (va_up (va_up A 8 (va_cpy (A 30) (A 8) 0 0 (j + 1))) 9 (tA key (A 2) (A 30) (A 9) (j + 1))) 10 (tA val (A 3) (A 30) (A 10) j))) := hD
        refine lv_aload_n C.1 C.2.1 dX4_goAlong_56 rfl (lv_at hl 1 rfl) ?_
        refine va_get (ci := 4) (C := RX4) (T := TX4) (N := 34) C.1 C.2.1 C.2.2.2.2.2.1 ui_X4 C.2.2.2.2.1 C.2.2.2.2.2.2.2.1 hP 0 (rfl) rfl 10 (by decide) (C.2.2.2.2.2.1 _ tw_466) (fun _ h9 => h9) rfl dX4_goAlong_57 ?_
        refine lv_iload C.1 C.2.1 dX4_goAlong_60 (lv_at hl 0 rfl) ?_
        refine lv_iload C.1 C.2.1 dX4_goAlong_62 (lv_at hl 0 rfl) ?_
        refine lv_if_ne (tgt := 71) C.1 C.2.1 dX4_goAlong_64 (by decide) (fun h => absurd (by rw [h0]; rfl) h) (fun _ => ?_)
        refine lv_iload_n C.1 C.2.1 dX4_goAlong_67 rfl (lv_at hl 3 rfl) ?_
        refine lv_goto (tgt := 85) C.1 C.2.1 dX4_goAlong_68 (by decide) ?_
        refine va_iast (f := tA val (A 3) (A 30) (A 10) j) C.1 C.2.1 C.2.2.2.2.2.2.2.1 hP hD hS 7 0 (rfl) rfl (vp_in_nI (by omega) (by decide)) dX4_goAlong_85 (fun H locs hP hD hS => ?_)
        rw [nI_clamp (by omega), show upd (tA val (A 3) (A 30) (A 10) j) j (val) = tA val (A 3) (A 30) (A 10) (j + 1) by have h := tA_s val (A 3) (A 30) (A 10) j; rwa [if_pos h0] at h] at hP hD
        have hP : va_P D vwCl (mw ad cI cZ X I (goT key val (j + 1) A)) H := hP
        have hD : va_D (cm_A (mw ad cI cZ X I A)) (mw ad cI cZ X I (goT key val (j + 1) A)) := hD
        refine lv_iinc (v := nI (j + 1)) (lv' := [(4, _), (0, _), (1, _), (2, _), (3, _)]) C.1 C.2.1 dX4_goAlong_86 hl (k := 0) rfl (nI_1 j) (by decide) rfl (fun ls hl => ?_)
        refine lv_goto (tgt := 3) C.1 C.2.1 dX4_goAlong_89 (by decide) ?_
        exact ih (j + 1) (by omega) ls H locs hl hP hD hS
      · refine lv_iload C.1 C.2.1 dX4_goAlong_3 (lv_at hl 0 rfl) ?_
        refine lv_aload_n C.1 C.2.1 dX4_goAlong_5 rfl (lv_at hl 1 rfl) ?_
        refine va_get (ci := 4) (C := RX4) (T := TX4) (N := 34) C.1 C.2.1 C.2.2.2.2.2.1 ui_X4 C.2.2.2.2.1 C.2.2.2.2.2.2.2.1 hP 0 (rfl) rfl 29 (by decide) (C.2.2.2.2.2.1 _ tw_485) (fun _ h9 => h9) rfl dX4_goAlong_6 ?_
        rw [h29]
        refine lv_icmp_ge (tgt := 92) C.1 C.2.1 dX4_goAlong_9 (by decide) (fun h => absurd h (nI_ge (by omega) (by omega))) (fun _ => ?_)
        refine lv_aload_n C.1 C.2.1 dX4_goAlong_12 rfl (lv_at hl 1 rfl) ?_
        refine va_get (ci := 4) (C := RX4) (T := TX4) (N := 34) C.1 C.2.1 C.2.2.2.2.2.1 ui_X4 C.2.2.2.2.1 C.2.2.2.2.2.2.2.1 hP 0 (rfl) rfl 8 (by decide) (C.2.2.2.2.2.1 _ tw_464) (fun _ h9 => h9) rfl dX4_goAlong_13 ?_
        refine lv_iload C.1 C.2.1 dX4_goAlong_16 (lv_at hl 0 rfl) ?_
        refine lv_aload_n C.1 C.2.1 dX4_goAlong_18 rfl (lv_at hl 1 rfl) ?_
        refine va_get (ci := 4) (C := RX4) (T := TX4) (N := 34) C.1 C.2.1 C.2.2.2.2.2.1 ui_X4 C.2.2.2.2.1 C.2.2.2.2.2.2.2.1 hP 0 (rfl) rfl 30 (by decide) (C.2.2.2.2.2.1 _ tw_486) (fun _ h9 => h9) rfl dX4_goAlong_19 ?_
        refine lv_iload C.1 C.2.1 dX4_goAlong_22 (lv_at hl 0 rfl) ?_
        refine va_iald (f := A 30) C.1 C.2.1 C.2.2.2.2.2.2.2.1 hP 21 0 (rfl) rfl (vp_in_nI (by omega) (by decide)) dX4_goAlong_24 ?_
        rw [nI_clamp (by omega)]
        refine va_iast (f := va_cpy (A 30) (A 8) 0 0 j) C.1 C.2.1 C.2.2.2.2.2.2.2.1 hP hD hS 5 0 (rfl) rfl (vp_in_nI (by omega) (by decide)) dX4_goAlong_25 (fun H locs hP hD hS => ?_)
        rw [nI_clamp (by omega), show upd (va_cpy (A 30) (A 8) 0 0 j) j (A 30 j) = va_cpy (A 30) (A 8) 0 0 (j + 1) by have h := cpy_u0 (A 30) (A 8) 0 j; rwa [Nat.zero_add] at h] at hP hD
        have hP : va_P D vwCl (mw ad cI cZ X I (va_up (va_up (va_up A 8 (va_cpy (A 30) (A 8) 0 0 (j + 1))) 9 (tA key (A 2) (A 30) (A 9) j)) 10 (tA val (A 3) (A 30) (A 10) j))) H := hP
        have hD : va_D (cm_A (mw ad cI cZ X I A)) (mw ad cI cZ X I (va_up (va_up (va_up A 8 (va_cpy (A 30) (A 8) 0 0 (j + 1))) 9 (tA key (A 2) (A 30) (A 9) j)) 10 (tA val (A 3) (A 30) (A 10) j))) := hD
        refine lv_aload_n C.1 C.2.1 dX4_goAlong_26 rfl (lv_at hl 1 rfl) ?_
        refine va_get (ci := 4) (C := RX4) (T := TX4) (N := 34) C.1 C.2.1 C.2.2.2.2.2.1 ui_X4 C.2.2.2.2.1 C.2.2.2.2.2.2.2.1 hP 0 (rfl) rfl 9 (by decide) (C.2.2.2.2.2.1 _ tw_465) (fun _ h9 => h9) rfl dX4_goAlong_27 ?_
        refine lv_iload C.1 C.2.1 dX4_goAlong_30 (lv_at hl 0 rfl) ?_
        refine lv_iload C.1 C.2.1 dX4_goAlong_32 (lv_at hl 0 rfl) ?_
        refine lv_if_ne (tgt := 41) C.1 C.2.1 dX4_goAlong_34 (by decide) (fun _ => ?_) (fun h => absurd h (fun q => h0 ((nI_eq (a := j) (b := 0) (by omega) (by decide)).mp q)))
        refine lv_aload_n C.1 C.2.1 dX4_goAlong_41 rfl (lv_at hl 1 rfl) ?_
        refine va_get (ci := 4) (C := RX4) (T := TX4) (N := 34) C.1 C.2.1 C.2.2.2.2.2.1 ui_X4 C.2.2.2.2.1 C.2.2.2.2.2.2.2.1 hP 0 (rfl) rfl 2 (by decide) (C.2.2.2.2.2.1 _ tw_458) (fun _ h9 => h9) rfl dX4_goAlong_42 ?_
        refine lv_aload_n C.1 C.2.1 dX4_goAlong_45 rfl (lv_at hl 1 rfl) ?_
        refine va_get (ci := 4) (C := RX4) (T := TX4) (N := 34) C.1 C.2.1 C.2.2.2.2.2.1 ui_X4 C.2.2.2.2.1 C.2.2.2.2.2.2.2.1 hP 0 (rfl) rfl 30 (by decide) (C.2.2.2.2.2.1 _ tw_486) (fun _ h9 => h9) rfl dX4_goAlong_46 ?_
        refine lv_iload C.1 C.2.1 dX4_goAlong_49 (lv_at hl 0 rfl) ?_
        refine lv_iconst (v := nI 1) C.1 C.2.1 dX4_goAlong_51 (by decide +kernel) ?_
        refine lv_isub C.1 C.2.1 dX4_goAlong_52 ?_
        rw [pk_sub (by omega)]
        refine va_iald (f := A 30) C.1 C.2.1 C.2.2.2.2.2.2.2.1 hP 21 0 (rfl) rfl (vp_in_nI (by omega) (by decide)) dX4_goAlong_53 ?_
        rw [nI_clamp (by omega), (hpp (j - 1) (by omega)).1]
        refine va_iald (f := A 2) C.1 C.2.1 C.2.2.2.2.2.2.2.1 hP 2 0 (rfl) rfl (vp_in_nI (hpp (j - 1) (by omega)).2 (by decide)) dX4_goAlong_54 ?_
        rw [nI_clamp (by have := (hpp (j - 1) (by omega)).2; omega)]
        refine va_iast (f := tA key (A 2) (A 30) (A 9) j) C.1 C.2.1 C.2.2.2.2.2.2.2.1 hP hD hS 6 0 (rfl) rfl (vp_in_nI (by omega) (by decide)) dX4_goAlong_55 (fun H locs hP hD hS => ?_)
        rw [nI_clamp (by omega), show upd (tA key (A 2) (A 30) (A 9) j) j (A 2 (A 30 (j - 1)).toNatClampNeg) = tA key (A 2) (A 30) (A 9) (j + 1) by have h := tA_s key (A 2) (A 30) (A 9) j; rwa [if_neg h0] at h] at hP hD
        have hP : va_P D vwCl (mw ad cI cZ X I (va_up (va_up (va_up A 8 (va_cpy (A 30) (A 8) 0 0 (j + 1))) 9 (tA key (A 2) (A 30) (A 9) (j + 1))) 10 (tA val (A 3) (A 30) (A 10) j))) H := hP
        have hD : va_D (cm_A (mw ad cI cZ X I A)) (mw ad cI cZ X I (va_up (va_up (va_up A 8 (va_cpy (A 30) (A 8) 0 0 (j + 1))) 9 (tA key (A 2) (A 30) (A 9) (j + 1))) 10 (tA val (A 3) (A 30) (A 10) j))) := hD
        refine lv_aload_n C.1 C.2.1 dX4_goAlong_56 rfl (lv_at hl 1 rfl) ?_
        refine va_get (ci := 4) (C := RX4) (T := TX4) (N := 34) C.1 C.2.1 C.2.2.2.2.2.1 ui_X4 C.2.2.2.2.1 C.2.2.2.2.2.2.2.1 hP 0 (rfl) rfl 10 (by decide) (C.2.2.2.2.2.1 _ tw_466) (fun _ h9 => h9) rfl dX4_goAlong_57 ?_
        refine lv_iload C.1 C.2.1 dX4_goAlong_60 (lv_at hl 0 rfl) ?_
        refine lv_iload C.1 C.2.1 dX4_goAlong_62 (lv_at hl 0 rfl) ?_
        refine lv_if_ne (tgt := 71) C.1 C.2.1 dX4_goAlong_64 (by decide) (fun _ => ?_) (fun h => absurd h (fun q => h0 ((nI_eq (a := j) (b := 0) (by omega) (by decide)).mp q)))
        refine lv_aload_n C.1 C.2.1 dX4_goAlong_71 rfl (lv_at hl 1 rfl) ?_
        refine va_get (ci := 4) (C := RX4) (T := TX4) (N := 34) C.1 C.2.1 C.2.2.2.2.2.1 ui_X4 C.2.2.2.2.1 C.2.2.2.2.2.2.2.1 hP 0 (rfl) rfl 3 (by decide) (C.2.2.2.2.2.1 _ tw_459) (fun _ h9 => h9) rfl dX4_goAlong_72 ?_
        refine lv_aload_n C.1 C.2.1 dX4_goAlong_75 rfl (lv_at hl 1 rfl) ?_
        refine va_get (ci := 4) (C := RX4) (T := TX4) (N := 34) C.1 C.2.1 C.2.2.2.2.2.1 ui_X4 C.2.2.2.2.1 C.2.2.2.2.2.2.2.1 hP 0 (rfl) rfl 30 (by decide) (C.2.2.2.2.2.1 _ tw_486) (fun _ h9 => h9) rfl dX4_goAlong_76 ?_
        refine lv_iload C.1 C.2.1 dX4_goAlong_79 (lv_at hl 0 rfl) ?_
        refine lv_iconst (v := nI 1) C.1 C.2.1 dX4_goAlong_81 (by decide +kernel) ?_
        refine lv_isub C.1 C.2.1 dX4_goAlong_82 ?_
        rw [pk_sub (by omega)]
        refine va_iald (f := A 30) C.1 C.2.1 C.2.2.2.2.2.2.2.1 hP 21 0 (rfl) rfl (vp_in_nI (by omega) (by decide)) dX4_goAlong_83 ?_
        rw [nI_clamp (by omega), (hpp (j - 1) (by omega)).1]
        refine va_iald (f := A 3) C.1 C.2.1 C.2.2.2.2.2.2.2.1 hP 3 0 (rfl) rfl (vp_in_nI (hpp (j - 1) (by omega)).2 (by decide)) dX4_goAlong_84 ?_
        rw [nI_clamp (by have := (hpp (j - 1) (by omega)).2; omega)]
        refine va_iast (f := tA val (A 3) (A 30) (A 10) j) C.1 C.2.1 C.2.2.2.2.2.2.2.1 hP hD hS 7 0 (rfl) rfl (vp_in_nI (by omega) (by decide)) dX4_goAlong_85 (fun H locs hP hD hS => ?_)
        rw [nI_clamp (by omega), show upd (tA val (A 3) (A 30) (A 10) j) j (A 3 (A 30 (j - 1)).toNatClampNeg) = tA val (A 3) (A 30) (A 10) (j + 1) by have h := tA_s val (A 3) (A 30) (A 10) j; rwa [if_neg h0] at h] at hP hD
        have hP : va_P D vwCl (mw ad cI cZ X I (goT key val (j + 1) A)) H := hP
        have hD : va_D (cm_A (mw ad cI cZ X I A)) (mw ad cI cZ X I (goT key val (j + 1) A)) := hD
        refine lv_iinc (v := nI (j + 1)) (lv' := [(4, _), (0, _), (1, _), (2, _), (3, _)]) C.1 C.2.1 dX4_goAlong_86 hl (k := 0) rfl (nI_1 j) (by decide) rfl (fun ls hl => ?_)
        refine lv_goto (tgt := 3) C.1 C.2.1 dX4_goAlong_89 (by decide) ?_
        exact ih (j + 1) (by omega) ls H locs hl hP hD hS
  exact loop L.length 0 (Nat.zero_add _) ls H locs hl (by rw [goT_0]; exact hP) (by rw [goT_0]; exact hD) hS
set_option maxHeartbeats 4000000 in
set_option maxRecDepth 100000 in
/-- goAlong -/
theorem k_X4_goAlong1 (l : Launch) (D : va_G) (cI cZ cJ : ClassId) (ad : Nat → Nat) (X : va_W) (I : Nat → Int32) (A : Nat → Nat → Int32) (w : Nat) (hw0 : w < 2) (L : List Nat) (hL : ∀ q ∈ L, q < 36) (hL7 : L.length ≤ 7) (h29 : I 29 = nI L.length) (hps : ∀ (i q : Nat), L[i]? = some q → A 30 i = nI (36 * w + q)) (key val : Int32) (t : Nat) (hok : okW t (I, A)) : CM l D (cm_T cI cZ cJ) yX4_goAlong cX4_goAlong 5 none (cm_rm 5 115) [.ref (ad 0), .int key, .int val, .int (nI 1)] (mw ad cI cZ X I A) none (mw ad cI cZ X (goW key val L.length (absM w (mvS (kM A w) (vM A w) key val L)) t (I, A)).1 (goW key val L.length (absM w (mvS (kM A w) (vM A w) key val L)) t (I, A)).2) := by
  refine CM.of (by decide) (Nat.le_of_ble_eq_true rfl) ?_
  intro p e s m below meth c ls H locs C hl hP hD hS
  have hpp : ∀ i, i < L.length → A 30 i = nI (A 30 i).toNatClampNeg ∧ (A 30 i).toNatClampNeg < 108 := fun i hi => by
    have hq := hps i _ (List.getElem?_eq_getElem hi)
    have hlt := hL _ (List.getElem_mem (l := L) hi)
    rw [hq, nI_clamp (by omega)]
    exact ⟨rfl, by omega⟩
  refine lv_iconst (v := nI 0) C.1 C.2.1 dX4_goAlong_0 (by decide +kernel) ?_
  refine lv_istore (lv' := [(4, _), (0, _), (1, _), (2, _), (3, _)]) C.1 C.2.1 dX4_goAlong_1 hl (by decide) rfl (fun ls hl => ?_)
  have hen := goT_enc (w := w) (by omega) (key := key) (val := val) hL hps
  have hlen : (absM w (mvS (kM A w) (vM A w) key val L)).length = L.length := by rw [absM, List.length_map, mvS_len]
  have hM72 : ∀ m ∈ (absM w (mvS (kM A w) (vM A w) key val L)), m.1 < 72 := fun m9 hm9 => by
    obtain ⟨m0, h0, rfl⟩ := List.mem_map.mp hm9
    have := hL _ (mvS_mem _ _ _ _ _ m0 h0)
    dsimp only
    omega
  generalize hM9 : (absM w (mvS (kM A w) (vM A w) key val L)) = M9 at hen hlen hM72 ⊢
  have hcont : ∀ (ls : Array Slot) (H : Heap) (locs : List Loc), lv_has ls 5 [(4, .int (nI L.length)), (0, .ref (ad 0)), (1, .int key), (2, .int val), (3, .int (nI 1))] → va_P D vwCl (mw ad cI cZ X I (goT key val L.length A)) H → va_D (cm_A (mw ad cI cZ X I A)) (mw ad cI cZ X I (goT key val L.length A)) → va_S (cm_A (mw ad cI cZ X I A)) s.heap H locs → W p l e (cm_rm 5 115) s m ([.ref (ad 0), .int key, .int val, .int (nI 1)] : List Value).toArray below meth c H locs 0 0 (cm_Q below D [.ref (ad 0), .int key, .int val, .int (nI 1)] s (mw ad cI cZ X I A) none (mw ad cI cZ X (goW key val L.length M9 t (I, A)).1 (goW key val L.length M9 t (I, A)).2)) (F0 m 92 ls []) := by
    intro ls H locs hl hP hD hS
    refine lv_aload_n C.1 C.2.1 dX4_goAlong_92 rfl (lv_at hl 1 rfl) ?_
    refine lv_aload_n C.1 C.2.1 dX4_goAlong_93 rfl (lv_at hl 1 rfl) ?_
    refine va_get (ci := 4) (C := RX4) (T := TX4) (N := 34) C.1 C.2.1 C.2.2.2.2.2.1 ui_X4 C.2.2.2.2.1 C.2.2.2.2.2.2.2.1 hP 0 (rfl) rfl 29 (by decide) (C.2.2.2.2.2.1 _ tw_485) (fun _ h9 => h9) rfl dX4_goAlong_94 ?_
    rw [h29]
    refine va_put (ci := 4) (C := RX4) (T := TX4) (N := 34) (ty := .int) C.1 C.2.1 C.2.2.2.2.2.1 ui_X4 tyX4 tyX4_ok nmX4 C.2.2.2.2.1 C.2.2.2.2.2.2.2.1 hP hD hS 0 (rfl) rfl 7 (by decide) (C.2.2.2.2.2.1 _ tw_463) (fun _ h9 => h9) rfl (by decide +kernel) rfl rfl (Nat.le_of_ble_eq_true rfl) dX4_goAlong_97 (fun H locs hP hD hS => ?_)
    have hP : va_P D vwCl (mw ad cI cZ X (va_up I 7 (nI L.length)) (goT key val L.length A)) H := hP
    have hD : va_D (cm_A (mw ad cI cZ X I A)) (mw ad cI cZ X (va_up I 7 (nI L.length)) (goT key val L.length A)) := hD
    refine lv_iload_n C.1 C.2.1 dX4_goAlong_100 rfl (lv_at hl 4 rfl) ?_
    refine lv_if_eq (tgt := 116) C.1 C.2.1 dX4_goAlong_101 (by decide) (fun h => absurd h (by decide)) (fun _ => ?_)
    refine lv_aload_n C.1 C.2.1 dX4_goAlong_104 rfl (lv_at hl 1 rfl) ?_
    refine lv_aload_n C.1 C.2.1 dX4_goAlong_105 rfl (lv_at hl 1 rfl) ?_
    refine va_get (v := .int (I 29)) (ci := 4) (C := RX4) (T := TX4) (N := 34) C.1 C.2.1 C.2.2.2.2.2.1 ui_X4 C.2.2.2.2.1 C.2.2.2.2.2.2.2.1 hP 0 (rfl) rfl 29 (by decide) (C.2.2.2.2.2.1 _ tw_485) (fun _ h9 => h9) rfl dX4_goAlong_106 ?_
    rw [h29]
    refine va_put (ci := 4) (C := RX4) (T := TX4) (N := 34) (ty := .int) C.1 C.2.1 C.2.2.2.2.2.1 ui_X4 tyX4 tyX4_ok nmX4 C.2.2.2.2.1 C.2.2.2.2.2.2.2.1 hP hD hS 0 (rfl) rfl 31 (by decide) (C.2.2.2.2.2.1 _ tw_487) (fun _ h9 => h9) rfl (by decide +kernel) rfl rfl (Nat.le_of_ble_eq_true rfl) dX4_goAlong_109 (fun H locs hP hD hS => ?_)
    have hP : va_P D vwCl (mw ad cI cZ X (va_up (va_up I 7 (nI L.length)) 31 (nI L.length)) (goT key val L.length A)) H := hP
    have hD : va_D (cm_A (mw ad cI cZ X I A)) (mw ad cI cZ X (va_up (va_up I 7 (nI L.length)) 31 (nI L.length)) (goT key val L.length A)) := hD
    refine lv_aload_n C.1 C.2.1 dX4_goAlong_112 rfl (lv_at hl 1 rfl) ?_
    refine cm_cV0 (q0 := 0) 0 C (k_X4_writeJournal l D cI cZ cJ ad X (va_up (va_up I 7 (nI L.length)) 31 (nI L.length)) (goT key val L.length A) t hok.1 hok.2.1 hok.2.2 L.length hL7 rfl) tw_628 tw_630 ts_24 tw_5 tw_631 rfl rfl (rfl) rfl (by decide +kernel) ⟨Nat.le_of_ble_eq_true rfl, Nat.le_of_ble_eq_true rfl⟩ ⟨Nat.zero_le _, Nat.zero_le _⟩ hP hD hS hl.1 rfl rfl (Nat.le_of_ble_eq_true rfl) dX4_goAlong_113 (fun H locs hP hD hS => ?_)
    refine lv_aload_n C.1 C.2.1 dX4_goAlong_116 rfl (lv_at hl 1 rfl) ?_
    refine va_get (v := .int ((wJn L.length t ((va_up (va_up I 7 (nI L.length)) 31 (nI L.length)), (goT key val L.length A))).1 29)) (ci := 4) (C := RX4) (T := TX4) (N := 34) C.1 C.2.1 C.2.2.2.2.2.1 ui_X4 C.2.2.2.2.1 C.2.2.2.2.2.2.2.1 hP 0 (rfl) rfl 29 (by decide) (C.2.2.2.2.2.1 _ tw_485) (fun _ h9 => h9) rfl dX4_goAlong_117 ?_
    rw [show (wJn L.length t ((va_up (va_up I 7 (nI L.length)) 31 (nI L.length)), (goT key val L.length A))).1 29 = nI L.length from (wJn_I 29 (by decide)).trans h29]
    refine lv_iconst (v := nI 1) C.1 C.2.1 dX4_goAlong_120 (by decide +kernel) ?_
    refine lv_isub C.1 C.2.1 dX4_goAlong_121 ?_
    refine lv_istore (lv' := [(4, _), (0, _), (1, _), (2, _), (3, _)]) C.1 C.2.1 dX4_goAlong_122 hl (by decide) rfl (fun ls hl => ?_)
    have hok2 : okW (t0 t + 1) (wJn L.length t ((va_up (va_up I 7 (nI L.length)) 31 (nI L.length)), (goT key val L.length A))) := wJn_ok (st := ((va_up (va_up I 7 (nI L.length)) 31 (nI L.length)), (goT key val L.length A))) ⟨hok.1, hok.2.1, hok.2.2⟩ hL7
    have down : ∀ (k u : Nat) (J : Nat → Int32) (C9 : Nat → Nat → Int32), k ≤ L.length → okW u (J, C9) → C9 8 = (goT key val L.length A) 8 → C9 9 = (goT key val L.length A) 9 → C9 10 = (goT key val L.length A) 10 → flW (M9.take k) (u, (J, C9)) = flW M9 (t0 t + 1, (wJn L.length t ((va_up (va_up I 7 (nI L.length)) 31 (nI L.length)), (goT key val L.length A)))) → ∀ (ls : Array Slot) (H : Heap) (locs : List Loc), lv_has ls 5 [(4, .int (nI k - nI 1)), (0, .ref (ad 0)), (1, .int key), (2, .int val), (3, .int (nI 1))] → va_P D vwCl (mw ad cI cZ X J C9) H → va_D (cm_A (mw ad cI cZ X I A)) (mw ad cI cZ X J C9) → va_S (cm_A (mw ad cI cZ X I A)) s.heap H locs → W p l e (cm_rm 5 115) s m ([.ref (ad 0), .int key, .int val, .int (nI 1)] : List Value).toArray below meth c H locs 0 0 (cm_Q below D [.ref (ad 0), .int key, .int val, .int (nI 1)] s (mw ad cI cZ X I A) none (mw ad cI cZ X (goW key val L.length M9 t (I, A)).1 (goW key val L.length M9 t (I, A)).2)) (F0 m 124 ls []) := by
      intro k
      induction k with
      | zero =>
        intro u J C9 hk hu h8 h9 h10 hf ls H locs hl hP hD hS
        refine lv_iload C.1 C.2.1 dX4_goAlong_124 (lv_at hl 0 rfl) ?_
        refine lv_if_lt (tgt := 161) C.1 C.2.1 dX4_goAlong_126 (by decide) (fun _ => ?_) (fun h => absurd (by decide) h)
        refine lv_aload_n C.1 C.2.1 dX4_goAlong_161 rfl (lv_at hl 1 rfl) ?_
        refine lv_iconst (v := nI 0) C.1 C.2.1 dX4_goAlong_162 (by decide +kernel) ?_
        refine va_put (ci := 4) (C := RX4) (T := TX4) (N := 34) (ty := .int) C.1 C.2.1 C.2.2.2.2.2.1 ui_X4 tyX4 tyX4_ok nmX4 C.2.2.2.2.1 C.2.2.2.2.2.2.2.1 hP hD hS 0 (rfl) rfl 7 (by decide) (C.2.2.2.2.2.1 _ tw_463) (fun _ h9 => h9) rfl (by decide +kernel) rfl rfl (Nat.le_of_ble_eq_true rfl) dX4_goAlong_163 (fun H locs hP hD hS => ?_)
        have hP : va_P D vwCl (mw ad cI cZ X (va_up J 7 (nI 0)) C9) H := hP
        have hD : va_D (cm_A (mw ad cI cZ X I A)) (mw ad cI cZ X (va_up J 7 (nI 0)) C9) := hD
        refine lv_iload_n C.1 C.2.1 dX4_goAlong_166 rfl (lv_at hl 4 rfl) ?_
        refine lv_if_eq (tgt := 174) C.1 C.2.1 dX4_goAlong_167 (by decide) (fun h => absurd h (by decide)) (fun _ => ?_)
        refine lv_aload_n C.1 C.2.1 dX4_goAlong_170 rfl (lv_at hl 1 rfl) ?_
        refine cm_cV0 (q0 := 0) 0 C (k_X4_writeJournal l D cI cZ cJ ad X (va_up J 7 (nI 0)) C9 u hu.1 hu.2.1 hu.2.2 0 (by decide) rfl) tw_628 tw_630 ts_24 tw_5 tw_631 rfl rfl (rfl) rfl (by decide +kernel) ⟨Nat.le_of_ble_eq_true rfl, Nat.le_of_ble_eq_true rfl⟩ ⟨Nat.zero_le _, Nat.zero_le _⟩ hP hD hS hl.1 rfl rfl (Nat.le_of_ble_eq_true rfl) dX4_goAlong_171 (fun H locs hP hD hS => ?_)
        have hf : (u, (J, C9)) = flW M9 (t0 t + 1, (wJn L.length t ((va_up (va_up I 7 (nI L.length)) 31 (nI L.length)), (goT key val L.length A)))) := hf
        exact cm_vret C hP hD hS dX4_goAlong_174 (by unfold goW; rw [← hf])
      | succ k ih =>
        intro u J C9 hk hu h8 h9 h10 hf ls H locs hl hP hD hS
        have hmk : M9[k]? = some (M9[k]'(by omega)) := List.getElem?_eq_getElem (by omega)
        have hmm := hM72 _ (List.getElem_mem (l := M9) (n := k) (by omega))
        generalize M9[k]'(by omega) = m9 at hmk hmm
        obtain ⟨m1, m2, m3⟩ := hen k m9 hmk
        rw [pk_sub (by omega), Nat.add_sub_cancel] at hl
        have htk : M9.take (k + 1) = M9.take k ++ [m9] := by rw [List.take_add_one, hmk]; rfl
        refine lv_iload C.1 C.2.1 dX4_goAlong_124 (lv_at hl 0 rfl) ?_
        refine lv_if_lt (tgt := 161) C.1 C.2.1 dX4_goAlong_126 (by decide) (fun h => absurd h (nI_pos (by omega))) (fun _ => ?_)
        refine lv_aload_n C.1 C.2.1 dX4_goAlong_129 rfl (lv_at hl 1 rfl) ?_
        refine lv_aload_n C.1 C.2.1 dX4_goAlong_130 rfl (lv_at hl 1 rfl) ?_
        refine va_get (ci := 4) (C := RX4) (T := TX4) (N := 34) C.1 C.2.1 C.2.2.2.2.2.1 ui_X4 C.2.2.2.2.1 C.2.2.2.2.2.2.2.1 hP 0 (rfl) rfl 8 (by decide) (C.2.2.2.2.2.1 _ tw_464) (fun _ h9 => h9) rfl dX4_goAlong_131 ?_
        refine lv_iload C.1 C.2.1 dX4_goAlong_134 (lv_at hl 0 rfl) ?_
        refine va_iald (f := C9 8) C.1 C.2.1 C.2.2.2.2.2.2.2.1 hP 5 0 (rfl) rfl (vp_in_nI (by omega) (by decide)) dX4_goAlong_136 ?_
        rw [nI_clamp (by omega), h8, m1]
        refine lv_aload_n C.1 C.2.1 dX4_goAlong_137 rfl (lv_at hl 1 rfl) ?_
        refine va_get (ci := 4) (C := RX4) (T := TX4) (N := 34) C.1 C.2.1 C.2.2.2.2.2.1 ui_X4 C.2.2.2.2.1 C.2.2.2.2.2.2.2.1 hP 0 (rfl) rfl 9 (by decide) (C.2.2.2.2.2.1 _ tw_465) (fun _ h9 => h9) rfl dX4_goAlong_138 ?_
        refine lv_iload C.1 C.2.1 dX4_goAlong_141 (lv_at hl 0 rfl) ?_
        refine va_iald (f := C9 9) C.1 C.2.1 C.2.2.2.2.2.2.2.1 hP 6 0 (rfl) rfl (vp_in_nI (by omega) (by decide)) dX4_goAlong_143 ?_
        rw [nI_clamp (by omega), h9, m2]
        refine lv_aload_n C.1 C.2.1 dX4_goAlong_144 rfl (lv_at hl 1 rfl) ?_
        refine va_get (ci := 4) (C := RX4) (T := TX4) (N := 34) C.1 C.2.1 C.2.2.2.2.2.1 ui_X4 C.2.2.2.2.1 C.2.2.2.2.2.2.2.1 hP 0 (rfl) rfl 10 (by decide) (C.2.2.2.2.2.1 _ tw_466) (fun _ h9 => h9) rfl dX4_goAlong_145 ?_
        refine lv_iload C.1 C.2.1 dX4_goAlong_148 (lv_at hl 0 rfl) ?_
        refine va_iald (f := C9 10) C.1 C.2.1 C.2.2.2.2.2.2.2.1 hP 7 0 (rfl) rfl (vp_in_nI (by omega) (by decide)) dX4_goAlong_150 ?_
        rw [nI_clamp (by omega), h10, m3]
        refine lv_iload_n C.1 C.2.1 dX4_goAlong_151 rfl (lv_at hl 4 rfl) ?_
        refine cm_cV0 (q0 := 0) 4 C (k_X4_fill1 l D cI cZ cJ ad X J C9 u hu.1 hu.2.1 hu.2.2 m9.1 hmm m9.2.1 m9.2.2) tw_588 tw_590 ts_14 tw_5 tw_591 rfl rfl (rfl) rfl (by decide +kernel) ⟨Nat.le_of_ble_eq_true rfl, Nat.le_of_ble_eq_true rfl⟩ ⟨Nat.zero_le _, Nat.zero_le _⟩ hP hD hS hl.1 rfl rfl (Nat.le_of_ble_eq_true rfl) dX4_goAlong_152 (fun H locs hP hD hS => ?_)
        refine lv_iinc (v := (nI k - nI 1)) (lv' := [(4, _), (0, _), (1, _), (2, _), (3, _)]) C.1 C.2.1 dX4_goAlong_155 hl (k := 0) rfl (m1_sub (nI k)) (by decide) rfl (fun ls hl => ?_)
        refine lv_goto (tgt := 124) C.1 C.2.1 dX4_goAlong_158 (by decide) ?_
        exact ih (t0 u + 1) (wPg (m9.1 / 4) u (J, (flA m9.1 m9.2.1 m9.2.2 C9))).1 (wPg (m9.1 / 4) u (J, (flA m9.1 m9.2.1 m9.2.2 C9))).2 (by omega) (wPg_ok (st := (J, (flA m9.1 m9.2.1 m9.2.2 C9))) ⟨hu.1, hu.2.1, hu.2.2⟩ (by omega)) ((wPg_A 8 (by simp)).trans h8) ((wPg_A 9 (by simp)).trans h9) ((wPg_A 10 (by simp)).trans h10) (by rw [← hf, htk, flW_app]; rfl) ls H locs hl hP hD hS
    exact down L.length (t0 t + 1) (wJn L.length t ((va_up (va_up I 7 (nI L.length)) 31 (nI L.length)), (goT key val L.length A))).1 (wJn L.length t ((va_up (va_up I 7 (nI L.length)) 31 (nI L.length)), (goT key val L.length A))).2 (Nat.le_refl _) hok2 (wJn_A 8 (by simp)) (wJn_A 9 (by simp)) (wJn_A 10 (by simp)) (by rw [← hlen, List.take_length]) ls H locs hl hP hD hS
  have loop : ∀ (k j : Nat), j + k = L.length → ∀ (ls : Array Slot) (H : Heap) (locs : List Loc), lv_has ls 5 [(4, .int (nI j)), (0, .ref (ad 0)), (1, .int key), (2, .int val), (3, .int (nI 1))] → va_P D vwCl (mw ad cI cZ X I (goT key val j A)) H → va_D (cm_A (mw ad cI cZ X I A)) (mw ad cI cZ X I (goT key val j A)) → va_S (cm_A (mw ad cI cZ X I A)) s.heap H locs → W p l e (cm_rm 5 115) s m ([.ref (ad 0), .int key, .int val, .int (nI 1)] : List Value).toArray below meth c H locs 0 0 (cm_Q below D [.ref (ad 0), .int key, .int val, .int (nI 1)] s (mw ad cI cZ X I A) none (mw ad cI cZ X (goW key val L.length M9 t (I, A)).1 (goW key val L.length M9 t (I, A)).2)) (F0 m 3 ls []) := by
    intro k
    induction k with
    | zero =>
      intro j hj ls H locs hl hP hD hS
      refine lv_iload C.1 C.2.1 dX4_goAlong_3 (lv_at hl 0 rfl) ?_
      refine lv_aload_n C.1 C.2.1 dX4_goAlong_5 rfl (lv_at hl 1 rfl) ?_
      refine va_get (ci := 4) (C := RX4) (T := TX4) (N := 34) C.1 C.2.1 C.2.2.2.2.2.1 ui_X4 C.2.2.2.2.1 C.2.2.2.2.2.2.2.1 hP 0 (rfl) rfl 29 (by decide) (C.2.2.2.2.2.1 _ tw_485) (fun _ h9 => h9) rfl dX4_goAlong_6 ?_
      rw [h29]
      refine lv_icmp_ge (tgt := 92) C.1 C.2.1 dX4_goAlong_9 (by decide) (fun _ => ?_) (fun h => absurd (nI_le (by omega) (by omega)) h)
      obtain rfl : j = L.length := by omega
      exact hcont ls H locs hl hP hD hS
    | succ k ih =>
      intro j hj ls H locs hl hP hD hS
      by_cases h0 : j = 0
      · refine lv_iload C.1 C.2.1 dX4_goAlong_3 (lv_at hl 0 rfl) ?_
        refine lv_aload_n C.1 C.2.1 dX4_goAlong_5 rfl (lv_at hl 1 rfl) ?_
        refine va_get (ci := 4) (C := RX4) (T := TX4) (N := 34) C.1 C.2.1 C.2.2.2.2.2.1 ui_X4 C.2.2.2.2.1 C.2.2.2.2.2.2.2.1 hP 0 (rfl) rfl 29 (by decide) (C.2.2.2.2.2.1 _ tw_485) (fun _ h9 => h9) rfl dX4_goAlong_6 ?_
        rw [h29]
        refine lv_icmp_ge (tgt := 92) C.1 C.2.1 dX4_goAlong_9 (by decide) (fun h => absurd h (nI_ge (by omega) (by omega))) (fun _ => ?_)
        refine lv_aload_n C.1 C.2.1 dX4_goAlong_12 rfl (lv_at hl 1 rfl) ?_
        refine va_get (ci := 4) (C := RX4) (T := TX4) (N := 34) C.1 C.2.1 C.2.2.2.2.2.1 ui_X4 C.2.2.2.2.1 C.2.2.2.2.2.2.2.1 hP 0 (rfl) rfl 8 (by decide) (C.2.2.2.2.2.1 _ tw_464) (fun _ h9 => h9) rfl dX4_goAlong_13 ?_
        refine lv_iload C.1 C.2.1 dX4_goAlong_16 (lv_at hl 0 rfl) ?_
        refine lv_aload_n C.1 C.2.1 dX4_goAlong_18 rfl (lv_at hl 1 rfl) ?_
        refine va_get (ci := 4) (C := RX4) (T := TX4) (N := 34) C.1 C.2.1 C.2.2.2.2.2.1 ui_X4 C.2.2.2.2.1 C.2.2.2.2.2.2.2.1 hP 0 (rfl) rfl 30 (by decide) (C.2.2.2.2.2.1 _ tw_486) (fun _ h9 => h9) rfl dX4_goAlong_19 ?_
        refine lv_iload C.1 C.2.1 dX4_goAlong_22 (lv_at hl 0 rfl) ?_
        refine va_iald (f := A 30) C.1 C.2.1 C.2.2.2.2.2.2.2.1 hP 21 0 (rfl) rfl (vp_in_nI (by omega) (by decide)) dX4_goAlong_24 ?_
        rw [nI_clamp (by omega)]
        refine va_iast (f := va_cpy (A 30) (A 8) 0 0 j) C.1 C.2.1 C.2.2.2.2.2.2.2.1 hP hD hS 5 0 (rfl) rfl (vp_in_nI (by omega) (by decide)) dX4_goAlong_25 (fun H locs hP hD hS => ?_)
        rw [nI_clamp (by omega), show upd (va_cpy (A 30) (A 8) 0 0 j) j (A 30 j) = va_cpy (A 30) (A 8) 0 0 (j + 1) by have h := cpy_u0 (A 30) (A 8) 0 j; rwa [Nat.zero_add] at h] at hP hD
        have hP : va_P D vwCl (mw ad cI cZ X I (va_up (va_up (va_up A 8 (va_cpy (A 30) (A 8) 0 0 (j + 1))) 9 (tA key (A 2) (A 30) (A 9) j)) 10 (tA val (A 3) (A 30) (A 10) j))) H := hP
        have hD : va_D (cm_A (mw ad cI cZ X I A)) (mw ad cI cZ X I (va_up (va_up (va_up A 8 (va_cpy (A 30) (A 8) 0 0 (j + 1))) 9 (tA key (A 2) (A 30) (A 9) j)) 10 (tA val (A 3) (A 30) (A 10) j))) := hD
        refine lv_aload_n C.1 C.2.1 dX4_goAlong_26 rfl (lv_at hl 1 rfl) ?_
        refine va_get (ci := 4) (C := RX4) (T := TX4) (N := 34) C.1 C.2.1 C.2.2.2.2.2.1 ui_X4 C.2.2.2.2.1 C.2.2.2.2.2.2.2.1 hP 0 (rfl) rfl 9 (by decide) (C.2.2.2.2.2.1 _ tw_465) (fun _ h9 => h9) rfl dX4_goAlong_27 ?_
        refine lv_iload C.1 C.2.1 dX4_goAlong_30 (lv_at hl 0 rfl) ?_
        refine lv_iload C.1 C.2.1 dX4_goAlong_32 (lv_at hl 0 rfl) ?_
        refine lv_if_ne (tgt := 41) C.1 C.2.1 dX4_goAlong_34 (by decide) (fun h => absurd (by rw [h0]; rfl) h) (fun _ => ?_)
        refine lv_iload_n C.1 C.2.1 dX4_goAlong_37 rfl (lv_at hl 2 rfl) ?_
        refine lv_goto (tgt := 55) C.1 C.2.1 dX4_goAlong_38 (by decide) ?_
        refine va_iast (f := tA key (A 2) (A 30) (A 9) j) C.1 C.2.1 C.2.2.2.2.2.2.2.1 hP hD hS 6 0 (rfl) rfl (vp_in_nI (by omega) (by decide)) dX4_goAlong_55 (fun H locs hP hD hS => ?_)
        rw [nI_clamp (by omega), show upd (tA key (A 2) (A 30) (A 9) j) j (key) = tA key (A 2) (A 30) (A 9) (j + 1) by have h := tA_s key (A 2) (A 30) (A 9) j; rwa [if_pos h0] at h] at hP hD
        have hP : va_P D vwCl (mw ad cI cZ X I (va_up (va_up (va_up A 8 (va_cpy (A 30) (A 8) 0 0 (j + 1))) 9 (tA key (A 2) (A 30) (A 9) (j + 1))) 10 (tA val (A 3) (A 30) (A 10) j))) H := hP
        have hD : va_D (cm_A (mw ad cI cZ X I A)) (mw ad cI cZ X I (va_up (va_up (va_up A 8 (va_cpy (A 30) (A 8) 0 0 (j + 1))) 9 (tA key (A 2) (A 30) (A 9) (j + 1))) 10 (tA val (A 3) (A 30) (A 10) j))) := hD
        refine lv_aload_n C.1 C.2.1 dX4_goAlong_56 rfl (lv_at hl 1 rfl) ?_
        refine va_get (ci := 4) (C := RX4) (T := TX4) (N := 34) C.1 C.2.1 C.2.2.2.2.2.1 ui_X4 C.2.2.2.2.1 C.2.2.2.2.2.2.2.1 hP 0 (rfl) rfl 10 (by decide) (C.2.2.2.2.2.1 _ tw_466) (fun _ h9 => h9) rfl dX4_goAlong_57 ?_
        refine lv_iload C.1 C.2.1 dX4_goAlong_60 (lv_at hl 0 rfl) ?_
        refine lv_iload C.1 C.2.1 dX4_goAlong_62 (lv_at hl 0 rfl) ?_
        refine lv_if_ne (tgt := 71) C.1 C.2.1 dX4_goAlong_64 (by decide) (fun h => absurd (by rw [h0]; rfl) h) (fun _ => ?_)
        refine lv_iload_n C.1 C.2.1 dX4_goAlong_67 rfl (lv_at hl 3 rfl) ?_
        refine lv_goto (tgt := 85) C.1 C.2.1 dX4_goAlong_68 (by decide) ?_
        refine va_iast (f := tA val (A 3) (A 30) (A 10) j) C.1 C.2.1 C.2.2.2.2.2.2.2.1 hP hD hS 7 0 (rfl) rfl (vp_in_nI (by omega) (by decide)) dX4_goAlong_85 (fun H locs hP hD hS => ?_)
        rw [nI_clamp (by omega), show upd (tA val (A 3) (A 30) (A 10) j) j (val) = tA val (A 3) (A 30) (A 10) (j + 1) by have h := tA_s val (A 3) (A 30) (A 10) j; rwa [if_pos h0] at h] at hP hD
        have hP : va_P D vwCl (mw ad cI cZ X I (goT key val (j + 1) A)) H := hP
        have hD : va_D (cm_A (mw ad cI cZ X I A)) (mw ad cI cZ X I (goT key val (j + 1) A)) := hD
        refine lv_iinc (v := nI (j + 1)) (lv' := [(4, _), (0, _), (1, _), (2, _), (3, _)]) C.1 C.2.1 dX4_goAlong_86 hl (k := 0) rfl (nI_1 j) (by decide) rfl (fun ls hl => ?_)
        refine lv_goto (tgt := 3) C.1 C.2.1 dX4_goAlong_89 (by decide) ?_
        exact ih (j + 1) (by omega) ls H locs hl hP hD hS
      · refine lv_iload C.1 C.2.1 dX4_goAlong_3 (lv_at hl 0 rfl) ?_
        refine lv_aload_n C.1 C.2.1 dX4_goAlong_5 rfl (lv_at hl 1 rfl) ?_
        refine va_get (ci := 4) (C := RX4) (T := TX4) (N := 34) C.1 C.2.1 C.2.2.2.2.2.1 ui_X4 C.2.2.2.2.1 C.2.2.2.2.2.2.2.1 hP 0 (rfl) rfl 29 (by decide) (C.2.2.2.2.2.1 _ tw_485) (fun _ h9 => h9) rfl dX4_goAlong_6 ?_
        rw [h29]
        refine lv_icmp_ge (tgt := 92) C.1 C.2.1 dX4_goAlong_9 (by decide) (fun h => absurd h (nI_ge (by omega) (by omega))) (fun _ => ?_)
        refine lv_aload_n C.1 C.2.1 dX4_goAlong_12 rfl (lv_at hl 1 rfl) ?_
        refine va_get (ci := 4) (C := RX4) (T := TX4) (N := 34) C.1 C.2.1 C.2.2.2.2.2.1 ui_X4 C.2.2.2.2.1 C.2.2.2.2.2.2.2.1 hP 0 (rfl) rfl 8 (by decide) (C.2.2.2.2.2.1 _ tw_464) (fun _ h9 => h9) rfl dX4_goAlong_13 ?_
        refine lv_iload C.1 C.2.1 dX4_goAlong_16 (lv_at hl 0 rfl) ?_
        refine lv_aload_n C.1 C.2.1 dX4_goAlong_18 rfl (lv_at hl 1 rfl) ?_
        refine va_get (ci := 4) (C := RX4) (T := TX4) (N := 34) C.1 C.2.1 C.2.2.2.2.2.1 ui_X4 C.2.2.2.2.1 C.2.2.2.2.2.2.2.1 hP 0 (rfl) rfl 30 (by decide) (C.2.2.2.2.2.1 _ tw_486) (fun _ h9 => h9) rfl dX4_goAlong_19 ?_
        refine lv_iload C.1 C.2.1 dX4_goAlong_22 (lv_at hl 0 rfl) ?_
        refine va_iald (f := A 30) C.1 C.2.1 C.2.2.2.2.2.2.2.1 hP 21 0 (rfl) rfl (vp_in_nI (by omega) (by decide)) dX4_goAlong_24 ?_
        rw [nI_clamp (by omega)]
        refine va_iast (f := va_cpy (A 30) (A 8) 0 0 j) C.1 C.2.1 C.2.2.2.2.2.2.2.1 hP hD hS 5 0 (rfl) rfl (vp_in_nI (by omega) (by decide)) dX4_goAlong_25 (fun H locs hP hD hS => ?_)
        rw [nI_clamp (by omega), show upd (va_cpy (A 30) (A 8) 0 0 j) j (A 30 j) = va_cpy (A 30) (A 8) 0 0 (j + 1) by have h := cpy_u0 (A 30) (A 8) 0 j; rwa [Nat.zero_add] at h] at hP hD
        have hP : va_P D vwCl (mw ad cI cZ X I (va_up (va_up (va_up A 8 (va_cpy (A 30) (A 8) 0 0 (j + 1))) 9 (tA key (A 2) (A 30) (A 9) j)) 10 (tA val (A 3) (A 30) (A 10) j))) H := hP
        have hD : va_D (cm_A (mw ad cI cZ X I A)) (mw ad cI cZ X I (va_up (va_up (va_up A 8 (va_cpy (A 30) (A 8) 0 0 (j + 1))) 9 (tA key (A 2) (A 30) (A 9) j)) 10 (tA val (A 3) (A 30) (A 10) j))) := hD
        refine lv_aload_n C.1 C.2.1 dX4_goAlong_26 rfl (lv_at hl 1 rfl) ?_
        refine va_get (ci := 4) (C := RX4) (T := TX4) (N := 34) C.1 C.2.1 C.2.2.2.2.2.1 ui_X4 C.2.2.2.2.1 C.2.2.2.2.2.2.2.1 hP 0 (rfl) rfl 9 (by decide) (C.2.2.2.2.2.1 _ tw_465) (fun _ h9 => h9) rfl dX4_goAlong_27 ?_
        refine lv_iload C.1 C.2.1 dX4_goAlong_30 (lv_at hl 0 rfl) ?_
        refine lv_iload C.1 C.2.1 dX4_goAlong_32 (lv_at hl 0 rfl) ?_
        refine lv_if_ne (tgt := 41) C.1 C.2.1 dX4_goAlong_34 (by decide) (fun _ => ?_) (fun h => absurd h (fun q => h0 ((nI_eq (a := j) (b := 0) (by omega) (by decide)).mp q)))
        refine lv_aload_n C.1 C.2.1 dX4_goAlong_41 rfl (lv_at hl 1 rfl) ?_
        refine va_get (ci := 4) (C := RX4) (T := TX4) (N := 34) C.1 C.2.1 C.2.2.2.2.2.1 ui_X4 C.2.2.2.2.1 C.2.2.2.2.2.2.2.1 hP 0 (rfl) rfl 2 (by decide) (C.2.2.2.2.2.1 _ tw_458) (fun _ h9 => h9) rfl dX4_goAlong_42 ?_
        refine lv_aload_n C.1 C.2.1 dX4_goAlong_45 rfl (lv_at hl 1 rfl) ?_
        refine va_get (ci := 4) (C := RX4) (T := TX4) (N := 34) C.1 C.2.1 C.2.2.2.2.2.1 ui_X4 C.2.2.2.2.1 C.2.2.2.2.2.2.2.1 hP 0 (rfl) rfl 30 (by decide) (C.2.2.2.2.2.1 _ tw_486) (fun _ h9 => h9) rfl dX4_goAlong_46 ?_
        refine lv_iload C.1 C.2.1 dX4_goAlong_49 (lv_at hl 0 rfl) ?_
        refine lv_iconst (v := nI 1) C.1 C.2.1 dX4_goAlong_51 (by decide +kernel) ?_
        refine lv_isub C.1 C.2.1 dX4_goAlong_52 ?_
        rw [pk_sub (by omega)]
        refine va_iald (f := A 30) C.1 C.2.1 C.2.2.2.2.2.2.2.1 hP 21 0 (rfl) rfl (vp_in_nI (by omega) (by decide)) dX4_goAlong_53 ?_
        rw [nI_clamp (by omega), (hpp (j - 1) (by omega)).1]
        refine va_iald (f := A 2) C.1 C.2.1 C.2.2.2.2.2.2.2.1 hP 2 0 (rfl) rfl (vp_in_nI (hpp (j - 1) (by omega)).2 (by decide)) dX4_goAlong_54 ?_
        rw [nI_clamp (by have := (hpp (j - 1) (by omega)).2; omega)]
        refine va_iast (f := tA key (A 2) (A 30) (A 9) j) C.1 C.2.1 C.2.2.2.2.2.2.2.1 hP hD hS 6 0 (rfl) rfl (vp_in_nI (by omega) (by decide)) dX4_goAlong_55 (fun H locs hP hD hS => ?_)
        rw [nI_clamp (by omega), show upd (tA key (A 2) (A 30) (A 9) j) j (A 2 (A 30 (j - 1)).toNatClampNeg) = tA key (A 2) (A 30) (A 9) (j + 1) by have h := tA_s key (A 2) (A 30) (A 9) j; rwa [if_neg h0] at h] at hP hD
        have hP : va_P D vwCl (mw ad cI cZ X I (va_up (va_up (va_up A 8 (va_cpy (A 30) (A 8) 0 0 (j + 1))) 9 (tA key (A 2) (A 30) (A 9) (j + 1))) 10 (tA val (A 3) (A 30) (A 10) j))) H := hP
        have hD : va_D (cm_A (mw ad cI cZ X I A)) (mw ad cI cZ X I (va_up (va_up (va_up A 8 (va_cpy (A 30) (A 8) 0 0 (j + 1))) 9 (tA key (A 2) (A 30) (A 9) (j + 1))) 10 (tA val (A 3) (A 30) (A 10) j))) := hD
        refine lv_aload_n C.1 C.2.1 dX4_goAlong_56 rfl (lv_at hl 1 rfl) ?_
        refine va_get (ci := 4) (C := RX4) (T := TX4) (N := 34) C.1 C.2.1 C.2.2.2.2.2.1 ui_X4 C.2.2.2.2.1 C.2.2.2.2.2.2.2.1 hP 0 (rfl) rfl 10 (by decide) (C.2.2.2.2.2.1 _ tw_466) (fun _ h9 => h9) rfl dX4_goAlong_57 ?_
        refine lv_iload C.1 C.2.1 dX4_goAlong_60 (lv_at hl 0 rfl) ?_
        refine lv_iload C.1 C.2.1 dX4_goAlong_62 (lv_at hl 0 rfl) ?_
        refine lv_if_ne (tgt := 71) C.1 C.2.1 dX4_goAlong_64 (by decide) (fun _ => ?_) (fun h => absurd h (fun q => h0 ((nI_eq (a := j) (b := 0) (by omega) (by decide)).mp q)))
        refine lv_aload_n C.1 C.2.1 dX4_goAlong_71 rfl (lv_at hl 1 rfl) ?_
        refine va_get (ci := 4) (C := RX4) (T := TX4) (N := 34) C.1 C.2.1 C.2.2.2.2.2.1 ui_X4 C.2.2.2.2.1 C.2.2.2.2.2.2.2.1 hP 0 (rfl) rfl 3 (by decide) (C.2.2.2.2.2.1 _ tw_459) (fun _ h9 => h9) rfl dX4_goAlong_72 ?_
        refine lv_aload_n C.1 C.2.1 dX4_goAlong_75 rfl (lv_at hl 1 rfl) ?_
        refine va_get (ci := 4) (C := RX4) (T := TX4) (N := 34) C.1 C.2.1 C.2.2.2.2.2.1 ui_X4 C.2.2.2.2.1 C.2.2.2.2.2.2.2.1 hP 0 (rfl) rfl 30 (by decide) (C.2.2.2.2.2.1 _ tw_486) (fun _ h9 => h9) rfl dX4_goAlong_76 ?_
        refine lv_iload C.1 C.2.1 dX4_goAlong_79 (lv_at hl 0 rfl) ?_
        refine lv_iconst (v := nI 1) C.1 C.2.1 dX4_goAlong_81 (by decide +kernel) ?_
        refine lv_isub C.1 C.2.1 dX4_goAlong_82 ?_
        rw [pk_sub (by omega)]
        refine va_iald (f := A 30) C.1 C.2.1 C.2.2.2.2.2.2.2.1 hP 21 0 (rfl) rfl (vp_in_nI (by omega) (by decide)) dX4_goAlong_83 ?_
        rw [nI_clamp (by omega), (hpp (j - 1) (by omega)).1]
        refine va_iald (f := A 3) C.1 C.2.1 C.2.2.2.2.2.2.2.1 hP 3 0 (rfl) rfl (vp_in_nI (hpp (j - 1) (by omega)).2 (by decide)) dX4_goAlong_84 ?_
        rw [nI_clamp (by have := (hpp (j - 1) (by omega)).2; omega)]
        refine va_iast (f := tA val (A 3) (A 30) (A 10) j) C.1 C.2.1 C.2.2.2.2.2.2.2.1 hP hD hS 7 0 (rfl) rfl (vp_in_nI (by omega) (by decide)) dX4_goAlong_85 (fun H locs hP hD hS => ?_)
        rw [nI_clamp (by omega), show upd (tA val (A 3) (A 30) (A 10) j) j (A 3 (A 30 (j - 1)).toNatClampNeg) = tA val (A 3) (A 30) (A 10) (j + 1) by have h := tA_s val (A 3) (A 30) (A 10) j; rwa [if_neg h0] at h] at hP hD
        have hP : va_P D vwCl (mw ad cI cZ X I (goT key val (j + 1) A)) H := hP
        have hD : va_D (cm_A (mw ad cI cZ X I A)) (mw ad cI cZ X I (goT key val (j + 1) A)) := hD
        refine lv_iinc (v := nI (j + 1)) (lv' := [(4, _), (0, _), (1, _), (2, _), (3, _)]) C.1 C.2.1 dX4_goAlong_86 hl (k := 0) rfl (nI_1 j) (by decide) rfl (fun ls hl => ?_)
        refine lv_goto (tgt := 3) C.1 C.2.1 dX4_goAlong_89 (by decide) ?_
        exact ih (j + 1) (by omega) ls H locs hl hP hD hS
  exact loop L.length 0 (Nat.zero_add _) ls H locs hl (by rw [goT_0]; exact hP) (by rw [goT_0]; exact hD) hS
