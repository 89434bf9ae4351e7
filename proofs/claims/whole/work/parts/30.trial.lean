/-! ===== MAKING ANEW on trial: fillTrial ===== -/
theorem pathS_ok (u : Nat → Bool) (k : Nat → Int32) (s : Int32) : ∀ (n t b : Nat) (L : List Nat), b < 8 → (∀ q ∈ L, q < 36) → (pathS u k s n t b L).2.length ≤ L.length + n + 1 ∧ ∀ q ∈ (pathS u k s n t b L).2, q < 36 := by
  intro n
  induction n with
  | zero => intro t b L _ hL; exact ⟨by simp [pathS], hL⟩
  | succ n ih =>
    intro t b L hb hL
    cases hnx : nx L b t 0 4 with
    | none => simp only [pathS, hnx]; exact ⟨by omega, hL⟩
    | some p =>
      have hp := nx_some _ _ hnx
      have ho := otherS_lt s (k p) b
      have hL' : ∀ q ∈ L ++ [p], q < 36 := fun q hq => (List.mem_append.mp hq).elim (hL q) (fun h9 => by rw [List.mem_singleton.mp h9]; omega)
      cases hem : emS u (otherS s (k p) b) with
      | some e =>
        have he := emS_lt hem (by omega)
        simp only [pathS, hnx, hem]
        refine ⟨by simp only [List.length_append, List.length_cons, List.length_nil]; omega, fun q hq => (List.mem_append.mp hq).elim (hL' q) (fun h9 => by rw [List.mem_singleton.mp h9]; omega)⟩
      | none =>
        simp only [pathS, hnx, hem]
        obtain ⟨h1, h2⟩ := ih (t + 1) (otherS s (k p) b) (L ++ [p]) ho hL'
        rw [List.length_append, List.length_cons, List.length_nil] at h1
        exact ⟨by omega, h2⟩
theorem mvS_mem (k v : Nat → Int32) : ∀ (L : List Nat) (a b : Int32) (m : Nat × Int32 × Int32), m ∈ mvS k v a b L → m.1 ∈ L := by
  intro L
  induction L with
  | nil => intro a b m h; cases h
  | cons q L ih =>
    intro a b m h
    rcases List.mem_cons.mp h with rfl | h
    · exact List.mem_cons_self
    · exact List.mem_cons_of_mem _ (ih _ _ m h)
theorem chS_ok (u : Nat → Bool) (k v : Nat → Int32) (s key val : Int32) : (chS u k v s key val).2.length ≤ 7 ∧ (∀ m ∈ (chS u k v s key val).2, m.1 < 36) ∧ ((chS u k v s key val).1 = nI 0 ∨ (chS u k v s key val).1 = nI 1 ∨ (chS u k v s key val).1 = nI 2 ∨ (chS u k v s key val).1 = nI 3 ∨ (chS u k v s key val).1 = -2) := by
  have q1 := hm1_lt s key
  have q2 := hm2_lt s key
  have one : ∀ p, p < 36 → ([(p, key, val)] : List (Nat × Int32 × Int32)).length ≤ 7 ∧ ∀ m ∈ ([(p, key, val)] : List (Nat × Int32 × Int32)), m.1 < 36 := fun p hp => ⟨by simp, fun m hm => by rw [List.mem_singleton.mp hm]; exact hp⟩
  have path : ∀ b, b < 8 → (mvS k v key val (pathS u k s 6 0 b []).2).length ≤ 7 ∧ ∀ m ∈ mvS k v key val (pathS u k s 6 0 b []).2, m.1 < 36 := fun b hb => by
    have h := pathS_ok u k s 6 0 b [] hb (fun q hq => by cases hq)
    exact ⟨by rw [mvS_len]; simpa using h.1, fun m hm => h.2 _ (mvS_mem _ _ _ _ _ m hm)⟩
  unfold chS
  cases e1 : findS u k s key with
  | some p => exact ⟨(one p (findS_lt e1).1).1, (one p (findS_lt e1).1).2, Or.inl rfl⟩
  | none =>
    cases e2 : emS u (hm1 s key) with
    | some p => exact ⟨(one p (emS_lt e2 (by omega)).1).1, (one p (emS_lt e2 (by omega)).1).2, Or.inr (Or.inl rfl)⟩
    | none =>
      cases e3 : emS u (hm2 s key) with
      | some p => exact ⟨(one p (emS_lt e3 (by omega)).1).1, (one p (emS_lt e3 (by omega)).1).2, Or.inr (Or.inl rfl)⟩
      | none =>
        dsimp only
        split
        · exact ⟨(path _ q1).1, (path _ q1).2, Or.inr (Or.inr (Or.inl rfl))⟩
        · split
          · exact ⟨(path _ q2).1, (path _ q2).2, Or.inr (Or.inr (Or.inl rfl))⟩
          · cases e6 : emS u 8 with
            | some p => exact ⟨(one p (emS_lt e6 (by omega)).1).1, (one p (emS_lt e6 (by omega)).1).2, Or.inr (Or.inr (Or.inr (Or.inl rfl)))⟩
            | none => exact ⟨(path _ q2).1, (path _ q2).2, Or.inr (Or.inr (Or.inr (Or.inr rfl)))⟩
def absM (z : Nat) (M : List (Nat × Int32 × Int32)) : List (Nat × Int32 × Int32) := M.map (fun m => (36 * z + m.1, m.2.1, m.2.2))
theorem absM_lt {z : Nat} (hz : z < 2) {M : List (Nat × Int32 × Int32)} (hM : ∀ m ∈ M, m.1 < 36) : ∀ m ∈ absM z M, m.1 < 72 := by
  intro m hm
  obtain ⟨m0, h0, rfl⟩ := List.mem_map.mp hm
  have := hM m0 h0
  dsimp only
  omega
theorem encA_enc {z : Nat} (hz : z < 2) {fm0 : Nat → Int32} (h0 : fm0 0 = nI 0) {M : List (Nat × Int32 × Int32)} (hl : M.length ≤ 7) (hM : ∀ m ∈ M, m.1 < 36) : mEnc (encA z fm0 0 M) (absM z M) := by
  refine ⟨by rw [absM, List.length_map]; exact hl, by rw [encA_0 z M fm0 0 h0, absM, List.length_map, Nat.zero_add], fun j m hj => ?_⟩
  rw [absM, List.getElem?_map] at hj
  cases hm : M[j]? with
  | none => rw [hm] at hj; cases hj
  | some m0 =>
    rw [hm] at hj
    cases hj
    obtain ⟨h1, h2, h3⟩ := encA_get z M fm0 0 j m0 hm
    rw [Nat.zero_add] at h1 h2 h3
    have := hM m0 (List.mem_of_getElem? hm)
    exact ⟨h1, h2, h3, by dsimp only; omega⟩
theorem mEnc.ok {fm : Nat → Int32} {M : List (Nat × Int32 × Int32)} (h : mEnc fm M) : mOk fm M.length := by
  refine ⟨h.1, h.2.1, fun j hj => ?_⟩
  obtain ⟨h1, -, -, h4⟩ := h.2.2 j _ (List.getElem?_eq_getElem hj)
  unfold mP
  rw [h1, nI_clamp (by omega)]
  exact ⟨rfl, h4⟩
def fillM (M : List (Nat × Int32 × Int32)) (f : Nat → Int32) : Nat → Int32 := M.foldl (fun f m => fillC f m.1 m.2.1 m.2.2) f
theorem fillN_drop {fm : Nat → Int32} {M : List (Nat × Int32 × Int32)} (h : mEnc fm M) : ∀ (k j : Nat) (f : Nat → Int32), j + k = M.length → fillN fm j k f = fillM (M.drop j) f := by
  intro k
  induction k with
  | zero => intro j f hj; rw [List.drop_of_length_le (by omega)]; rfl
  | succ k ih =>
    intro j f hj
    obtain ⟨h1, h2, h3, h4⟩ := h.2.2 j _ (List.getElem?_eq_getElem (by omega))
    rw [List.drop_eq_getElem_cons (by omega)]
    unfold fillN
    rw [ih (j + 1) _ (by omega)]
    unfold mP
    rw [h1, h2, h3, nI_clamp (by omega)]
    rfl
theorem fillN_enc {fm : Nat → Int32} {M : List (Nat × Int32 × Int32)} (h : mEnc fm M) (f : Nat → Int32) : fillN fm 0 M.length f = fillM M f := fillN_drop h M.length 0 f (Nat.zero_add _)
theorem ix_lt {p : Nat} (h : p < 72) : ix p + 2 < 396 := by unfold ix; omega
theorem fillC_hi {f : Nat → Int32} {p i : Nat} {k v : Int32} (h : p < 72) (hi : 396 ≤ i) : fillC f p k v i = f i := by
  have := ix_lt h
  unfold fillC
  rw [pk_un (by omega), pk_un (by omega), pk_un (by omega)]
theorem fillM_hi {i : Nat} (hi : 396 ≤ i) : ∀ (M : List (Nat × Int32 × Int32)) (f : Nat → Int32), (∀ m ∈ M, m.1 < 72) → fillM M f i = f i := by
  intro M
  induction M with
  | nil => intro f _; rfl
  | cons m M ih =>
    intro f h
    show fillM M (fillC f m.1 m.2.1 m.2.2) i = f i
    rw [ih _ (fun q hq => h q (List.mem_cons_of_mem _ hq)), fillC_hi (h m List.mem_cons_self) hi]
/-- a row's places beyond its end don't matter -/
theorem vaP_ext {D : va_G} {cl : List vw_C} {ws : va_W} {H : Heap} {q a n : Nat} {cA : ClassId} {f g : Nat → Int32} (h : ws[q]? = some (a, .inl (cA, n, .inl f))) (hfg : ∀ i, i < n → f i = g i) (hP : va_P D cl ws H) : va_P D cl (ws.set q (a, .inl (cA, n, .inl g))) H := by
  intro k x hx
  by_cases hk : k = q
  · subst hk
    rw [ws_self h] at hx
    cases hx
    have h1 := hP k _ h
    have e : vp_cell cA (n, .inl f) = vp_cell cA (n, .inl g) := by
      rw [vp_cell_i, vp_cell_i]
      unfold arrV
      congr 1
      apply congrArg
      funext j
      show Value.int (f j.val) = Value.int (g j.val)
      rw [hfg j.val j.isLt]
    show H[a]? = some (vp_cell cA (n, .inl g))
    rw [← e]
    exact h1
  · rw [List.getElem?_set_ne (Ne.symm hk)] at hx
    exact hP k x hx
/-- one KEY put on trial in the SET zz; all of a SET and then one more -/
def trS (zz : Nat) (s : Int32) (f : Nat → Int32) (key val : Int32) : Option (Nat → Int32) := if (chS (uR f zz) (kR f zz) (vR f zz) s key val).1 = -2 then none else some (fillM (absM zz (chS (uR f zz) (kR f zz) (vR f zz) s key val).2) f)
def trL (fn : Nat → Int32) (z zz : Nat) (s : Int32) : Nat → Nat → (Nat → Int32) → Option (Nat → Int32)
  | _, 0, f => some f
  | j, k + 1, f => if uR fn z j = true then (trS zz s f (kR fn z j) (vR fn z j)).bind (trL fn z zz s (j + 1) k) else trL fn z zz s (j + 1) k f
def tr0 (z w : Nat) : Nat → Int32 := upd (upd (fun _ => nI 0) 396 (nI (1 - z))) 397 (nI w)
def trA (fn : Nat → Int32) (z : Nat) (s : Int32) (w : Nat) (key val : Int32) : Option (Nat → Int32) := (trL fn z (1 - z) s 0 36 (tr0 z w)).bind (fun f => trS (1 - z) s f key val)
def trR (T : Option (Nat → Int32)) (r : Int32) (ft : Nat → Int32) : Prop := match T with
  | none => r = nI 0
  | some f => r = nI 1 ∧ ft = f
set_option maxHeartbeats 4000000 in
set_option maxRecDepth 100000 in
/-- fillTrial -/
theorem k_X3_fillTrial (l : Launch) (D : va_G) (cI cZ cJ : ClassId) (ad : Nat → Nat) (X : va_W) (sd fn ft fm : Nat → Int32) (σ : WS) (ta lp lr : Int32) (z w9 : Nat) (hz0 : z < 2) (hw0 : w9 < 4) (hz : fn 396 = nI z) (key val : Int32) : CRi l D (cm_T cI cZ cJ) yX3_fillTrial cX3_fillTrial 8 (some .boolean) (cm_rm 5 129) [.ref (ad 0), .int (nI w9), .int key, .int val] (cw ad cI X sd fn ft fm σ ta lp lr) (fun r w1 => ∃ ft1 fm1 : Nat → Int32, w1 = cw ad cI X sd fn ft1 fm1 σ ta lp lr ∧ trR (trA fn z (sd w9) w9 key val) r ft1) := by
  refine CRi.of (by decide) (Nat.le_of_ble_eq_true rfl) ?_
  intro p e s m below meth c ls H locs C hl hP hD hS
  refine lv_aload_n C.1 C.2.1 dX3_fillTrial_0 rfl (lv_at hl 0 rfl) ?_
  refine va_get (ci := 3) (C := RX3) (T := TX3) (N := 10) C.1 C.2.1 C.2.2.2.2.2.1 ui_X3 C.2.2.2.2.1 C.2.2.2.2.2.2.2.1 hP 0 (rfl) rfl 3 (by decide) (C.2.2.2.2.2.1 _ tw_64) (fun _ h9 => h9) rfl dX3_fillTrial_1 ?_
  refine cm_cV0 (q0 := 6) 0 C (k_X0_emptyAll l D cI cZ cJ (cw ad cI X sd fn ft fm σ ta lp lr) (qI := 6) (qA := 7) rfl rfl (by decide)) tw_195 tw_196 tw_197 tw_2 tw_198 rfl rfl (rfl) rfl (by decide +kernel) ⟨Nat.le_of_ble_eq_true rfl, Nat.le_of_ble_eq_true rfl⟩ ⟨Nat.zero_le _, Nat.zero_le _⟩ hP hD hS hl.1 rfl rfl (Nat.le_of_ble_eq_true rfl) dX3_fillTrial_4 (fun H locs hP hD hS => ?_)
  have hP : va_P D vwCl (cw ad cI X sd fn (zeroTo ft 440) fm σ ta lp lr) H := hP
  have hD : va_D (cm_A (cw ad cI X sd fn ft fm σ ta lp lr)) (cw ad cI X sd fn (zeroTo ft 440) fm σ ta lp lr) := hD
  have hP : va_P D vwCl (cw ad cI X sd fn (fun _ => nI 0) fm σ ta lp lr) H := vaP_ext (q := 7) rfl (fun i hi => if_pos hi) hP
  have hD : va_D (cm_A (cw ad cI X sd fn ft fm σ ta lp lr)) (cw ad cI X sd fn (fun _ => nI 0) fm σ ta lp lr) := hD.set (p := 7) rfl
  refine lv_aload_n C.1 C.2.1 dX3_fillTrial_7 rfl (lv_at hl 0 rfl) ?_
  refine va_get (ci := 3) (C := RX3) (T := TX3) (N := 10) C.1 C.2.1 C.2.2.2.2.2.1 ui_X3 C.2.2.2.2.1 C.2.2.2.2.2.2.2.1 hP 0 (rfl) rfl 3 (by decide) (C.2.2.2.2.2.1 _ tw_64) (fun _ h9 => h9) rfl dX3_fillTrial_8 ?_
  refine lv_iconst (v := nI 1) C.1 C.2.1 dX3_fillTrial_11 (by decide +kernel) ?_
  refine lv_aload_n C.1 C.2.1 dX3_fillTrial_12 rfl (lv_at hl 0 rfl) ?_
  refine va_get (ci := 3) (C := RX3) (T := TX3) (N := 10) C.1 C.2.1 C.2.2.2.2.2.1 ui_X3 C.2.2.2.2.1 C.2.2.2.2.2.2.2.1 hP 0 (rfl) rfl 1 (by decide) (C.2.2.2.2.2.1 _ tw_62) (fun _ h9 => h9) rfl dX3_fillTrial_13 ?_
  refine cm_cV1 (q0 := 2) 0 C (k_X0_setTold l D cI cZ cJ (cw ad cI X sd fn (fun _ => nI 0) fm σ ta lp lr) (qI := 2) (qA := 3) rfl rfl) tw_199 tw_125 tw_126 tw_2 tw_127 rfl rfl (rfl) rfl (by decide +kernel) ⟨Nat.le_of_ble_eq_true rfl, Nat.le_of_ble_eq_true rfl⟩ ⟨Nat.zero_le _, Nat.zero_le _⟩ hP hD hS hl.1 rfl rfl (Nat.le_of_ble_eq_true rfl) dX3_fillTrial_16 (fun H locs hP hD hS => ?_)
  rw [hz]
  refine lv_isub C.1 C.2.1 dX3_fillTrial_19 ?_
  rw [pk_sub (by omega)]
  refine lv_iload_n C.1 C.2.1 dX3_fillTrial_20 rfl (lv_at hl 1 rfl) ?_
  refine cm_cV0 (q0 := 6) 2 C (k_X0_tellRoot l D cI cZ cJ (cw ad cI X sd fn (fun _ => nI 0) fm σ ta lp lr) (qI := 6) (qA := 7) rfl rfl (by decide) (nI (1 - z)) (nI w9)) tw_200 tw_201 tw_202 tw_2 tw_203 rfl rfl (rfl) rfl (by decide +kernel) ⟨Nat.le_of_ble_eq_true rfl, Nat.le_of_ble_eq_true rfl⟩ ⟨Nat.zero_le _, Nat.zero_le _⟩ hP hD hS hl.1 rfl rfl (Nat.le_of_ble_eq_true rfl) dX3_fillTrial_21 (fun H locs hP hD hS => ?_)
  have hP : va_P D vwCl (cw ad cI X sd fn (tr0 z w9) fm σ ta lp lr) H := hP
  have hD : va_D (cm_A (cw ad cI X sd fn ft fm σ ta lp lr)) (cw ad cI X sd fn (tr0 z w9) fm σ ta lp lr) := hD
  refine lv_aload_n C.1 C.2.1 dX3_fillTrial_24 rfl (lv_at hl 0 rfl) ?_
  refine lv_aload_n C.1 C.2.1 dX3_fillTrial_25 rfl (lv_at hl 0 rfl) ?_
  refine va_get (ci := 3) (C := RX3) (T := TX3) (N := 10) C.1 C.2.1 C.2.2.2.2.2.1 ui_X3 C.2.2.2.2.1 C.2.2.2.2.2.2.2.1 hP 0 (rfl) rfl 3 (by decide) (C.2.2.2.2.2.1 _ tw_64) (fun _ h9 => h9) rfl dX3_fillTrial_26 ?_
  refine cm_cV1 (q0 := 0) 1 C (k_X3_seedInUse l D cI cZ cJ (cw ad cI X sd fn (tr0 z w9) fm σ ta lp lr) (qO := 0) rfl (qS := 1) rfl (qI := 6) (qA := 7) rfl rfl w9 hw0 pk_us) tw_96 tw_98 ts_0 tw_1 tw_99 rfl rfl (rfl) rfl (by decide +kernel) ⟨Nat.le_of_ble_eq_true rfl, Nat.le_of_ble_eq_true rfl⟩ ⟨Nat.zero_le _, Nat.zero_le _⟩ hP hD hS hl.1 rfl rfl (Nat.le_of_ble_eq_true rfl) dX3_fillTrial_29 (fun H locs hP hD hS => ?_)
  refine lv_istore (lv' := [(4, _), (0, _), (1, _), (2, _), (3, _)]) C.1 C.2.1 dX3_fillTrial_32 hl (by decide) rfl (fun ls hl => ?_)
  refine lv_aload_n C.1 C.2.1 dX3_fillTrial_34 rfl (lv_at hl 1 rfl) ?_
  refine va_get (ci := 3) (C := RX3) (T := TX3) (N := 10) C.1 C.2.1 C.2.2.2.2.2.1 ui_X3 C.2.2.2.2.1 C.2.2.2.2.2.2.2.1 hP 0 (rfl) rfl 1 (by decide) (C.2.2.2.2.2.1 _ tw_62) (fun _ h9 => h9) rfl dX3_fillTrial_35 ?_
  refine lv_iconst (v := nI 0) C.1 C.2.1 dX3_fillTrial_38 (by decide +kernel) ?_
  refine cm_cV1 (q0 := 2) 1 C (k_X0_rowInUse l D cI cZ cJ (cw ad cI X sd fn (tr0 z w9) fm σ ta lp lr) (qI := 2) (qA := 3) rfl rfl z 0 hz) tw_120 tw_121 tw_122 tw_2 tw_123 rfl rfl (rfl) rfl (by decide +kernel) ⟨Nat.le_of_ble_eq_true rfl, Nat.le_of_ble_eq_true rfl⟩ ⟨Nat.zero_le _, Nat.zero_le _⟩ hP hD hS hl.1 rfl rfl (Nat.le_of_ble_eq_true rfl) dX3_fillTrial_39 (fun H locs hP hD hS => ?_)
  refine lv_iconst (v := nI 0) C.1 C.2.1 dX3_fillTrial_42 (by decide +kernel) ?_
  refine cm_cS1 2 C (c_placeOf l D cI cZ cJ (cw ad cI X sd fn (tr0 z w9) fm σ ta lp lr) (z * 9 + 0) 0) tw_168 tw_133 tw_1 tw_134 rfl rfl (by decide +kernel) ⟨Nat.le_of_ble_eq_true rfl, Nat.le_of_ble_eq_true rfl⟩ ⟨Nat.zero_le _, Nat.zero_le _⟩ hP hD hS hl.1 rfl rfl (Nat.le_of_ble_eq_true rfl) dX3_fillTrial_43 (fun H locs hP hD hS => ?_)
  rw [show (z * 9 + 0) * 4 + 0 = 36 * z by omega]
  refine lv_istore (lv' := [(5, _), (4, _), (0, _), (1, _), (2, _), (3, _)]) C.1 C.2.1 dX3_fillTrial_46 hl (by decide) rfl (fun ls hl => ?_)
  refine lv_iconst (v := nI 0) C.1 C.2.1 dX3_fillTrial_48 (by decide +kernel) ?_
  refine lv_istore (lv' := [(6, _), (5, _), (4, _), (0, _), (1, _), (2, _), (3, _)]) C.1 C.2.1 dX3_fillTrial_49 hl (by decide) rfl (fun ls hl => ?_)
  generalize hT9 : trA fn z (sd w9) w9 key val = T9
  have loop : ∀ (k j : Nat) (g h : Nat → Int32), j + k = 36 → g 396 = nI (1 - z) → (trL fn z (1 - z) (sd w9) j k g).bind (fun f => trS (1 - z) (sd w9) f key val) = T9 → ∀ (ls : Array Slot) (H : Heap) (locs : List Loc), lv_has ls 8 [(6, .int (nI j)), (5, .int (nI (36 * z))), (4, .int (sd w9)), (0, .ref (ad 0)), (1, .int (nI w9)), (2, .int key), (3, .int val)] → va_P D vwCl (cw ad cI X sd fn g h σ ta lp lr) H → va_D (cm_A (cw ad cI X sd fn ft fm σ ta lp lr)) (cw ad cI X sd fn g h σ ta lp lr) → va_S (cm_A (cw ad cI X sd fn ft fm σ ta lp lr)) s.heap H locs → W p l e (cm_rm 5 129) s m ([.ref (ad 0), .int (nI w9), .int key, .int val] : List Value).toArray below meth c H locs 0 0 (cr_Q below D [.ref (ad 0), .int (nI w9), .int key, .int val] s (cw ad cI X sd fn ft fm σ ta lp lr) (fun r w1 => ∃ ft1 fm1 : Nat → Int32, w1 = cw ad cI X sd fn ft1 fm1 σ ta lp lr ∧ trR T9 r ft1)) (F0 m 51 ls []) := by
    intro k
    induction k with
    | zero =>
      intro j g h hj hg hT ls H locs hl hP hD hS
      obtain ⟨fm0, hf0, hch⟩ := k_X3_choose l D cI cZ cJ (cw ad cI X sd fn g h σ ta lp lr) (qO := 0) rfl (qM := 11) (qN := 12) rfl rfl (qI := 6) (qA := 7) rfl rfl (by decide) (by decide) (by decide) (by decide) (1 - z) (by omega) hg (sd w9) (key) (val)
      obtain ⟨o1, o2, -⟩ := chS_ok (uR g (1 - z)) (kR g (1 - z)) (vR g (1 - z)) (sd w9) (key) (val)
      have hen := encA_enc (z := 1 - z) (by omega) hf0 o1 o2
      by_cases hfull : (chS (uR g (1 - z)) (kR g (1 - z)) (vR g (1 - z)) (sd w9) (key) (val)).1 = -2
      · refine lv_iload C.1 C.2.1 dX3_fillTrial_51 (lv_at hl 0 rfl) ?_
        refine lv_bipush (v := nI 36) C.1 C.2.1 dX3_fillTrial_53 (by decide +kernel) ?_
        refine lv_icmp_ge (tgt := 129) C.1 C.2.1 dX3_fillTrial_55 (by decide) (fun _ => ?_) (fun h => absurd (nI_le (by omega) (by omega)) h)
        refine lv_aload_n C.1 C.2.1 dX3_fillTrial_129 rfl (lv_at hl 3 rfl) ?_
        refine lv_aload_n C.1 C.2.1 dX3_fillTrial_130 rfl (lv_at hl 3 rfl) ?_
        refine va_get (ci := 3) (C := RX3) (T := TX3) (N := 10) C.1 C.2.1 C.2.2.2.2.2.1 ui_X3 C.2.2.2.2.1 C.2.2.2.2.2.2.2.1 hP 0 (rfl) rfl 3 (by decide) (C.2.2.2.2.2.1 _ tw_64) (fun _ h9 => h9) rfl dX3_fillTrial_131 ?_
        refine lv_iload C.1 C.2.1 dX3_fillTrial_134 (lv_at hl 2 rfl) ?_
        refine lv_iload_n C.1 C.2.1 dX3_fillTrial_136 rfl (lv_at hl 5 rfl) ?_
        refine lv_iload_n C.1 C.2.1 dX3_fillTrial_137 rfl (lv_at hl 6 rfl) ?_
        refine cm_cV1 (q0 := 0) 4 C (hch) tw_107 tw_109 ts_1 tw_1 tw_110 rfl rfl (rfl) rfl (by decide +kernel) ⟨Nat.le_of_ble_eq_true rfl, Nat.le_of_ble_eq_true rfl⟩ ⟨Nat.zero_le _, Nat.zero_le _⟩ hP hD hS hl.1 rfl rfl (Nat.le_of_ble_eq_true rfl) dX3_fillTrial_138 (fun H locs hP hD hS => ?_)
        have hP : va_P D vwCl (cw ad cI X sd fn g (encA (1 - z) fm0 0 (chS (uR g (1 - z)) (kR g (1 - z)) (vR g (1 - z)) (sd w9) (key) (val)).2) σ ta lp lr) H := hP
        have hD : va_D (cm_A (cw ad cI X sd fn ft fm σ ta lp lr)) (cw ad cI X sd fn g (encA (1 - z) fm0 0 (chS (uR g (1 - z)) (kR g (1 - z)) (vR g (1 - z)) (sd w9) (key) (val)).2) σ ta lp lr) := hD
        refine lv_bipush (v := (-2)) C.1 C.2.1 dX3_fillTrial_141 (by decide +kernel) ?_
        refine lv_icmp_ne (tgt := 148) C.1 C.2.1 dX3_fillTrial_143 (by decide) (fun h => absurd (hfull) h) (fun _ => ?_)
        refine lv_iconst (v := nI 0) C.1 C.2.1 dX3_fillTrial_146 (by decide +kernel) ?_
        exact cr_zret C hP hD hS dX3_fillTrial_147 (by decide +kernel) ⟨_, _, rfl, by rw [← hT]; simp [trL, trS, hfull, trR]⟩
      · refine lv_iload C.1 C.2.1 dX3_fillTrial_51 (lv_at hl 0 rfl) ?_
        refine lv_bipush (v := nI 36) C.1 C.2.1 dX3_fillTrial_53 (by decide +kernel) ?_
        refine lv_icmp_ge (tgt := 129) C.1 C.2.1 dX3_fillTrial_55 (by decide) (fun _ => ?_) (fun h => absurd (nI_le (by omega) (by omega)) h)
        refine lv_aload_n C.1 C.2.1 dX3_fillTrial_129 rfl (lv_at hl 3 rfl) ?_
        refine lv_aload_n C.1 C.2.1 dX3_fillTrial_130 rfl (lv_at hl 3 rfl) ?_
        refine va_get (ci := 3) (C := RX3) (T := TX3) (N := 10) C.1 C.2.1 C.2.2.2.2.2.1 ui_X3 C.2.2.2.2.1 C.2.2.2.2.2.2.2.1 hP 0 (rfl) rfl 3 (by decide) (C.2.2.2.2.2.1 _ tw_64) (fun _ h9 => h9) rfl dX3_fillTrial_131 ?_
        refine lv_iload C.1 C.2.1 dX3_fillTrial_134 (lv_at hl 2 rfl) ?_
        refine lv_iload_n C.1 C.2.1 dX3_fillTrial_136 rfl (lv_at hl 5 rfl) ?_
        refine lv_iload_n C.1 C.2.1 dX3_fillTrial_137 rfl (lv_at hl 6 rfl) ?_
        refine cm_cV1 (q0 := 0) 4 C (hch) tw_107 tw_109 ts_1 tw_1 tw_110 rfl rfl (rfl) rfl (by decide +kernel) ⟨Nat.le_of_ble_eq_true rfl, Nat.le_of_ble_eq_true rfl⟩ ⟨Nat.zero_le _, Nat.zero_le _⟩ hP hD hS hl.1 rfl rfl (Nat.le_of_ble_eq_true rfl) dX3_fillTrial_138 (fun H locs hP hD hS => ?_)
        have hP : va_P D vwCl (cw ad cI X sd fn g (encA (1 - z) fm0 0 (chS (uR g (1 - z)) (kR g (1 - z)) (vR g (1 - z)) (sd w9) (key) (val)).2) σ ta lp lr) H := hP
        have hD : va_D (cm_A (cw ad cI X sd fn ft fm σ ta lp lr)) (cw ad cI X sd fn g (encA (1 - z) fm0 0 (chS (uR g (1 - z)) (kR g (1 - z)) (vR g (1 - z)) (sd w9) (key) (val)).2) σ ta lp lr) := hD
        refine lv_bipush (v := (-2)) C.1 C.2.1 dX3_fillTrial_141 (by decide +kernel) ?_
        refine lv_icmp_ne (tgt := 148) C.1 C.2.1 dX3_fillTrial_143 (by decide) (fun _ => ?_) (fun h => absurd h (hfull))
        refine lv_aload_n C.1 C.2.1 dX3_fillTrial_148 rfl (lv_at hl 3 rfl) ?_
        refine va_get (ci := 3) (C := RX3) (T := TX3) (N := 10) C.1 C.2.1 C.2.2.2.2.2.1 ui_X3 C.2.2.2.2.1 C.2.2.2.2.2.2.2.1 hP 0 (rfl) rfl 3 (by decide) (C.2.2.2.2.2.1 _ tw_64) (fun _ h9 => h9) rfl dX3_fillTrial_149 ?_
        refine lv_aload_n C.1 C.2.1 dX3_fillTrial_152 rfl (lv_at hl 3 rfl) ?_
        refine va_get (ci := 3) (C := RX3) (T := TX3) (N := 10) C.1 C.2.1 C.2.2.2.2.2.1 ui_X3 C.2.2.2.2.1 C.2.2.2.2.2.2.2.1 hP 0 (rfl) rfl 5 (by decide) (C.2.2.2.2.2.1 _ tw_66) (fun _ h9 => h9) rfl dX3_fillTrial_153 ?_
        refine cm_cV0 (q0 := 6) 1 C (k_X0_fillAll l D cI cZ cJ (cw ad cI X sd fn g (encA (1 - z) fm0 0 (chS (uR g (1 - z)) (kR g (1 - z)) (vR g (1 - z)) (sd w9) (key) (val)).2) σ ta lp lr) (qI := 6) (qA := 7) rfl rfl (by decide) (qM := 11) (qN := 12) rfl rfl (by decide) (by decide) _ hen.ok) tw_209 tw_210 tw_211 tw_2 tw_212 rfl rfl (rfl) rfl (by decide +kernel) ⟨Nat.le_of_ble_eq_true rfl, Nat.le_of_ble_eq_true rfl⟩ ⟨Nat.zero_le _, Nat.zero_le _⟩ hP hD hS hl.1 rfl rfl (Nat.le_of_ble_eq_true rfl) dX3_fillTrial_156 (fun H locs hP hD hS => ?_)
        rw [fillN_enc hen] at hP hD
        have hP : va_P D vwCl (cw ad cI X sd fn (fillM (absM (1 - z) (chS (uR g (1 - z)) (kR g (1 - z)) (vR g (1 - z)) (sd w9) (key) (val)).2) g) (encA (1 - z) fm0 0 (chS (uR g (1 - z)) (kR g (1 - z)) (vR g (1 - z)) (sd w9) (key) (val)).2) σ ta lp lr) H := hP
        have hD : va_D (cm_A (cw ad cI X sd fn ft fm σ ta lp lr)) (cw ad cI X sd fn (fillM (absM (1 - z) (chS (uR g (1 - z)) (kR g (1 - z)) (vR g (1 - z)) (sd w9) (key) (val)).2) g) (encA (1 - z) fm0 0 (chS (uR g (1 - z)) (kR g (1 - z)) (vR g (1 - z)) (sd w9) (key) (val)).2) σ ta lp lr) := hD
        refine lv_iconst (v := nI 1) C.1 C.2.1 dX3_fillTrial_159 (by decide +kernel) ?_
        exact cr_zret C hP hD hS dX3_fillTrial_160 (by decide +kernel) ⟨_, _, rfl, by rw [← hT]; simp [trL, trS, hfull, trR]⟩
    | succ k ih =>
      intro j g h hj hg hT ls H locs hl hP hD hS
      by_cases hu : uR fn z j = true
      · obtain ⟨fm0, hf0, hch⟩ := k_X3_choose l D cI cZ cJ (cw ad cI X sd fn g h σ ta lp lr) (qO := 0) rfl (qM := 11) (qN := 12) rfl rfl (qI := 6) (qA := 7) rfl rfl (by decide) (by decide) (by decide) (by decide) (1 - z) (by omega) hg (sd w9) (kR fn z j) (vR fn z j)
        obtain ⟨o1, o2, -⟩ := chS_ok (uR g (1 - z)) (kR g (1 - z)) (vR g (1 - z)) (sd w9) (kR fn z j) (vR fn z j)
        have hen := encA_enc (z := 1 - z) (by omega) hf0 o1 o2
        by_cases hfull : (chS (uR g (1 - z)) (kR g (1 - z)) (vR g (1 - z)) (sd w9) (kR fn z j) (vR fn z j)).1 = -2
        · refine lv_iload C.1 C.2.1 dX3_fillTrial_51 (lv_at hl 0 rfl) ?_
          refine lv_bipush (v := nI 36) C.1 C.2.1 dX3_fillTrial_53 (by decide +kernel) ?_
          refine lv_icmp_ge (tgt := 129) C.1 C.2.1 dX3_fillTrial_55 (by decide) (fun h => absurd h (nI_ge (by omega) (by decide))) (fun _ => ?_)
          refine lv_iload C.1 C.2.1 dX3_fillTrial_58 (lv_at hl 1 rfl) ?_
          refine lv_iload C.1 C.2.1 dX3_fillTrial_60 (lv_at hl 0 rfl) ?_
          refine lv_iadd C.1 C.2.1 dX3_fillTrial_62 ?_
          rw [nI_add]
          refine lv_istore (lv' := [(7, _), (6, _), (5, _), (4, _), (0, _), (1, _), (2, _), (3, _)]) C.1 C.2.1 dX3_fillTrial_63 hl (by decide) rfl (fun ls hl => ?_)
          refine lv_aload_n C.1 C.2.1 dX3_fillTrial_65 rfl (lv_at hl 4 rfl) ?_
          refine va_get (ci := 3) (C := RX3) (T := TX3) (N := 10) C.1 C.2.1 C.2.2.2.2.2.1 ui_X3 C.2.2.2.2.1 C.2.2.2.2.2.2.2.1 hP 0 (rfl) rfl 1 (by decide) (C.2.2.2.2.2.1 _ tw_62) (fun _ h9 => h9) rfl dX3_fillTrial_66 ?_
          refine lv_iload C.1 C.2.1 dX3_fillTrial_69 (lv_at hl 0 rfl) ?_
          refine cm_cV1 (q0 := 2) 1 C (k_X0_holds l D cI cZ cJ (cw ad cI X sd fn g h σ ta lp lr) (qI := 2) (qA := 3) rfl rfl (36 * z + j) (by omega)) tw_205 tw_206 tw_207 tw_2 tw_208 rfl rfl (rfl) rfl (by decide +kernel) ⟨Nat.le_of_ble_eq_true rfl, Nat.le_of_ble_eq_true rfl⟩ ⟨Nat.zero_le _, Nat.zero_le _⟩ hP hD hS hl.1 rfl rfl (Nat.le_of_ble_eq_true rfl) dX3_fillTrial_71 (fun H locs hP hD hS => ?_)
          rw [show decide (¬ uC fn (36 * z + j) = 0) = uR fn z j from rfl, hu]
          refine lv_if_eq (tgt := 123) C.1 C.2.1 dX3_fillTrial_74 (by decide) (fun h => absurd h (by decide)) (fun _ => ?_)
          refine lv_aload_n C.1 C.2.1 dX3_fillTrial_77 rfl (lv_at hl 4 rfl) ?_
          refine lv_aload_n C.1 C.2.1 dX3_fillTrial_78 rfl (lv_at hl 4 rfl) ?_
          refine va_get (ci := 3) (C := RX3) (T := TX3) (N := 10) C.1 C.2.1 C.2.2.2.2.2.1 ui_X3 C.2.2.2.2.1 C.2.2.2.2.2.2.2.1 hP 0 (rfl) rfl 3 (by decide) (C.2.2.2.2.2.1 _ tw_64) (fun _ h9 => h9) rfl dX3_fillTrial_79 ?_
          refine lv_iload C.1 C.2.1 dX3_fillTrial_82 (lv_at hl 3 rfl) ?_
          refine lv_aload_n C.1 C.2.1 dX3_fillTrial_84 rfl (lv_at hl 4 rfl) ?_
          refine va_get (ci := 3) (C := RX3) (T := TX3) (N := 10) C.1 C.2.1 C.2.2.2.2.2.1 ui_X3 C.2.2.2.2.1 C.2.2.2.2.2.2.2.1 hP 0 (rfl) rfl 1 (by decide) (C.2.2.2.2.2.1 _ tw_62) (fun _ h9 => h9) rfl dX3_fillTrial_85 ?_
          refine lv_iload C.1 C.2.1 dX3_fillTrial_88 (lv_at hl 0 rfl) ?_
          refine cm_cV1 (q0 := 2) 1 C (k_X0_keyAt l D cI cZ cJ (cw ad cI X sd fn g h σ ta lp lr) (qI := 2) (qA := 3) rfl rfl (36 * z + j) (by omega)) tw_174 tw_175 tw_176 tw_2 tw_177 rfl rfl (rfl) rfl (by decide +kernel) ⟨Nat.le_of_ble_eq_true rfl, Nat.le_of_ble_eq_true rfl⟩ ⟨Nat.zero_le _, Nat.zero_le _⟩ hP hD hS hl.1 rfl rfl (Nat.le_of_ble_eq_true rfl) dX3_fillTrial_90 (fun H locs hP hD hS => ?_)
          refine lv_aload_n C.1 C.2.1 dX3_fillTrial_93 rfl (lv_at hl 4 rfl) ?_
          refine va_get (ci := 3) (C := RX3) (T := TX3) (N := 10) C.1 C.2.1 C.2.2.2.2.2.1 ui_X3 C.2.2.2.2.1 C.2.2.2.2.2.2.2.1 hP 0 (rfl) rfl 1 (by decide) (C.2.2.2.2.2.1 _ tw_62) (fun _ h9 => h9) rfl dX3_fillTrial_94 ?_
          refine lv_iload C.1 C.2.1 dX3_fillTrial_97 (lv_at hl 0 rfl) ?_
          refine cm_cV1 (q0 := 2) 1 C (k_X0_valueAt l D cI cZ cJ (cw ad cI X sd fn g h σ ta lp lr) (qI := 2) (qA := 3) rfl rfl (36 * z + j) (by omega)) tw_184 tw_185 tw_186 tw_2 tw_187 rfl rfl (rfl) rfl (by decide +kernel) ⟨Nat.le_of_ble_eq_true rfl, Nat.le_of_ble_eq_true rfl⟩ ⟨Nat.zero_le _, Nat.zero_le _⟩ hP hD hS hl.1 rfl rfl (Nat.le_of_ble_eq_true rfl) dX3_fillTrial_99 (fun H locs hP hD hS => ?_)
          refine cm_cV1 (q0 := 0) 4 C (hch) tw_107 tw_109 ts_1 tw_1 tw_110 rfl rfl (rfl) rfl (by decide +kernel) ⟨Nat.le_of_ble_eq_true rfl, Nat.le_of_ble_eq_true rfl⟩ ⟨Nat.zero_le _, Nat.zero_le _⟩ hP hD hS hl.1 rfl rfl (Nat.le_of_ble_eq_true rfl) dX3_fillTrial_102 (fun H locs hP hD hS => ?_)
          have hP : va_P D vwCl (cw ad cI X sd fn g (encA (1 - z) fm0 0 (chS (uR g (1 - z)) (kR g (1 - z)) (vR g (1 - z)) (sd w9) (kR fn z j) (vR fn z j)).2) σ ta lp lr) H := hP
          have hD : va_D (cm_A (cw ad cI X sd fn ft fm σ ta lp lr)) (cw ad cI X sd fn g (encA (1 - z) fm0 0 (chS (uR g (1 - z)) (kR g (1 - z)) (vR g (1 - z)) (sd w9) (kR fn z j) (vR fn z j)).2) σ ta lp lr) := hD
          refine lv_bipush (v := (-2)) C.1 C.2.1 dX3_fillTrial_105 (by decide +kernel) ?_
          refine lv_icmp_ne (tgt := 112) C.1 C.2.1 dX3_fillTrial_107 (by decide) (fun h => absurd (hfull) h) (fun _ => ?_)
          refine lv_iconst (v := nI 0) C.1 C.2.1 dX3_fillTrial_110 (by decide +kernel) ?_
          exact cr_zret C hP hD hS dX3_fillTrial_111 (by decide +kernel) ⟨_, _, rfl, by rw [← hT]; simp [trL, hu, trS, hfull, trR]⟩
        · refine lv_iload C.1 C.2.1 dX3_fillTrial_51 (lv_at hl 0 rfl) ?_
          refine lv_bipush (v := nI 36) C.1 C.2.1 dX3_fillTrial_53 (by decide +kernel) ?_
          refine lv_icmp_ge (tgt := 129) C.1 C.2.1 dX3_fillTrial_55 (by decide) (fun h => absurd h (nI_ge (by omega) (by decide))) (fun _ => ?_)
          refine lv_iload C.1 C.2.1 dX3_fillTrial_58 (lv_at hl 1 rfl) ?_
          refine lv_iload C.1 C.2.1 dX3_fillTrial_60 (lv_at hl 0 rfl) ?_
          refine lv_iadd C.1 C.2.1 dX3_fillTrial_62 ?_
          rw [nI_add]
          refine lv_istore (lv' := [(7, _), (6, _), (5, _), (4, _), (0, _), (1, _), (2, _), (3, _)]) C.1 C.2.1 dX3_fillTrial_63 hl (by decide) rfl (fun ls hl => ?_)
          refine lv_aload_n C.1 C.2.1 dX3_fillTrial_65 rfl (lv_at hl 4 rfl) ?_
          refine va_get (ci := 3) (C := RX3) (T := TX3) (N := 10) C.1 C.2.1 C.2.2.2.2.2.1 ui_X3 C.2.2.2.2.1 C.2.2.2.2.2.2.2.1 hP 0 (rfl) rfl 1 (by decide) (C.2.2.2.2.2.1 _ tw_62) (fun _ h9 => h9) rfl dX3_fillTrial_66 ?_
          refine lv_iload C.1 C.2.1 dX3_fillTrial_69 (lv_at hl 0 rfl) ?_
          refine cm_cV1 (q0 := 2) 1 C (k_X0_holds l D cI cZ cJ (cw ad cI X sd fn g h σ ta lp lr) (qI := 2) (qA := 3) rfl rfl (36 * z + j) (by omega)) tw_205 tw_206 tw_207 tw_2 tw_208 rfl rfl (rfl) rfl (by decide +kernel) ⟨Nat.le_of_ble_eq_true rfl, Nat.le_of_ble_eq_true rfl⟩ ⟨Nat.zero_le _, Nat.zero_le _⟩ hP hD hS hl.1 rfl rfl (Nat.le_of_ble_eq_true rfl) dX3_fillTrial_71 (fun H locs hP hD hS => ?_)
          rw [show decide (¬ uC fn (36 * z + j) = 0) = uR fn z j from rfl, hu]
          refine lv_if_eq (tgt := 123) C.1 C.2.1 dX3_fillTrial_74 (by decide) (fun h => absurd h (by decide)) (fun _ => ?_)
          refine lv_aload_n C.1 C.2.1 dX3_fillTrial_77 rfl (lv_at hl 4 rfl) ?_
          refine lv_aload_n C.1 C.2.1 dX3_fillTrial_78 rfl (lv_at hl 4 rfl) ?_
          refine va_get (ci := 3) (C := RX3) (T := TX3) (N := 10) C.1 C.2.1 C.2.2.2.2.2.1 ui_X3 C.2.2.2.2.1 C.2.2.2.2.2.2.2.1 hP 0 (rfl) rfl 3 (by decide) (C.2.2.2.2.2.1 _ tw_64) (fun _ h9 => h9) rfl dX3_fillTrial_79 ?_
          refine lv_iload C.1 C.2.1 dX3_fillTrial_82 (lv_at hl 3 rfl) ?_
          refine lv_aload_n C.1 C.2.1 dX3_fillTrial_84 rfl (lv_at hl 4 rfl) ?_
          refine va_get (ci := 3) (C := RX3) (T := TX3) (N := 10) C.1 C.2.1 C.2.2.2.2.2.1 ui_X3 C.2.2.2.2.1 C.2.2.2.2.2.2.2.1 hP 0 (rfl) rfl 1 (by decide) (C.2.2.2.2.2.1 _ tw_62) (fun _ h9 => h9) rfl dX3_fillTrial_85 ?_
          refine lv_iload C.1 C.2.1 dX3_fillTrial_88 (lv_at hl 0 rfl) ?_
          refine cm_cV1 (q0 := 2) 1 C (k_X0_keyAt l D cI cZ cJ (cw ad cI X sd fn g h σ ta lp lr) (qI := 2) (qA := 3) rfl rfl (36 * z + j) (by omega)) tw_174 tw_175 tw_176 tw_2 tw_177 rfl rfl (rfl) rfl (by decide +kernel) ⟨Nat.le_of_ble_eq_true rfl, Nat.le_of_ble_eq_true rfl⟩ ⟨Nat.zero_le _, Nat.zero_le _⟩ hP hD hS hl.1 rfl rfl (Nat.le_of_ble_eq_true rfl) dX3_fillTrial_90 (fun H locs hP hD hS => ?_)
          refine lv_aload_n C.1 C.2.1 dX3_fillTrial_93 rfl (lv_at hl 4 rfl) ?_
          refine va_get (ci := 3) (C := RX3) (T := TX3) (N := 10) C.1 C.2.1 C.2.2.2.2.2.1 ui_X3 C.2.2.2.2.1 C.2.2.2.2.2.2.2.1 hP 0 (rfl) rfl 1 (by decide) (C.2.2.2.2.2.1 _ tw_62) (fun _ h9 => h9) rfl dX3_fillTrial_94 ?_
          refine lv_iload C.1 C.2.1 dX3_fillTrial_97 (lv_at hl 0 rfl) ?_
          refine cm_cV1 (q0 := 2) 1 C (k_X0_valueAt l D cI cZ cJ (cw ad cI X sd fn g h σ ta lp lr) (qI := 2) (qA := 3) rfl rfl (36 * z + j) (by omega)) tw_184 tw_185 tw_186 tw_2 tw_187 rfl rfl (rfl) rfl (by decide +kernel) ⟨Nat.le_of_ble_eq_true rfl, Nat.le_of_ble_eq_true rfl⟩ ⟨Nat.zero_le _, Nat.zero_le _⟩ hP hD hS hl.1 rfl rfl (Nat.le_of_ble_eq_true rfl) dX3_fillTrial_99 (fun H locs hP hD hS => ?_)
          refine cm_cV1 (q0 := 0) 4 C (hch) tw_107 tw_109 ts_1 tw_1 tw_110 rfl rfl (rfl) rfl (by decide +kernel) ⟨Nat.le_of_ble_eq_true rfl, Nat.le_of_ble_eq_true rfl⟩ ⟨Nat.zero_le _, Nat.zero_le _⟩ hP hD hS hl.1 rfl rfl (Nat.le_of_ble_eq_true rfl) dX3_fillTrial_102 (fun H locs hP hD hS => ?_)
          have hP : va_P D vwCl (cw ad cI X sd fn g (encA (1 - z) fm0 0 (chS (uR g (1 - z)) (kR g (1 - z)) (vR g (1 - z)) (sd w9) (kR fn z j) (vR fn z j)).2) σ ta lp lr) H := hP
          have hD : va_D (cm_A (cw ad cI X sd fn ft fm σ ta lp lr)) (cw ad cI X sd fn g (encA (1 - z) fm0 0 (chS (uR g (1 - z)) (kR g (1 - z)) (vR g (1 - z)) (sd w9) (kR fn z j) (vR fn z j)).2) σ ta lp lr) := hD
          refine lv_bipush (v := (-2)) C.1 C.2.1 dX3_fillTrial_105 (by decide +kernel) ?_
          refine lv_icmp_ne (tgt := 112) C.1 C.2.1 dX3_fillTrial_107 (by decide) (fun _ => ?_) (fun h => absurd h (hfull))
          refine lv_aload_n C.1 C.2.1 dX3_fillTrial_112 rfl (lv_at hl 4 rfl) ?_
          refine va_get (ci := 3) (C := RX3) (T := TX3) (N := 10) C.1 C.2.1 C.2.2.2.2.2.1 ui_X3 C.2.2.2.2.1 C.2.2.2.2.2.2.2.1 hP 0 (rfl) rfl 3 (by decide) (C.2.2.2.2.2.1 _ tw_64) (fun _ h9 => h9) rfl dX3_fillTrial_113 ?_
          refine lv_aload_n C.1 C.2.1 dX3_fillTrial_116 rfl (lv_at hl 4 rfl) ?_
          refine va_get (ci := 3) (C := RX3) (T := TX3) (N := 10) C.1 C.2.1 C.2.2.2.2.2.1 ui_X3 C.2.2.2.2.1 C.2.2.2.2.2.2.2.1 hP 0 (rfl) rfl 5 (by decide) (C.2.2.2.2.2.1 _ tw_66) (fun _ h9 => h9) rfl dX3_fillTrial_117 ?_
          refine cm_cV0 (q0 := 6) 1 C (k_X0_fillAll l D cI cZ cJ (cw ad cI X sd fn g (encA (1 - z) fm0 0 (chS (uR g (1 - z)) (kR g (1 - z)) (vR g (1 - z)) (sd w9) (kR fn z j) (vR fn z j)).2) σ ta lp lr) (qI := 6) (qA := 7) rfl rfl (by decide) (qM := 11) (qN := 12) rfl rfl (by decide) (by decide) _ hen.ok) tw_209 tw_210 tw_211 tw_2 tw_212 rfl rfl (rfl) rfl (by decide +kernel) ⟨Nat.le_of_ble_eq_true rfl, Nat.le_of_ble_eq_true rfl⟩ ⟨Nat.zero_le _, Nat.zero_le _⟩ hP hD hS hl.1 rfl rfl (Nat.le_of_ble_eq_true rfl) dX3_fillTrial_120 (fun H locs hP hD hS => ?_)
          rw [fillN_enc hen] at hP hD
          have hP : va_P D vwCl (cw ad cI X sd fn (fillM (absM (1 - z) (chS (uR g (1 - z)) (kR g (1 - z)) (vR g (1 - z)) (sd w9) (kR fn z j) (vR fn z j)).2) g) (encA (1 - z) fm0 0 (chS (uR g (1 - z)) (kR g (1 - z)) (vR g (1 - z)) (sd w9) (kR fn z j) (vR fn z j)).2) σ ta lp lr) H := hP
          have hD : va_D (cm_A (cw ad cI X sd fn ft fm σ ta lp lr)) (cw ad cI X sd fn (fillM (absM (1 - z) (chS (uR g (1 - z)) (kR g (1 - z)) (vR g (1 - z)) (sd w9) (kR fn z j) (vR fn z j)).2) g) (encA (1 - z) fm0 0 (chS (uR g (1 - z)) (kR g (1 - z)) (vR g (1 - z)) (sd w9) (kR fn z j) (vR fn z j)).2) σ ta lp lr) := hD
          refine lv_iinc (v := nI (j + 1)) (lv' := [(6, _), (7, _), (5, _), (4, _), (0, _), (1, _), (2, _), (3, _)]) C.1 C.2.1 dX3_fillTrial_123 hl (k := 1) rfl (nI_1 j) (by decide) rfl (fun ls hl => ?_)
          refine lv_goto (tgt := 51) C.1 C.2.1 dX3_fillTrial_126 (by decide) ?_
          exact ih (j + 1) (fillM (absM (1 - z) (chS (uR g (1 - z)) (kR g (1 - z)) (vR g (1 - z)) (sd w9) (kR fn z j) (vR fn z j)).2) g) (encA (1 - z) fm0 0 (chS (uR g (1 - z)) (kR g (1 - z)) (vR g (1 - z)) (sd w9) (kR fn z j) (vR fn z j)).2) (by omega) (by rw [fillM_hi (by decide) _ _ (absM_lt (by omega) o2)]; exact hg) (by rw [← hT]; simp [trL, hu, trS, hfull]) ls H locs (lv_sub hl [0, 2, 3, 4, 5, 6, 7] rfl) hP hD hS
      · refine lv_iload C.1 C.2.1 dX3_fillTrial_51 (lv_at hl 0 rfl) ?_
        refine lv_bipush (v := nI 36) C.1 C.2.1 dX3_fillTrial_53 (by decide +kernel) ?_
        refine lv_icmp_ge (tgt := 129) C.1 C.2.1 dX3_fillTrial_55 (by decide) (fun h => absurd h (nI_ge (by omega) (by decide))) (fun _ => ?_)
        refine lv_iload C.1 C.2.1 dX3_fillTrial_58 (lv_at hl 1 rfl) ?_
        refine lv_iload C.1 C.2.1 dX3_fillTrial_60 (lv_at hl 0 rfl) ?_
        refine lv_iadd C.1 C.2.1 dX3_fillTrial_62 ?_
        rw [nI_add]
        refine lv_istore (lv' := [(7, _), (6, _), (5, _), (4, _), (0, _), (1, _), (2, _), (3, _)]) C.1 C.2.1 dX3_fillTrial_63 hl (by decide) rfl (fun ls hl => ?_)
        refine lv_aload_n C.1 C.2.1 dX3_fillTrial_65 rfl (lv_at hl 4 rfl) ?_
        refine va_get (ci := 3) (C := RX3) (T := TX3) (N := 10) C.1 C.2.1 C.2.2.2.2.2.1 ui_X3 C.2.2.2.2.1 C.2.2.2.2.2.2.2.1 hP 0 (rfl) rfl 1 (by decide) (C.2.2.2.2.2.1 _ tw_62) (fun _ h9 => h9) rfl dX3_fillTrial_66 ?_
        refine lv_iload C.1 C.2.1 dX3_fillTrial_69 (lv_at hl 0 rfl) ?_
        refine cm_cV1 (q0 := 2) 1 C (k_X0_holds l D cI cZ cJ (cw ad cI X sd fn g h σ ta lp lr) (qI := 2) (qA := 3) rfl rfl (36 * z + j) (by omega)) tw_205 tw_206 tw_207 tw_2 tw_208 rfl rfl (rfl) rfl (by decide +kernel) ⟨Nat.le_of_ble_eq_true rfl, Nat.le_of_ble_eq_true rfl⟩ ⟨Nat.zero_le _, Nat.zero_le _⟩ hP hD hS hl.1 rfl rfl (Nat.le_of_ble_eq_true rfl) dX3_fillTrial_71 (fun H locs hP hD hS => ?_)
        rw [show decide (¬ uC fn (36 * z + j) = 0) = uR fn z j from rfl, Bool.eq_false_iff.mpr hu]
        refine lv_if_eq (tgt := 123) C.1 C.2.1 dX3_fillTrial_74 (by decide) (fun _ => ?_) (fun h => absurd (by decide) h)
        refine lv_iinc (v := nI (j + 1)) (lv' := [(6, _), (7, _), (5, _), (4, _), (0, _), (1, _), (2, _), (3, _)]) C.1 C.2.1 dX3_fillTrial_123 hl (k := 1) rfl (nI_1 j) (by decide) rfl (fun ls hl => ?_)
        refine lv_goto (tgt := 51) C.1 C.2.1 dX3_fillTrial_126 (by decide) ?_
        exact ih (j + 1) g h (by omega) hg (by rw [← hT]; simp [trL, hu]) ls H locs (lv_sub hl [0, 2, 3, 4, 5, 6, 7] rfl) hP hD hS
  exact loop 36 0 (tr0 z w9) fm rfl (by unfold tr0; rw [pk_un (by decide), pk_us]) hT9 ls H locs hl hP hD hS
