/-! ===== sync, crash, seed; what is asked ===== -/
theorem INV.sync {n : Nat} {sd fn : Nat → Int32} {σ : WS} {ta lp lr : Int32} {I : Nat → Int32} {A : Nat → Nat → Int32} (h : INV n sd fn σ ta lp lr I A) :
    INV n sd fn (doN σ.2.1 σ.2.2.1 0 σ.2.2.2.1 σ.1, σ.2.1, σ.2.2.1, 0, σ.2.2.2.2) ta lp lr (flsh (I, A) σ.2.2.2.1).1 (flsh (I, A) σ.2.2.2.1).2 := by
  obtain ⟨⟨h1, h2, h3, h4, h5, h6, h7, h8⟩, hPI, h418, he, h0⟩ := h
  have sm := finN_same σ.2.2.2.1 0 (I, A)
  have hF := finN_FR (fr := σ.2.1) (fw := σ.2.2.1) σ.2.2.2.1 0 h8.1 (fun i _ hi => h8.2.2.2.2 i (by omega))
  have hI : ∀ i, (i ≠ 14 ∧ i ≠ 15 ∧ i ≠ 16) → i ≠ 20 → (flsh (I, A) σ.2.2.2.1).1 i = I i := fun i a b => (va_up_ne _ _ b).trans (sm.2 i a)
  have hA : ∀ i, (i = 1 ∨ i = 2 ∨ i = 3 ∨ i = 4) → (flsh (I, A) σ.2.2.2.1).2 i = A i := fun i a => sm.1 i (by omega)
  refine ⟨⟨?_, ?_, ?_, ?_, ?_, ?_, ?_, ?_, ?_, ?_, ?_, ?_⟩, ?_, h418, he, fun e0 => ?_⟩
  · rw [hA 4 (by simp)]; exact h1
  · rw [hA 1 (by simp), hA 2 (by simp), hA 3 (by simp)]; exact h2
  · rw [hI 5 (by decide) (by decide)]; exact h3
  · rw [hI 6 (by decide) (by decide)]; exact h4
  · rw [hI 31 (by decide) (by decide)]; exact h5
  · rw [hI 32 (by decide) (by decide)]; exact h6
  · rw [hI 33 (by decide) (by decide)]; exact h7
  · exact hF.c ⟨rfl, rfl, rfl⟩ ⟨rfl, rfl, rfl, rfl, rfl, rfl⟩
  · exact ⟨Nat.zero_le _, fun j hj => absurd hj (Nat.not_lt_zero _)⟩
  · exact ⟨Nat.zero_le _, rfl, fun j hj => absurd hj (Nat.not_lt_zero _)⟩
  · rw [hI 21 (by decide) (by decide)]; exact h8.2.2.2.1
  · exact fun j hj => absurd hj (Nat.not_lt_zero _)
  · exact ⟨fun k hk => by
      rw [show k = 0 from Nat.le_zero.mp hk]
      exact hPI.1 _ (Nat.le_refl _), hPI.2⟩
  · obtain ⟨t1, t2⟩ := h0 e0
    refine ⟨rfl, ?_⟩
    show ∀ i, i < 440 → fn i = nI 0 ∧ doN σ.2.1 σ.2.2.1 0 σ.2.2.2.1 σ.1 i = nI 0
    rw [t1]
    exact t2
theorem rdo_IR {M : List (Nat × Int32 × Int32)} : ∀ (k j : Nat) (f : Nat → Int32) (A : Nat → Nat → Int32), j + k = M.length → (∀ (i : Nat) (m : Nat × Int32 × Int32), M[i]? = some m → A 17 i = nI m.1 ∧ A 18 i = m.2.1 ∧ A 19 i = m.2.2 ∧ m.1 < 72) → IR f (A 11) (A 12) (A 13) →
    IR (fillM (M.drop j) f) (rdo j k A 11) (rdo j k A 12) (rdo j k A 13) ∧ ∀ i, i ≠ 11 → i ≠ 12 → i ≠ 13 → rdo j k A i = A i := by
  intro k
  induction k with
  | zero =>
    intro j f A hj _ hI
    rw [List.drop_eq_nil_of_le (by omega)]
    exact ⟨hI, fun _ _ _ _ => rfl⟩
  | succ k ih =>
    intro j f A hj hm hI
    have hj9 : j < M.length := by omega
    have e := List.getElem?_eq_getElem hj9
    obtain ⟨a1, a2, a3, a4⟩ := hm j _ e
    have hc : (A 17 j).toNatClampNeg = (M[j]'hj9).1 := by rw [a1]; exact nI_clamp (by omega)
    have hd : M.drop j = M[j]'hj9 :: M.drop (j + 1) := List.drop_eq_getElem_cons hj9
    have hI1 : IR (fillC f (M[j]'hj9).1 (M[j]'hj9).2.1 (M[j]'hj9).2.2) (rd1 j A 11) (rd1 j A 12) (rd1 j A 13) := by
      intro q hq
      obtain ⟨e1, e2, e3⟩ := fillC_at f (M[j]'hj9).1 (M[j]'hj9).2.1 (M[j]'hj9).2.2 q
      have g1 : rd1 j A 11 q = if q = (M[j]'hj9).1 then nI 1 else A 11 q := by rw [← hc]; rfl
      have g2 : rd1 j A 12 q = if q = (M[j]'hj9).1 then (M[j]'hj9).2.1 else A 12 q := by rw [← hc, ← a2]; rfl
      have g3 : rd1 j A 13 q = if q = (M[j]'hj9).1 then (M[j]'hj9).2.2 else A 13 q := by rw [← hc, ← a3]; rfl
      by_cases hp : q = (M[j]'hj9).1
      · rw [if_pos hp] at e1 e2 e3 g1 g2 g3
        exact SR.new e1 g1 (g2.trans e2.symm) (g3.trans e3.symm)
      · rw [if_neg hp] at e1 e2 e3 g1 g2 g3
        exact (hI q hq).c ⟨e1, e2, e3⟩ ⟨g1, g2, g3⟩
    have hs : ∀ i, i ≠ 11 → i ≠ 12 → i ≠ 13 → rd1 j A i = A i := fun i h1 h2 h3 => (va_up_ne _ _ h3).trans ((va_up_ne _ _ h2).trans (va_up_ne _ _ h1))
    obtain ⟨g1, g2⟩ := ih (j + 1) _ (rd1 j A) (by omega) (fun i m hq => by
      rw [hs 17 (by decide) (by decide) (by decide), hs 18 (by decide) (by decide) (by decide), hs 19 (by decide) (by decide) (by decide)]
      exact hm i m hq) hI1
    rw [hd, fillM_cons]
    exact ⟨g1, fun i h1 h2 h3 => (g2 i h1 h2 h3).trans (hs i h1 h2 h3)⟩
theorem cpN_at (fd : Nat → Int32) : ∀ (k j : Nat) (f : Nat → Int32) (i : Nat), cpN fd j k f i = if j * 22 ≤ i ∧ i < (j + k) * 22 then fd i else f i := by
  intro k
  induction k with
  | zero => intro j f i; rw [if_neg (by omega)]; rfl
  | succ k ih =>
    intro j f i
    simp only [cpN]
    rw [ih]
    by_cases h1 : (j + 1) * 22 ≤ i ∧ i < (j + 1 + k) * 22
    · rw [if_pos h1, if_pos (by omega)]
    · rw [if_neg h1]
      by_cases h2 : j * 22 ≤ i ∧ i < j * 22 + 22
      · rw [cpy_in h2.1 h2.2, if_pos (by omega), show j * 22 + (i - j * 22) = i by omega]
      · rw [cpy_out (by omega), if_neg (by omega)]
set_option maxHeartbeats 1000000 in
theorem INV.crash {n : Nat} {sd fn : Nat → Int32} {σ : WS} {ta lp lr : Int32} {I : Nat → Int32} {A : Nat → Nat → Int32} (h : INV n sd fn σ ta lp lr I A) (kk : Nat) (hkk : kk ≤ σ.2.2.2.1) (fm : Nat → Int32) : ∃ t9, t9 ≤ 7 ∧ mOk (va_cpy (doN σ.2.1 σ.2.2.1 0 kk σ.1) fm 418 0 22) t9 ∧ (finN 0 kk (I, A)).1 16 = nI t9 ∧ (∀ j, j < t9 → (finN 0 kk (I, A)).2 17 j = nI ((finN 0 kk (I, A)).2 17 j).toNatClampNeg ∧ ((finN 0 kk (I, A)).2 17 j).toNatClampNeg < 72) ∧
    INV n sd (cpN (upd (fillN (va_cpy (doN σ.2.1 σ.2.2.1 0 kk σ.1) fm 418 0 22) 0 t9 (doN σ.2.1 σ.2.2.1 0 kk σ.1)) 418 (nI 0)) 0 20 fn) (upd (fillN (va_cpy (doN σ.2.1 σ.2.2.1 0 kk σ.1) fm 418 0 22) 0 t9 (doN σ.2.1 σ.2.2.1 0 kk σ.1)) 418 (nI 0), σ.2.1, σ.2.2.1, 0, σ.2.2.2.2) ta lp (nI t9) (crI (finN 0 kk (I, A)).1) (cpD 72 (rdo 0 t9 (finN 0 kk (I, A)).2)) := by
  obtain ⟨⟨h1, h2, h3, h4, h5, h6, h7, h8⟩, hPI, h418, he, h0⟩ := h
  have sm := finN_same kk 0 (I, A)
  have hF := finN_FR (fr := σ.2.1) (fw := σ.2.2.1) kk 0 h8.1 (fun i _ hi => h8.2.2.2.2 i (by omega))
  have hG := hPI.1 kk hkk
  have hz9 : σ.2.2.2.2 = 0 → ∀ i, i < 440 → doN σ.2.1 σ.2.2.1 0 kk σ.1 i = nI 0 := fun e0 i hi => by
    obtain ⟨t1, t2⟩ := h0 e0
    rw [show kk = 0 by omega]
    exact (t2 i hi).2
  generalize doN σ.2.1 σ.2.2.1 0 kk σ.1 = fd1 at hF hG hz9 ⊢
  generalize finN 0 kk (I, A) = st0 at sm hF ⊢
  obtain ⟨z, y, M, hz, hy, e1, e2, hm, hk⟩ := hG
  have hm1 : mEnc (va_cpy fd1 fm 418 0 22) M := by
    have hr : ∀ x, x < 22 → va_cpy fd1 fm 418 0 22 x = fd1 (418 + x) := fun x hx => by rw [cpy_in (Nat.zero_le _) (by omega), Nat.sub_zero]
    refine ⟨hm.1, (hr 0 (by decide)).trans hm.2.1, fun j m hj => ?_⟩
    have hj9 : j < M.length := (List.getElem?_eq_some_iff.mp hj).1
    have := hm.1
    rw [hr _ (by omega), hr _ (by omega), hr _ (by omega)]
    exact hm.2.2 j m hj
  have hM : ∀ m ∈ M, m.1 < 72 := fun m hq => by
    obtain ⟨j, hj⟩ := List.mem_iff_getElem?.mp hq
    exact (hm.2.2 j m hj).2.2.2
  obtain ⟨F1, ⟨F2, F3⟩, F4, n0, hn0, F5, F6⟩ := hF
  have h16 : st0.1 16 = nI M.length := F4.trans hm.2.1
  have hl := hm.1
  have hn9 : n0 = M.length := (nI_eq (by omega) (by omega)).mp (F5.symm.trans h16)
  have hj17 : ∀ (i : Nat) (m : Nat × Int32 × Int32), M[i]? = some m → st0.2 17 i = nI m.1 ∧ st0.2 18 i = m.2.1 ∧ st0.2 19 i = m.2.2 ∧ m.1 < 72 := fun i m hq => by
    have hi9 : i < M.length := (List.getElem?_eq_some_iff.mp hq).1
    obtain ⟨b1, b2, b3⟩ := F6 i (by omega)
    obtain ⟨c1, c2, c3, c4⟩ := hm.2.2 i m hq
    exact ⟨b1.trans c1, b2.trans c2, b3.trans c3, c4⟩
  refine ⟨M.length, hl, hm1.ok, h16, fun j hj => ?_, ?_⟩
  · obtain ⟨b1, -, -, b4⟩ := hj17 j _ (List.getElem?_eq_getElem hj)
    rw [b1, nI_clamp (by omega)]
    exact ⟨rfl, b4⟩
  · rw [fillN_enc hm1]
    obtain ⟨D1, D2⟩ := rdo_IR M.length 0 fd1 st0.2 (Nat.zero_add _) hj17 F1
    rw [List.drop_zero] at D1
    generalize rdo 0 M.length st0.2 = B at D1 D2 ⊢
    have g1 : ∀ i, i ≠ 418 → upd (fillM M fd1) 418 (nI 0) i = fillM M fd1 i := fun i hi => upd_n hi
    have g2 : ∀ i, 396 ≤ i → i ≠ 418 → upd (fillM M fd1) 418 (nI 0) i = fd1 i := fun i a b => by rw [g1 i b, fillM_hi a M fd1 hM]
    have g3 : ∀ p, p < 72 → sl (upd (fillM M fd1) 418 (nI 0)) p = sl (fillM M fd1) p := fun p hp => sl_c (fun i hi => g1 i (by omega)) hp
    have gn : ∀ i, i < 440 → cpN (upd (fillM M fd1) 418 (nI 0)) 0 20 fn i = upd (fillM M fd1) 418 (nI 0) i := fun i hi => by rw [cpN_at, if_pos (by omega)]
    have g0 : σ.2.2.2.2 = 0 → ∀ i, i < 440 → upd (fillM M fd1) 418 (nI 0) i = nI 0 := fun e0 i hi => by
      by_cases hi9 : i = 418
      · rw [hi9]; exact upd_s _ _ _
      · have hl0 : M.length = 0 := by
          have := (hz9 e0 418 (by decide)).symm.trans hm.2.1
          have := (nI_eq (by omega) (by omega)).mp this
          omega
        rw [g1 i hi9, List.eq_nil_of_length_eq_zero hl0]
        exact hz9 e0 i hi
    have hKG : KG (uR (upd (fillM M fd1) 418 (nI 0)) z) (kR (upd (fillM M fd1) 418 (nI 0)) z) (sd y) := hk.sub (fun i hi ui => by
      have hr := sl_R (g3 (36 * z + i) (by omega))
      rw [← hr.1, ← hr.2.1]
      exact ⟨ui, rfl⟩)
    have hGd : Gd sd (upd (fillM M fd1) 418 (nI 0)) := Gd.of0 hz hy ((g2 _ (by decide) (by decide)).trans e1) ((g2 _ (by decide) (by decide)).trans e2) (upd_s _ _ _) hKG
    have g418 : upd (fillM M fd1) 418 (nI 0) 418 = nI 0 := upd_s _ _ _
    generalize upd (fillM M fd1) 418 (nI 0) = fd2 at g1 g2 g3 gn g0 g418 hKG hGd ⊢
    have c1 : ∀ i, i ≠ 1 → i ≠ 2 → i ≠ 3 → cpD 72 B i = B i := fun i a b c => (va_up_ne _ _ c).trans ((va_up_ne _ _ b).trans (va_up_ne _ _ a))
    have hsl : ∀ p, p < 72 → sl (cpN fd2 0 20 fn) p = sl (fillM M fd1) p := fun p hp => (sl_c (fun i hi => gn i (by omega)) hp).trans (g3 p hp)
    refine ⟨⟨?_, ?_, ?_, ?_, ?_, ?_, ?_, ⟨?_, ⟨?_, ?_⟩, ?_⟩, ?_, ?_, ?_, ?_⟩, ?_, ?_, he, fun e0 => ⟨rfl, fun i hi => ⟨(gn i hi).trans (g0 e0 i hi), g0 e0 i hi⟩⟩⟩
    · rw [c1 4 (by decide) (by decide) (by decide), D2 4 (by decide) (by decide) (by decide), sm.1 4 (by simp)]; exact h1
    · intro p hp
      have b1 : cpD 72 B 1 p = B 11 p := by
        show va_cpy (nz (B 11)) (B 1) 0 0 72 p = _
        rw [cpy_in (Nat.zero_le _) (by omega), Nat.sub_zero, Nat.zero_add, nz_b (D1 p hp).1]
        exact (D1 p hp).1.symm
      have b2 : cpD 72 B 2 p = B 12 p := by
        show va_cpy (B 12) (B 2) 0 0 72 p = _
        rw [cpy_in (Nat.zero_le _) (by omega), Nat.sub_zero, Nat.zero_add]
      have b3 : cpD 72 B 3 p = B 13 p := by
        show va_cpy (B 13) (B 3) 0 0 72 p = _
        rw [cpy_in (Nat.zero_le _) (by omega), Nat.sub_zero, Nat.zero_add]
      exact SR_sl ((D1 p hp).c ⟨rfl, rfl, rfl⟩ ⟨b1, b2, b3⟩) (hsl p hp)
    · show st0.1 14 = _
      rw [gn _ (by decide), g2 _ (by decide) (by decide)]; exact F2
    · show st0.1 15 = _
      rw [gn _ (by decide), g2 _ (by decide) (by decide)]; exact F3
    · show st0.1 31 = _
      rw [sm.2 31 (by decide)]; exact h5
    · show st0.1 32 = _
      rw [sm.2 32 (by decide)]; exact h6
    · exact h16
    · show IR fd2 (cpD 72 B 11) (cpD 72 B 12) (cpD 72 B 13)
      rw [c1 11 (by decide) (by decide) (by decide), c1 12 (by decide) (by decide) (by decide), c1 13 (by decide) (by decide) (by decide)]
      exact fun p hp => SR_sl (D1 p hp) (g3 p hp)
    · show st0.1 14 = fd2 396
      rw [g2 _ (by decide) (by decide)]; exact F2
    · show st0.1 15 = fd2 397
      rw [g2 _ (by decide) (by decide)]; exact F3
    · exact ⟨g418.symm, 0, Nat.zero_le _, rfl, fun i hi => absurd hi (Nat.not_lt_zero _)⟩
    · exact ⟨Nat.zero_le _, fun j hj => absurd hj (Nat.not_lt_zero _)⟩
    · exact ⟨Nat.zero_le _, rfl, fun j hj => absurd hj (Nat.not_lt_zero _)⟩
    · show st0.1 21 = _
      rw [sm.2 21 (by decide)]; exact h8.2.2.2.1
    · exact fun j hj => absurd hj (Nat.not_lt_zero _)
    · exact ⟨fun k hk9 => by
        rw [show k = 0 from Nat.le_zero.mp hk9]
        exact hGd, fun i hi => (gn i hi).symm⟩
    · exact (gn _ (by decide)).trans g418
theorem INV.seed {n : Nat} {sd fn : Nat → Int32} {σ : WS} {ta lp lr : Int32} {I : Nat → Int32} {A : Nat → Nat → Int32} (h : INV n sd fn σ ta lp lr I A) (he0 : σ.2.2.2.2 = 0) (k : Nat) (v : Int32) : INV n (upd sd k v) fn σ ta lp lr I (va_up A 4 (upd (A 4) k v)) := by
  obtain ⟨⟨h1, h2, h3, h4, h5, h6, h7, h8⟩, hPI, h418, he, h0⟩ := h
  obtain ⟨t1, t2⟩ := h0 he0
  have hg : Gd (upd sd k v) σ.1 := by
    have hf : ∀ i, i < 36 → uR σ.1 0 i = false := fun i hi => by
      have := ix_lt (p := 36 * 0 + i) (by omega)
      unfold uR uC
      rw [(t2 _ (by omega)).2]
      decide +kernel
    exact Gd.of0 (z := 0) (y := 0) (by decide) (by decide) (t2 _ (by decide)).2 (t2 _ (by decide)).2 (t2 _ (by decide)).2 ⟨fun i j hi _ ui _ _ => absurd ui (by rw [hf i hi]; decide), fun i hi ui => absurd ui (by rw [hf i hi]; decide)⟩
  refine ⟨⟨fun i hi => ?_, h2, h3, h4, h5, h6, h7, h8.c (fun _ _ => rfl) (fun i hi _ => va_up_ne _ _ (by omega))⟩, ⟨fun j hj => ?_, hPI.2⟩, h418, he, h0⟩
  · show upd (A 4) k v i = upd sd k v i
    unfold upd
    by_cases hk : i = k
    · rw [if_pos hk, if_pos hk]
    · rw [if_neg hk, if_neg hk]; exact h1 i hi
  · rw [show j = 0 by omega]; exact hg
theorem hm2_ne (s k : Int32) : hm2 s k ≠ hm1 s k := by
  have := hm1_lt s k
  unfold hm2
  split
  · omega
  · assumption
theorem rd_eq (u : Nat → Bool) (k : Nat → Int32) (s key : Int32) : rdS u k s key = rdM u k s key := by
  have q1 := hm1_lt s key
  have q2 := hm2_lt s key
  have q3 := hm2_ne s key
  unfold rdS rdM findS
  cases h1 : atS u k key (hm1 s key) with
  | some i =>
    have := (atS_lt h1 (by omega)).2.1
    dsimp only
    rw [if_neg (by omega), if_pos this]
  | none =>
    dsimp only
    cases h2 : atS u k key (hm2 s key) with
    | some i =>
      have := (atS_lt h2 (by omega)).2.1
      dsimp only
      rw [if_neg (by omega), if_neg (by omega)]
    | none =>
      dsimp only
      cases h3 : atS u k key 8 with
      | some i =>
        have := (atS_lt h3 (by omega)).2.1
        dsimp only
        rw [if_pos this]
      | none => rfl
theorem rdM_c {u u' : Nat → Bool} {k v k' v' : Nat → Int32} (h : teq u k v u' k' v') (s key : Int32) : rdM u k s key = rdM u' k' s key := by
  have q1 := hm1_lt s key
  have q2 := hm2_lt s key
  unfold rdM
  rw [atS_c h key (show hm1 s key < 9 by omega), atS_c h key (show hm2 s key < 9 by omega)]
theorem cnt_c {P Q : Nat → Bool} : ∀ (k a b : Nat), (∀ i, i < k → Q (a + i) = P (b + i)) → cnt Q a k = cnt P b k := by
  intro k
  induction k with
  | zero => intro a b _; rfl
  | succ k ih =>
    intro a b h
    rw [cntG, cntG, show Q a = P b from h 0 (by omega), ih (a + 1) (b + 1) (fun i hi => by
      have := h (i + 1) (by omega)
      rw [show a + 1 + i = a + (i + 1) by omega, show b + 1 + i = b + (i + 1) by omega]
      exact this)]
theorem cnt_add (P : Nat → Bool) : ∀ (m a n : Nat), cnt P a (m + n) = cnt P a m + cnt P (a + m) n := by
  intro m
  induction m with
  | zero => intro a n; rw [Nat.zero_add, Nat.add_zero]; show _ = 0 + _; rw [Nat.zero_add]
  | succ m ih =>
    intro a n
    rw [show m + 1 + n = (m + n) + 1 by omega, cntG, cntG, ih (a + 1) n, show a + 1 + m = a + (m + 1) by omega, Nat.add_assoc]
/-- used SLOTS of a PAGE, counted in both -/
theorem cnt_row {f : Nat → Int32} {A : Nat → Nat → Int32} (h : IR f (A 1) (A 2) (A 3)) {r : Nat} (hr : r < 18) : cnt (fun i => !emP f r i) 0 4 = cnt (fun i => decide (¬ A 1 i = 0)) (4 * r) 4 := by
  refine cnt_c 4 0 (4 * r) (fun i hi => ?_)
  rw [(h (4 * r + i) (by omega)).1, bI_ne, Nat.zero_add]
  unfold emP uC
  rw [show ix (4 * r + i) = r * 22 + i * 3 by unfold ix; omega]
  by_cases h0 : f (r * 22 + i * 3) = 0 <;> simp [h0]
theorem all_eq {f : Nat → Int32} {A : Nat → Nat → Int32} (h : IR f (A 1) (A 2) (A 3)) {z : Nat} (hz : z < 2) : ∀ (k j : Nat), j + k ≤ 9 → allN f z j k = cnt (fun i => decide (¬ A 1 i = 0)) (36 * z + 4 * j) (4 * k) := by
  intro k
  induction k with
  | zero => intro j _; rfl
  | succ k ih =>
    intro j hj
    simp only [allN]
    rw [cnt_row h (by omega), ih (j + 1) (by omega), show 4 * (k + 1) = 4 + 4 * k by omega, cnt_add, show 4 * (z * 9 + j) = 36 * z + 4 * j by omega, show 36 * z + 4 * (j + 1) = 36 * z + 4 * j + 4 by omega]
