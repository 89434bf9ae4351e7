/-! ===== put, in both ===== -/
theorem tsR_none {zz : Nat} {s : Int32} {K : Int32 → Prop} {x : Option (Nat → Int32)} (h : tsR zz s K x none) : x = none := by
  cases x with
  | none => rfl
  | some f => exact h.elim
theorem tsR_some {zz : Nat} {s : Int32} {K : Int32 → Prop} {x : Option (Nat → Int32)} {F : Nat → Nat → Int32} (h : tsR zz s K x (some F)) : ∃ f, x = some f ∧ TR f zz F ∧ KG (uR f zz) (kR f zz) s := by
  cases x with
  | none => exact h.elim
  | some f => exact ⟨f, rfl, h.1, h.2.1⟩
set_option maxHeartbeats 2000000 in
theorem INV.put {n : Nat} {sd fn : Nat → Int32} {σ : WS} {ta lp lr : Int32} {I : Nat → Int32} {A : Nat → Nat → Int32} (h : INV n sd fn σ ta lp lr I A) {z y : Nat} (hz : z < 2) (hy : y < 4) (hz1 : fn 396 = nI z) (hy1 : fn 397 = nI y) (hk : KG (uR fn z) (kR fn z) (sd y))
    {ad ad' : Nat → Nat} {cI cZ : ClassId} {X X' : va_W} {key val r r' : Int32} {w1 w1' : va_W} (hc : putE ad cI X sd fn σ ta lp lr z y key val r w1) (hm : mpE ad' cI cZ X' I A z y σ.2.2.2.1 key val r' w1') :
    r = r' ∧ ∃ (fn' ft' fm' : Nat → Int32) (σ' : WS) (ta' lp' : Int32) (I' : Nat → Int32) (A' : Nat → Nat → Int32), w1 = cw ad cI X sd fn' ft' fm' σ' ta' lp' lr ∧ w1' = mw ad' cI cZ X' I' A' ∧ INV (n + 10) sd fn' σ' ta' lp' lr I' A' := by
  have hte := h.1.2.1.teq hz
  have hA4 : A 4 y = sd y := h.1.1 y hy
  have hfe : findS (uR fn z) (kR fn z) (sd y) key = findS (uM A z) (kM A z) (A 4 y) key := by rw [hA4]; exact findS_c hte _ _
  have hce : ch0 (uR fn z) (kR fn z) (vR fn z) (sd y) key val = ch0 (uM A z) (kM A z) (vM A z) (A 4 y) key val := by rw [hA4]; exact ch0_c hte _ _ _
  have h1 : INV n sd fn σ ta lp lr (va_up I 0 (nI 0)) A := h.c (fun i a _ _ => va_up_ne _ _ a) (fun _ _ _ _ _ _ _ _ => rfl) eq72.rf
  have h418 := h.2.2.1
  have gdF : ∀ p, p < 36 → KG (uR (fillC fn (36 * z + p) key val) z) (kR (fillC fn (36 * z + p) key val) z) (sd y) → Gd sd (fillC fn (36 * z + p) key val) := fun p hp hkg =>
    Gd.of0 hz hy ((fillC_hi (by omega) (by decide)).trans hz1) ((fillC_hi (by omega) (by decide)).trans hy1) ((fillC_hi (by omega) (by decide)).trans h418) hkg
  obtain ⟨ft1, fm1, hc⟩ := hc
  cases hf : findS (uM A z) (kM A z) (A 4 y) key with
  | some i9 =>
    obtain ⟨i36, iu, ik⟩ := findS_lt (hfe.trans hf)
    have hch : chS (uR fn z) (kR fn z) (vR fn z) (sd y) key val = (nI 0, [(i9, key, val)]) := by unfold chS; rw [hfe, hf]
    rw [hch] at hc
    have hw1 : r = nI 0 ∧ w1 = cw ad cI X sd (fillC fn (36 * z + i9) key val) ft1 fm1 (wr (fillC fn (36 * z + i9) key val) ((36 * z + i9) / 4) σ) ta lp lr := by
      rcases hc with ⟨_, _, h2, _⟩ | ⟨_, hr, _, hw⟩ | ⟨h2, _⟩ | ⟨h2, _⟩
      · exact absurd (show nI 0 = nI 2 from h2) (by decide +kernel)
      · exact ⟨hr, hw⟩
      · exact absurd (show nI 0 = -2 from h2) (by decide +kernel)
      · exact absurd (show nI 0 = -2 from h2) (by decide +kernel)
    rcases hm with ⟨i, hi, hr, hw⟩ | ⟨h9, _⟩ | ⟨h9, _⟩
    · have : i = i9 := by rw [hf] at hi; exact (Option.some.inj hi).symm
      subst this
      refine ⟨hw1.1.trans hr.symm, _, _, _, _, _, _, _, _, hw1.2, hw, (h1.fill (p := 36 * z + i) (k := key) (v := val) (by omega) (gdF i i36 (hk.sub (fun j hj uj => ?_)))).up (by omega)⟩
      obtain ⟨f1, f2, -⟩ := fillC_R fn z i key val j
      rw [f1] at uj
      rw [f2]
      by_cases hji : j = i
      · rw [if_pos hji, hji]; exact ⟨iu, ik.symm⟩
      · rw [if_neg hji] at uj ⊢; exact ⟨uj, rfl⟩
    · rw [hf] at h9; cases h9
    · rw [hf] at h9; cases h9
  | none =>
    have hno := find_abs hk (hfe.trans hf)
    have hch : chS (uR fn z) (kR fn z) (vR fn z) (sd y) key val = ch0 (uR fn z) (kR fn z) (vR fn z) (sd y) key val := chS_none (hfe.trans hf)
    rw [hch] at hc
    rcases hm with ⟨i, h9, _⟩ | ⟨_, hne, J, B, hJ, hB, hr, hp⟩ | ⟨_, h2, J, B, hJ, hB, hma⟩
    · rw [hf] at h9; cases h9
    · rw [← hce] at hne hr hp
      have hB72 : eq72 B A := fun i _ => ⟨by rw [hB 1 (by decide)], by rw [hB 2 (by decide)], by rw [hB 3 (by decide)]⟩
      have hJB : INV n sd fn σ ta lp lr J B := h1.c (fun i _ _ c => hJ i c) (fun i _ _ _ _ _ _ c => hB i c) hB72
      obtain ⟨L, hL, hw, hnd⟩ := ch0_way hne
      have hKG := (KG_path L key val fn hk hno hw hnd).1
      rw [← hL] at hKG
      rcases hp with ⟨h9, _⟩ | ⟨p, hp2, hp36, hcode, hw1'⟩ | ⟨h9, ht, hw1'⟩
      · exact absurd h9 hne
      · have hn2 : ¬ (ch0 (uR fn z) (kR fn z) (vR fn z) (sd y) key val).1 = nI 2 := by
          rcases hcode with h9 | h9 <;> rw [h9] <;> decide +kernel
        rw [hp2] at hKG
        rcases hc with ⟨_, _, h9, _⟩ | ⟨_, hr9, _, hw9⟩ | ⟨h9, _⟩ | ⟨h9, _⟩
        · exact absurd h9 hn2
        · rw [hp2] at hw9
          exact ⟨hr9.trans hr.symm, _, _, _, _, _, _, _, _, hw9, hw1', (hJB.fill (p := 36 * z + p) (k := key) (v := val) (by omega) (gdF p hp36 hKG)).up (by omega)⟩
        · exact absurd h9 hne
        · exact absurd h9 hne
      · rw [← absM_len z (ch0 (uR fn z) (kR fn z) (vR fn z) (sd y) key val).2] at ht hw1'
        rcases hc with ⟨_, hr9, _, hme, hw9⟩ | ⟨_, _, h8, _⟩ | ⟨h8, _⟩ | ⟨h8, _⟩
        · exact ⟨hr9.trans hr.symm, _, _, _, _, _, _, _, _, hw9, hw1', (hJB.path hz hy hz1 hy1 hme (absM_nd z (ch0_nd _ _ _ _ _ _)) hKG ht).up (by omega)⟩
        · exact absurd h9 h8
        · exact absurd h8 hne
        · exact absurd h8 hne
    · rw [← hce] at h2
      have hB72 : eq72 B A := fun i _ => ⟨by rw [hB 1 (by decide)], by rw [hB 2 (by decide)], by rw [hB 3 (by decide)]⟩
      have hJB : INV n sd fn σ ta lp lr J B := h1.c (fun i _ _ c => hJ i c) (fun i _ _ _ _ _ _ c => hB i c) hB72
      have hB4 : ∀ i, i < 4 → B 4 i = sd i := hJB.1.1
      obtain ⟨J', B', hJ', hB', hab⟩ := hma
      have tri : ∀ i A9, eq72 A9 B → tsR (1 - z) (sd ((y + i) % 4)) (fun _ => True) (trA fn z (sd ((y + i) % 4)) ((y + i) % 4) key val) (fitA z (B 4 ((y + i) % 4)) key val A9) := fun i A9 h9 => by
        rw [hB4 _ (Nat.mod_lt _ (by decide))]
        exact tr_all hz hk.1 hno (fun p hp => (hJB.1.2.1 p hp).c ⟨rfl, rfl, rfl⟩ (h9 p hp))
      rcases hab with ⟨st, F, s1, s4, hno9, ⟨A9, q1, q2, q3⟩, heq, hr, hw⟩ | ⟨hno9, heq, hr, hw⟩
      · have t9 := tri st A9 q1
        rw [q3] at t9
        obtain ⟨f, e1, e2, e3⟩ := tsR_some t9
        have han : anS fn z sd y key val 1 3 = some f := anS_some 3 1 s1 (by omega) (fun i a b => by
          obtain ⟨A8, p1, p2, p3⟩ := hno9 i a b
          have t8 := tri i A8 p1
          rw [p3] at t8
          exact tsR_none t8) e1
        obtain ⟨ft6, ft7⟩ := trA_396 hz e1
        have hB2 : eq72 B' B := (heq.to72.trans (fitA_lo q3)).trans q1
        have hJB' : INV n sd fn σ ta lp lr J' B' := hJB.c (fun i _ b c => hJ' i b c) hB' hB2
        have hTR : TR f (1 - z) B' := by unfold TR; rw [heq.1, heq.2.1, heq.2.2]; exact e2
        rcases hc with ⟨h8, _⟩ | ⟨h8, _⟩ | ⟨_, f', hf', hr9, hw9⟩ | ⟨_, h8, _⟩
        · exact absurd h2 h8
        · exact absurd h2 h8
        · rw [han] at hf'
          have : f = f' := Option.some.inj hf'
          subst this
          exact ⟨hr9.trans hr.symm, _, _, _, _, _, _, _, _, hw9, hw, hJB'.anew hz hy (Nat.mod_lt _ (by decide)) hz1 hy1 hk ft6 ft7 hTR e3⟩
        · rw [han] at h8; cases h8
      · have han : anS fn z sd y key val 1 3 = none := anS_none 3 1 (fun i a b => by
          obtain ⟨A8, p1, p2, p3⟩ := hno9 i a (by omega)
          have t8 := tri i A8 p1
          rw [p3] at t8
          exact tsR_none t8)
        rcases hc with ⟨h8, _⟩ | ⟨h8, _⟩ | ⟨_, f', hf', _⟩ | ⟨_, _, hr9, hw9⟩
        · exact absurd h2 h8
        · exact absurd h2 h8
        · rw [han] at hf'; cases hf'
        · exact ⟨hr9.trans hr.symm, _, _, _, _, _, _, _, _, hw9, hw, (hJB.c (fun i _ b c => hJ' i b c) hB' heq).up (by omega)⟩
/-- a new object of each -/
theorem INV0 : INV 0 (fun i => nI (i + 1)) (fun _ => nI 0) (fun _ => nI 0, fun _ => nI 0, fun _ => nI 0, 0, 0) (nI 0) (nI 0) (nI 0) (fun _ => nI 0) (fun k i => if k = 4 then nI (i + 1) else nI 0) := by
  have hgd : Gd (fun i => nI (i + 1)) (fun _ => nI 0) := Gd.of0 (z := 0) (y := 0) (by decide) (by decide) rfl rfl rfl ⟨fun i j _ _ ui _ _ => absurd (show decide (¬ nI 0 = 0) = true from ui) (by decide +kernel), fun i _ ui => absurd (show decide (¬ nI 0 = 0) = true from ui) (by decide +kernel)⟩
  exact ⟨⟨fun i _ => rfl, fun p _ => SR.old rfl rfl, rfl, rfl, rfl, rfl, rfl, ⟨fun p _ => SR.old rfl rfl, ⟨rfl, rfl⟩, rfl, 0, Nat.zero_le _, rfl, fun i hi => absurd hi (Nat.not_lt_zero _)⟩, ⟨Nat.zero_le _, fun j hj => absurd hj (Nat.not_lt_zero _)⟩, ⟨Nat.zero_le _, rfl, fun j hj => absurd hj (Nat.not_lt_zero _)⟩, rfl, fun j hj => absurd hj (Nat.not_lt_zero _)⟩, ⟨fun k hk => by rw [show k = 0 from Nat.le_zero.mp hk]; exact hgd, fun _ _ => rfl⟩, rfl, Nat.zero_le _, fun _ => ⟨rfl, fun _ _ => ⟨rfl, rfl⟩⟩⟩
