/-! ===== a PATH gone along, in both ===== -/
theorem flW_A4 : ∀ (M : List (Nat × Int32 × Int32)) (x : Nat × MS), (flW M x).2.2 4 = x.2.2 4 := by
  intro M
  induction M with
  | nil => intro x; rfl
  | cons m M ih =>
    intro x
    show (wPg (m.1 / 4) (flW M x).1 ((flW M x).2.1, flA m.1 m.2.1 m.2.2 (flW M x).2.2)).2 4 = _
    rw [wPg_A 4 (by simp)]
    exact ih x
theorem mk_lock {sd : Nat → Int32} : ∀ (M : List (Nat × Int32 × Int32)) (f : Nat → Int32) (σ : WS) (st : MS), (∀ m ∈ M, m.1 < 72) → RW σ st → IR f (st.2 1) (st.2 2) (st.2 3) → PI sd σ f → (∀ N, N <:+ M → Gd sd (mkR N (f, σ)).1) →
    RW (mkR M (f, σ)).2 (flW M (σ.2.2.2.1, st)).2 ∧ IR (mkR M (f, σ)).1 ((flW M (σ.2.2.2.1, st)).2.2 1) ((flW M (σ.2.2.2.1, st)).2.2 2) ((flW M (σ.2.2.2.1, st)).2.2 3) ∧ (flW M (σ.2.2.2.1, st)).1 = (mkR M (f, σ)).2.2.2.2.1 ∧ PI sd (mkR M (f, σ)).2 (mkR M (f, σ)).1 ∧ (mkR M (f, σ)).2.2.2.2.2 = σ.2.2.2.2 + M.length := by
  intro M
  induction M with
  | nil => intro f σ st _ h1 h2 h3 _; exact ⟨h1, h2, rfl, h3, rfl⟩
  | cons m M ih =>
    intro f σ st hM h1 h2 h3 hg
    have hm := hM m List.mem_cons_self
    obtain ⟨g1, g2, g3, g4, g5⟩ := ih f σ st (fun q hq => hM q (List.mem_cons_of_mem _ hq)) h1 h2 h3 (fun N hN => hg N (hN.trans (List.suffix_cons _ _)))
    have hgd := hg (m :: M) List.suffix_rfl
    show RW (wr (fillC (mkR M (f, σ)).1 m.1 m.2.1 m.2.2) (m.1 / 4) (mkR M (f, σ)).2) (wPg (m.1 / 4) (flW M (σ.2.2.2.1, st)).1 ((flW M (σ.2.2.2.1, st)).2.1, flA m.1 m.2.1 m.2.2 (flW M (σ.2.2.2.1, st)).2.2)) ∧ IR (fillC (mkR M (f, σ)).1 m.1 m.2.1 m.2.2) ((wPg (m.1 / 4) (flW M (σ.2.2.2.1, st)).1 ((flW M (σ.2.2.2.1, st)).2.1, flA m.1 m.2.1 m.2.2 (flW M (σ.2.2.2.1, st)).2.2)).2 1) ((wPg (m.1 / 4) (flW M (σ.2.2.2.1, st)).1 ((flW M (σ.2.2.2.1, st)).2.1, flA m.1 m.2.1 m.2.2 (flW M (σ.2.2.2.1, st)).2.2)).2 2) ((wPg (m.1 / 4) (flW M (σ.2.2.2.1, st)).1 ((flW M (σ.2.2.2.1, st)).2.1, flA m.1 m.2.1 m.2.2 (flW M (σ.2.2.2.1, st)).2.2)).2 3) ∧ t0 (flW M (σ.2.2.2.1, st)).1 + 1 = (wr (fillC (mkR M (f, σ)).1 m.1 m.2.1 m.2.2) (m.1 / 4) (mkR M (f, σ)).2).2.2.2.1 ∧ PI sd (wr (fillC (mkR M (f, σ)).1 m.1 m.2.1 m.2.2) (m.1 / 4) (mkR M (f, σ)).2) (fillC (mkR M (f, σ)).1 m.1 m.2.1 m.2.2) ∧ (wr (fillC (mkR M (f, σ)).1 m.1 m.2.1 m.2.2) (m.1 / 4) (mkR M (f, σ)).2).2.2.2.2 = σ.2.2.2.2 + (m :: M).length
    have hgd : Gd sd (fillC (mkR M (f, σ)).1 m.1 m.2.1 m.2.2) := hgd
    rw [g3]
    generalize (mkR M (f, σ)) = x at g1 g2 g3 g4 g5 hgd ⊢
    generalize (flW M (σ.2.2.2.1, st)).2 = y at g1 g2 ⊢
    have hIR : IR (fillC x.1 m.1 m.2.1 m.2.2) (flA m.1 m.2.1 m.2.2 y.2 1) (flA m.1 m.2.1 m.2.2 y.2 2) (flA m.1 m.2.1 m.2.2 y.2 3) := g2.fill m.1 m.2.1 m.2.2
    have hRW : RW x.2 (y.1, flA m.1 m.2.1 m.2.2 y.2) := RW.c (I := y.1) (A := y.2) g1 (fun i _ => rfl) (fun i hi _ => by unfold flA; rw [va_up_ne _ _ (by omega), va_up_ne _ _ (by omega), va_up_ne _ _ (by omega)])
    refine ⟨rw_pg hRW (by omega) (fun i hi => hIR _ (by omega)), ?_, ?_, ?_, ?_⟩
    · rw [wPg_A 1 (by simp), wPg_A 2 (by simp), wPg_A 3 (by simp)]; exact hIR
    · exact (wr_t _ _ _).1.symm
    · exact g4.wr g1.2.1 (by omega) (fun i _ hi => fillC_row hi) hgd
    · rw [(wr_t _ _ _).2, g5, List.length_cons]; omega
theorem absM_len (z : Nat) (M : List (Nat × Int32 × Int32)) : (absM z M).length = M.length := by unfold absM; simp
theorem SR_sl {f g a1 a2 a3 : Nat → Int32} {p q : Nat} (h : SR f p a1 a2 a3 q) (hs : sl g p = sl f p) : SR g p a1 a2 a3 q := by
  unfold sl at hs
  simp only [Prod.mk.injEq] at hs
  exact h.c hs ⟨rfl, rfl, rfl⟩
set_option maxHeartbeats 1000000 in
theorem INV.path {n : Nat} {sd fn : Nat → Int32} {σ : WS} {ta lp lr : Int32} {I : Nat → Int32} {A : Nat → Nat → Int32} (h : INV n sd fn σ ta lp lr I A) {z y : Nat} (hz : z < 2) (hy : y < 4) (hz1 : fn 396 = nI z) (hy1 : fn 397 = nI y) {key val : Int32} {fm : Nat → Int32} {M : List (Nat × Int32 × Int32)} (hm : mEnc fm M) (hnd : (M.map (·.1)).Nodup)
    (hk : KG (uR (fillM M fn) z) (kR (fillM M fn) z) (sd y)) (ht : tEnc (goT key val M.length A 8) (goT key val M.length A 9) (goT key val M.length A 10) M) :
    INV (n + 9) sd (folP fm M fn σ).1 (folP fm M fn σ).2 ta (nI M.length) lr (goW key val M.length M σ.2.2.2.1 (I, A)).1 (goW key val M.length M σ.2.2.2.1 (I, A)).2 := by
  obtain ⟨⟨h1, h2, h3, h4, h5, h6, h7, h8⟩, hPI, h418, he, h0⟩ := h
  have hM : ∀ m ∈ M, m.1 < 72 := fun m hq => by
    obtain ⟨j, hj⟩ := List.mem_iff_getElem?.mp hq
    exact (hm.2.2 j m hj).2.2.2
  have hl7 := hm.1
  have hlo : ∀ i, i < 418 → va_cpy fm fn 0 418 22 i = fn i := fun i hi => cpy_out (by omega)
  have hhi : ∀ x, x < 22 → va_cpy fm fn 0 418 22 (418 + x) = fm x := fun x hx => by
    rw [cpy_in (by omega) (by omega), Nat.add_sub_cancel_left, Nat.zero_add]
  unfold folP goW
  generalize hf1 : va_cpy fm fn 0 418 22 = f1 at hlo hhi ⊢
  have hsl1 : ∀ p, p < 72 → sl f1 p = sl fn p := fun p hp => sl_c (fun i hi => hlo i (by omega)) hp
  have hG : ∀ g : Nat → Int32, (∀ i, 396 ≤ i → g i = f1 i) → (∀ p, p < 72 → ovS M p (sl g p) = ovS M p (sl fn p)) → Gd sd g := by
    intro g hgi hgs
    refine ⟨z, y, M, hz, hy, ((hgi _ (by decide)).trans (hlo _ (by decide))).trans hz1, ((hgi _ (by decide)).trans (hlo _ (by decide))).trans hy1, ⟨hl7, ?_, fun j m hj => ?_⟩, hk.sub (fun i hi ui => ?_)⟩
    · show g (418 + 0) = _
      rw [hgi _ (by decide), hhi 0 (by decide)]; exact hm.2.1
    · have hj9 : j < M.length := (List.getElem?_eq_some_iff.mp hj).1
      obtain ⟨a1, a2, a3, a4⟩ := hm.2.2 j m hj
      refine ⟨?_, ?_, ?_, a4⟩
      · show g (418 + (1 + j * 3)) = _
        rw [hgi _ (by omega), hhi _ (by omega)]; exact a1
      · show g (418 + (2 + j * 3)) = _
        rw [hgi _ (by omega), hhi _ (by omega)]; exact a2
      · show g (418 + (3 + j * 3)) = _
        rw [hgi _ (by omega), hhi _ (by omega)]; exact a3
    · have hs : sl (fillM M g) (36 * z + i) = sl (fillM M fn) (36 * z + i) := by
        rw [sl_fillM M g _ hnd, sl_fillM M fn _ hnd]; exact hgs _ (by omega)
      have hr := sl_R hs
      rw [← hr.1, ← hr.2.1]
      exact ⟨ui, rfl⟩
  generalize hst1 : ((va_up (va_up I 7 (nI M.length)) 31 (nI M.length), goT key val M.length A) : MS) = st1
  have s1I : ∀ i, i ≠ 7 → i ≠ 31 → st1.1 i = I i := fun i a b => by rw [← hst1]; exact (va_up_ne _ _ b).trans (va_up_ne _ _ a)
  have s131 : st1.1 31 = nI M.length := by rw [← hst1]; rfl
  have s1A : ∀ i, i ≠ 8 → i ≠ 9 → i ≠ 10 → st1.2 i = A i := fun i a b c => by rw [← hst1]; exact (va_up_ne _ _ c).trans ((va_up_ne _ _ b).trans (va_up_ne _ _ a))
  have R1 : RW σ st1 := RW.c (J := st1.1) (B := st1.2) h8 (fun i hi => s1I i (by omega) (by omega)) (fun i hi _ => s1A i (by omega) (by omega) (by omega))
  have s18 : st1.2 8 = goT key val M.length A 8 ∧ st1.2 9 = goT key val M.length A 9 ∧ st1.2 10 = goT key val M.length A 10 := by rw [← hst1]; exact ⟨rfl, rfl, rfl⟩
  have R2 : RW (wr f1 19 σ) (wJn M.length σ.2.2.2.1 st1) := by
    refine rw_jn R1 hl7 ?_ (fun i hi => ?_)
    · rw [show (418 : Nat) = 418 + 0 from rfl, hhi 0 (by decide)]; exact hm.2.1
    · have hi9 : M[i]? = some (M[i]'hi) := List.getElem?_eq_getElem hi
      obtain ⟨a1, a2, a3, -⟩ := hm.2.2 i _ hi9
      obtain ⟨b1, b2, b3⟩ := ht i _ hi9
      rw [s18.1, s18.2.1, s18.2.2, b1, b2, b3, hhi _ (by omega), hhi _ (by omega), hhi _ (by omega), a1, a2, a3]
      exact ⟨rfl, rfl, rfl⟩
  have P2 : PI sd (wr f1 19 σ) f1 := hPI.wr h8.2.1 (by decide) (fun i hi hn => hlo i (by omega)) (hG f1 (fun _ _ => rfl) (fun p hp => by rw [hsl1 p hp]))
  have I2 : IR f1 ((wJn M.length σ.2.2.2.1 st1).2 1) ((wJn M.length σ.2.2.2.1 st1).2 2) ((wJn M.length σ.2.2.2.1 st1).2 3) := by
    rw [wJn_A 1 (by simp), wJn_A 2 (by simp), wJn_A 3 (by simp), s1A 1 (by decide) (by decide) (by decide), s1A 2 (by decide) (by decide) (by decide), s1A 3 (by decide) (by decide) (by decide)]
    exact fun p hp => SR_sl (h2 p hp) (hsl1 p hp)
  have L := mk_lock M f1 (wr f1 19 σ) (wJn M.length σ.2.2.2.1 st1) hM R2 I2 P2 (fun N hN => hG _ (fun i hi => mkR_hi hi N _ (fun m hq => hM m (hN.subset hq))) (fun p hp => by
    rw [sl_mkR, ovS_sub (fun q hq => by
      obtain ⟨m, hm1, hm2⟩ := List.mem_map.mp hq
      exact List.mem_map.mpr ⟨m, hN.subset hm1, hm2⟩)]
    show ovS M p (sl f1 p) = _
    rw [hsl1 p hp]))
  rw [show (wr f1 19 σ).2.2.2.1 = t0 σ.2.2.2.1 + 1 from (wr_t _ _ _).1] at L
  obtain ⟨L1, L2, L3, L4, L5⟩ := L
  have f2hi : ∀ i, 396 ≤ i → (mkR M (f1, wr f1 19 σ)).1 i = f1 i := fun i hi => mkR_hi hi M _ hM
  have f2sl : ∀ p, sl (mkR M (f1, wr f1 19 σ)).1 p = ovS M p (sl f1 p) := fun p => sl_mkR M _ p
  have j5 : ∀ i, (i ≠ 14 ∧ i ≠ 15 ∧ i ≠ 16 ∧ i ≠ 20 ∧ i ≠ 21) → (flW M (t0 σ.2.2.2.1 + 1, wJn M.length σ.2.2.2.1 st1)).2.1 i = st1.1 i := fun i hi => (flW_I i hi).trans (nxt_I (I := st1.1) (A := st1.2) i hi rfl)
  have j4 : (flW M (t0 σ.2.2.2.1 + 1, wJn M.length σ.2.2.2.1 st1)).2.2 4 = A 4 := (flW_A4 M _).trans ((wJn_A 4 (by simp)).trans (s1A 4 (by decide) (by decide) (by decide)))
  rw [(wr_t f1 19 σ).2] at L5
  generalize mkR M (f1, wr f1 19 σ) = x at L1 L2 L3 L4 L5 f2hi f2sl ⊢
  rw [L3]
  generalize (flW M (t0 σ.2.2.2.1 + 1, wJn M.length σ.2.2.2.1 st1)).2 = st3 at L1 L2 j5 j4 ⊢
  have f3lo : ∀ i, i ≠ 418 → upd x.1 418 (nI 0) i = x.1 i := fun i hi => upd_n hi
  have f3sl : ∀ p, p < 72 → sl (upd x.1 418 (nI 0)) p = sl x.1 p := fun p hp => sl_c (fun i hi => f3lo i (by omega)) hp
  have hKG : KG (uR (upd x.1 418 (nI 0)) z) (kR (upd x.1 418 (nI 0)) z) (sd y) := hk.sub (fun i hi ui => by
    have hs : sl (upd x.1 418 (nI 0)) (36 * z + i) = sl (fillM M fn) (36 * z + i) := by
      rw [f3sl _ (by omega), f2sl, sl_fillM M fn _ hnd, hsl1 _ (by omega)]
    have hr := sl_R hs
    rw [← hr.1, ← hr.2.1]
    exact ⟨ui, rfl⟩)
  have hroot : ∀ i, 396 ≤ i → i < 418 → upd x.1 418 (nI 0) i = fn i := fun i a b => by rw [f3lo i (by omega), f2hi i a, hlo i b]
  have hGd : Gd sd (upd x.1 418 (nI 0)) := Gd.of0 hz hy ((hroot _ (by decide) (by decide)).trans hz1) ((hroot _ (by decide) (by decide)).trans hy1) (upd_s _ _ _) hKG
  have R3 : RW x.2 (va_up st3.1 7 (nI 0), st3.2) := RW.c (I := st3.1) (A := st3.2) L1 (fun i hi => va_up_ne _ _ (by omega)) (fun _ _ _ => rfl)
  have R4 := rw_jn (n := 0) (fn := upd x.1 418 (nI 0)) R3 (by decide) (upd_s _ _ _) (fun i hi => absurd hi (by omega))
  have a1 := wJn_A (t := x.2.2.2.2.1) (n := 0) (st := (va_up st3.1 7 (nI 0), st3.2))
  have i1 := wJn_I (t := x.2.2.2.2.1) (n := 0) (I := va_up st3.1 7 (nI 0)) (A := st3.2)
  refine ⟨⟨?_, ?_, ?_, ?_, ?_, ?_, ?_, R4⟩, ?_, (show upd x.1 418 (nI 0) 418 = nI 0 from upd_s _ _ _), ?_, ?_⟩
  · rw [a1 4 (by simp)]; show ∀ i, i < 4 → st3.2 4 i = sd i
    rw [j4]; exact h1
  · rw [a1 1 (by simp), a1 2 (by simp), a1 3 (by simp)]
    exact fun p hp => SR_sl (L2 p hp) (f3sl p hp)
  · rw [i1 5 (by decide), va_up_ne _ _ (by decide), j5 5 (by decide), s1I 5 (by decide) (by decide), h3]; exact (hroot _ (by decide) (by decide)).symm
  · rw [i1 6 (by decide), va_up_ne _ _ (by decide), j5 6 (by decide), s1I 6 (by decide) (by decide), h4]; exact (hroot _ (by decide) (by decide)).symm
  · rw [i1 31 (by decide), va_up_ne _ _ (by decide), j5 31 (by decide), s131]
  · rw [i1 32 (by decide), va_up_ne _ _ (by decide), j5 32 (by decide), s1I 32 (by decide) (by decide), h6]
  · rw [i1 33 (by decide), va_up_ne _ _ (by decide), j5 33 (by decide), s1I 33 (by decide) (by decide), h7]
  · exact L4.wr L1.2.1 (by decide) (fun i _ hn => f3lo i (by omega)) hGd
  · rw [(wr_t _ _ _).2, L5]; omega
  · rw [(wr_t _ _ _).2]; intro h9; omega
