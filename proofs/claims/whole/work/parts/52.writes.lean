/-! ===== a WRITE in both ===== -/
/-- THE DISK behind what a WRITE does first -/
def fd0 (σ : WS) : Nat → Int32 := if σ.2.2.2.1 < 40 then σ.1 else doN σ.2.1 σ.2.2.1 0 σ.2.2.2.1 σ.1
theorem wr_eq (fn : Nat → Int32) (r : Nat) (σ : WS) : wr fn r σ = (fd0 σ, upd σ.2.1 (t0 σ.2.2.2.1) (nI r), va_cpy fn σ.2.2.1 (r * 22) (t0 σ.2.2.2.1 * 22) 22, t0 σ.2.2.2.1 + 1, σ.2.2.2.2 + 1) := by
  unfold wr fd0 t0
  by_cases h : σ.2.2.2.1 < 40
  · simp only [if_pos h]
  · simp only [if_neg h]
theorem nxt_FR {σ : WS} {st : MS} (what : Int32) (h : RW σ st) : FR (fd0 σ) (nxt what σ.2.2.2.1 st) := by
  obtain ⟨h1, h2, h3, h4, h5⟩ := h
  unfold fd0 nxt
  by_cases ht : σ.2.2.2.1 < 40
  · simp only [if_pos ht]
    exact h1.c ⟨rfl, rfl, rfl⟩ ⟨rfl, rfl, rfl, rfl, rfl, rfl⟩
  · simp only [if_neg ht]
    have := finN_FR (fr := σ.2.1) (fw := σ.2.2.1) σ.2.2.2.1 0 h1 (fun i _ hi => h5 i (by omega))
    exact this.c ⟨rfl, rfl, rfl⟩ ⟨rfl, rfl, rfl, rfl, rfl, rfl⟩
theorem nxt_21 {what : Int32} {t : Nat} {st : MS} : (nxt what t st).1 21 = st.1 21 + nI 1 := by
  unfold nxt
  by_cases ht : t < 40
  · simp only [if_pos ht]; rfl
  · simp only [if_neg ht]
    show (finN 0 t st).1 21 + nI 1 = _
    rw [(finN_same t 0 st).2 21 (by decide)]
/-- what a WRITE of any kind leaves to be shown -/
theorem rw_wr {σ : WS} {st st' : MS} {fn : Nat → Int32} {r : Nat} {what : Int32} (h : RW σ st) (hr : r < 20) (hok : okW (t0 σ.2.2.2.1 + 1) st') (hI : ∀ i, (i = 14 ∨ i = 15 ∨ i = 16 ∨ i = 21) → st'.1 i = (nxt what σ.2.2.2.1 st).1 i) (hA : ∀ i, (i = 11 ∨ i = 12 ∨ i = 13 ∨ i = 17 ∨ i = 18 ∨ i = 19) → st'.2 i = (nxt what σ.2.2.2.1 st).2 i)
    (h3 : ∀ j, j ≠ t0 σ.2.2.2.1 → st'.2 22 j = st.2 22 j ∧ st'.2 23 j = st.2 23 j ∧ st'.2 24 j = st.2 24 j) (h4 : ∀ j, j ≠ t0 σ.2.2.2.1 → ∀ i, i < 8 → st'.2 25 (8 * j + i) = st.2 25 (8 * j + i) ∧ st'.2 26 (8 * j + i) = st.2 26 (8 * j + i) ∧ st'.2 27 (8 * j + i) = st.2 27 (8 * j + i) ∧ st'.2 28 (8 * j + i) = st.2 28 (8 * j + i))
    (hnew : WE (upd σ.2.1 (t0 σ.2.2.2.1) (nI r)) (va_cpy fn σ.2.2.1 (r * 22) (t0 σ.2.2.2.1 * 22) 22) st'.2 (t0 σ.2.2.2.1)) : RW (wr fn r σ) st' := by
  have hF := nxt_FR what h
  have hs := wr_ok (fn := fn) h.2.1 hr
  rw [wr_eq] at hs ⊢
  refine ⟨hF.c ⟨hI 14 (by simp), hI 15 (by simp), hI 16 (by simp)⟩ ⟨hA 11 (by simp), hA 12 (by simp), hA 13 (by simp), hA 17 (by simp), hA 18 (by simp), hA 19 (by simp)⟩, hs, hok, ?_, ?_⟩
  · rw [hI 21 (by simp), nxt_21, h.2.2.2.1]
    exact nI_add _ 1
  · intro j hj
    have hj : j < t0 σ.2.2.2.1 + 1 := hj
    by_cases hjt : j = t0 σ.2.2.2.1
    · rw [hjt]; exact hnew
    · have hjt' : j < σ.2.2.2.1 ∧ j < t0 σ.2.2.2.1 := by
        unfold t0 at hj hjt ⊢
        split at hj <;> rename_i h9 <;> simp only [h9, if_true, if_false] at hjt ⊢ <;> omega
      exact (h.2.2.2.2 j hjt'.1).c (if_neg hjt) (fun i hi => cpy_out (by omega)) (h3 j hjt) (h4 j hjt)
theorem upd_s (f : Nat → Int32) (k : Nat) (x : Int32) : upd f k x k = x := if_pos rfl
theorem upd_n {f : Nat → Int32} {k j : Nat} {x : Int32} (h : j ≠ k) : upd f k x j = f j := if_neg h
/-- a PAGE -/
theorem rw_pg {σ : WS} {st : MS} {fn : Nat → Int32} {r : Nat} (h : RW σ st) (hr : r < 18) (hrow : ∀ i, i < 4 → SR fn (4 * r + i) (st.2 1) (st.2 2) (st.2 3) (4 * r + i)) : RW (wr fn r σ) (wPg r σ.2.2.2.1 st) := by
  have n1 := nxt_A (what := nI 0) (t := σ.2.2.2.1) (st := st)
  have e22 : (wPg r σ.2.2.2.1 st).2 22 = upd (st.2 22) (t0 σ.2.2.2.1) (nI 0) := nxt_22
  have e23 : (wPg r σ.2.2.2.1 st).2 23 = upd (st.2 23) (t0 σ.2.2.2.1) (nI r) := by rw [← n1 23 (by simp)]; rfl
  have e24 : (wPg r σ.2.2.2.1 st).2 24 = st.2 24 := n1 24 (by simp)
  have e25 : (wPg r σ.2.2.2.1 st).2 25 = va_cpy (nz (st.2 1)) (st.2 25) (4 * r) (8 * t0 σ.2.2.2.1) 4 := by rw [← n1 25 (by simp), ← n1 1 (by simp)]; rfl
  have e26 : (wPg r σ.2.2.2.1 st).2 26 = st.2 26 := n1 26 (by simp)
  have e27 : (wPg r σ.2.2.2.1 st).2 27 = va_cpy (st.2 2) (st.2 27) (4 * r) (8 * t0 σ.2.2.2.1) 4 := by rw [← n1 27 (by simp), ← n1 2 (by simp)]; rfl
  have e28 : (wPg r σ.2.2.2.1 st).2 28 = va_cpy (st.2 3) (st.2 28) (4 * r) (8 * t0 σ.2.2.2.1) 4 := by rw [← n1 28 (by simp), ← n1 3 (by simp)]; rfl
  refine rw_wr (what := nI 0) h (by omega) (wPg_ok h.2.2.1 hr) (fun i _ => rfl) (fun i hi => ?_) (fun j hj => ?_) (fun j hj i hi => ?_) (Or.inl ⟨?_, ?_, ?_, fun i hi => ?_⟩)
  · rcases hi with rfl | rfl | rfl | rfl | rfl | rfl <;> rfl
  · rw [e22, e23, e24, upd_n hj, upd_n hj]; exact ⟨rfl, rfl, rfl⟩
  · rw [e25, e26, e27, e28, cpy_out (by omega), cpy_out (by omega), cpy_out (by omega)]; exact ⟨rfl, rfl, rfl, rfl⟩
  · rw [upd_s, nI_clamp (by omega)]; exact hr
  · rw [e22, upd_s]
  · rw [e23, upd_s, upd_s]
  · obtain ⟨s1, s2⟩ := hrow i hi
    have hx : ∀ a, a < 3 → va_cpy fn σ.2.2.1 (r * 22) (t0 σ.2.2.2.1 * 22) 22 (t0 σ.2.2.2.1 * 22 + (i * 3 + a)) = fn (ix (4 * r + i) + a) := fun a ha => by
      rw [cpy_in (by omega) (by omega), show ix (4 * r + i) + a = r * 22 + (t0 σ.2.2.2.1 * 22 + (i * 3 + a) - t0 σ.2.2.2.1 * 22) by unfold ix; omega]
    have hx0 := hx 0 (by decide)
    rw [Nat.add_zero, Nat.add_zero] at hx0
    rw [e25, e27, e28, hx0, hx 1 (by decide), hx 2 (by decide), cpy_in (by omega) (by omega), cpy_in (by omega) (by omega), cpy_in (by omega) (by omega), Nat.add_sub_cancel_left]
    exact ⟨nz_b s1, s2⟩
/-- the JOURNAL -/
theorem rw_jn {σ : WS} {st : MS} {fn : Nat → Int32} {n : Nat} (h : RW σ st) (hn : n ≤ 7) (h0 : fn 418 = nI n) (hrow : ∀ i, i < n → st.2 8 i = fn (418 + (1 + i * 3)) ∧ st.2 9 i = fn (418 + (2 + i * 3)) ∧ st.2 10 i = fn (418 + (3 + i * 3))) : RW (wr fn 19 σ) (wJn n σ.2.2.2.1 st) := by
  have n1 := nxt_A (what := nI 2) (t := σ.2.2.2.1) (st := st)
  have e22 : (wJn n σ.2.2.2.1 st).2 22 = upd (st.2 22) (t0 σ.2.2.2.1) (nI 2) := nxt_22
  have e23 : (wJn n σ.2.2.2.1 st).2 23 = st.2 23 := n1 23 (by simp)
  have e24 : (wJn n σ.2.2.2.1 st).2 24 = upd (st.2 24) (t0 σ.2.2.2.1) (nI n) := by rw [← n1 24 (by simp)]; rfl
  have e25 : (wJn n σ.2.2.2.1 st).2 25 = st.2 25 := n1 25 (by simp)
  have e26 : (wJn n σ.2.2.2.1 st).2 26 = va_cpy (st.2 8) (st.2 26) 0 (8 * t0 σ.2.2.2.1) n := by rw [← n1 26 (by simp), ← n1 8 (by simp)]; rfl
  have e27 : (wJn n σ.2.2.2.1 st).2 27 = va_cpy (st.2 9) (st.2 27) 0 (8 * t0 σ.2.2.2.1) n := by rw [← n1 27 (by simp), ← n1 9 (by simp)]; rfl
  have e28 : (wJn n σ.2.2.2.1 st).2 28 = va_cpy (st.2 10) (st.2 28) 0 (8 * t0 σ.2.2.2.1) n := by rw [← n1 28 (by simp), ← n1 10 (by simp)]; rfl
  have hx : ∀ a, a < 22 → va_cpy fn σ.2.2.1 (19 * 22) (t0 σ.2.2.2.1 * 22) 22 (t0 σ.2.2.2.1 * 22 + a) = fn (418 + a) := fun a ha => by
    rw [cpy_in (by omega) (by omega), Nat.add_sub_cancel_left]
  refine rw_wr (what := nI 2) h (by omega) (wJn_ok h.2.2.1 hn) (fun i _ => rfl) (fun i hi => ?_) (fun j hj => ?_) (fun j hj i hi => ?_) (Or.inr (Or.inr ⟨?_, ?_, ?_, n, hn, ?_, fun i hi => ?_⟩))
  · rcases hi with rfl | rfl | rfl | rfl | rfl | rfl <;> rfl
  · rw [e22, e23, e24, upd_n hj, upd_n hj]; exact ⟨rfl, rfl, rfl⟩
  · rw [e25, e26, e27, e28, cpy_out (by omega), cpy_out (by omega), cpy_out (by omega)]; exact ⟨rfl, rfl, rfl, rfl⟩
  · exact upd_s _ _ _
  · rw [e22, upd_s]
  · have hx0 := hx 0 (by decide)
    rw [Nat.add_zero, Nat.add_zero] at hx0
    rw [e24, upd_s, hx0, h0]
  · rw [e24, upd_s]
  · rw [e26, e27, e28, hx (1 + i * 3) (by omega), hx (2 + i * 3) (by omega), hx (3 + i * 3) (by omega), cpy_in (by omega) (by omega), cpy_in (by omega) (by omega), cpy_in (by omega) (by omega), Nat.add_sub_cancel_left, Nat.zero_add]
    exact hrow i hi
/-- the ROOT -/
theorem rw_rt {σ : WS} {st : MS} {fn : Nat → Int32} (h : RW σ st) (h5 : st.1 5 = fn 396) (h6 : st.1 6 = fn 397) : RW (wr fn 18 σ) (wRt σ.2.2.2.1 st) := by
  have n1 := nxt_A (what := nI 1) (t := σ.2.2.2.1) (st := st)
  have n5 : (nxt (nI 1) σ.2.2.2.1 st).1 5 = st.1 5 := nxt_I (I := st.1) (A := st.2) 5 (by decide) rfl
  have n6 : (nxt (nI 1) σ.2.2.2.1 st).1 6 = st.1 6 := nxt_I (I := st.1) (A := st.2) 6 (by decide) rfl
  have e22 : (wRt σ.2.2.2.1 st).2 22 = upd (st.2 22) (t0 σ.2.2.2.1) (nI 1) := nxt_22
  have e23 : (wRt σ.2.2.2.1 st).2 23 = upd (st.2 23) (t0 σ.2.2.2.1) (st.1 5) := by rw [← n1 23 (by simp), ← n5]; rfl
  have e24 : (wRt σ.2.2.2.1 st).2 24 = upd (st.2 24) (t0 σ.2.2.2.1) (st.1 6) := by rw [← n1 24 (by simp), ← n6]; rfl
  have hx : ∀ a, a < 22 → va_cpy fn σ.2.2.1 (18 * 22) (t0 σ.2.2.2.1 * 22) 22 (t0 σ.2.2.2.1 * 22 + a) = fn (396 + a) := fun a ha => by
    rw [cpy_in (by omega) (by omega), Nat.add_sub_cancel_left]
  refine rw_wr (what := nI 1) h (by omega) (wRt_ok h.2.2.1) (fun i _ => rfl) (fun i hi => ?_) (fun j hj => ?_) (fun j hj i hi => ?_) (Or.inr (Or.inl ⟨?_, ?_, ?_, ?_⟩))
  · rcases hi with rfl | rfl | rfl | rfl | rfl | rfl <;> rfl
  · rw [e22, e23, e24, upd_n hj, upd_n hj, upd_n hj]; exact ⟨rfl, rfl, rfl⟩
  · exact ⟨by rw [← n1 25 (by simp)]; rfl, by rw [← n1 26 (by simp)]; rfl, by rw [← n1 27 (by simp)]; rfl, by rw [← n1 28 (by simp)]; rfl⟩
  · exact upd_s _ _ _
  · rw [e22, upd_s]
  · have hx0 := hx 0 (by decide)
    rw [Nat.add_zero, Nat.add_zero] at hx0
    rw [e23, upd_s, hx0, h5]
  · rw [e24, upd_s, hx 1 (by decide), h6]
