/-! ===== the law, call by call: put, seed, crash, slot, count ===== -/
theorem i32_lt9 {x : Int32} {k : Nat} (hk : k < 2 ^ 31) (h0 : ¬ x < 0) (h : x < nI k) : ∃ j, j < k ∧ x = nI j := by
  obtain ⟨j, hj, rfl⟩ := nI_of h0
  exact ⟨j, (nI_ltI hj hk).mp h, rfl⟩
theorem lcmp_eq (x : Int64) : lg_cmp x x = 0 := by
  unfold lg_cmp
  simp
theorem updL_at (f : Nat → Int64) (k : Nat) (x : Int64) : vp_updL f k x k = x := by simp [vp_updL]
theorem putE_w {ad : Nat → Nat} {cI : ClassId} {X : va_W} {sd fn : Nat → Int32} {σ : WS} {ta lp lr : Int32} {z y : Nat} {key val r : Int32} {w1 : va_W} (h : putE ad cI X sd fn σ ta lp lr z y key val r w1) : ∃ (fn' ft' fm' : Nat → Int32) (σ' : WS) (ta' lp' : Int32), w1 = cw ad cI X sd fn' ft' fm' σ' ta' lp' lr := by
  obtain ⟨ft1, fm1, h⟩ := h
  rcases h with ⟨_, _, _, _, h⟩ | ⟨_, _, _, h⟩ | ⟨_, f, _, _, h⟩ | ⟨_, _, _, h⟩
  · exact ⟨_, _, _, _, _, _, h⟩
  · exact ⟨_, _, _, _, _, _, h⟩
  · exact ⟨_, _, _, _, _, _, h⟩
  · exact ⟨_, _, _, _, _, _, h⟩
set_option maxHeartbeats 4000000 in
theorem count_both2 (l : Launch) (D : va_G) (cI cZ cJ : ClassId) (ac am : Nat → Nat) (X : va_W) (sd fn ft fm : Nat → Int32) (σ : WS) (ta lp lr : Int32) (I : Nat → Int32) (A : Nat → Nat → Int32) {n : Nat} (hI : INV n sd fn σ ta lp lr I A) {z y : Nat} (hz : z < 2) (hy : y < 4) (hz1 : fn 396 = nI z) (hy1 : fn 397 = nI y) (j : Nat) (hj : j < 9) : ∃ ans : Int32, CM l D (cm_T cI cZ cJ) yX3_count cX3_count 2 (some .int) (cm_rm 4 86) [.ref (ac 0), .int (nI j)] (cw ac cI X sd fn ft fm σ ta lp lr) (some (.int ans)) (cw ac cI X sd fn ft fm σ ta lp lr) ∧ ∀ X2 : va_W, CM l D (cm_T cI cZ cJ) yX4_count cX4_count 2 (some .int) (cm_rm 1 24) [.ref (am 0), .int (nI j)] (mw am cI cZ X2 I A) (some (.int ans)) (mw am cI cZ X2 (va_up I 0 (nI 0)) A) := by
  have h5 : I 5 = nI z := hI.1.2.2.1.trans hz1
  have h20 : I 20 = nI σ.2.2.2.1 := hI.1.2.2.2.2.2.2.2.2.2.1.2.1
  have h21 : I 21 = nI σ.2.2.2.2 := hI.1.2.2.2.2.2.2.2.2.2.2.1
  have e0 : allN fn z 0 9 = cnt (fun i => decide (¬ A 1 i = 0)) (36 * z) 36 := all_eq hI.1.2.1 hz 9 0 (by decide)
  have e3 : cnt (fun i => !emP fn (z * 9 + 8) i) 0 4 = cnt (fun i => decide (¬ A 1 i = 0)) (36 * z + 32) 4 := by
    rw [cnt_row hI.1.2.1 (by omega), show 4 * (z * 9 + 8) = 36 * z + 32 by omega]
  match j, hj with
  | 0, _ => exact ⟨_, k_X3_count0 l D cI cZ cJ ac X sd fn ft fm σ ta lp lr z y hz hy hz1 hy1, fun X2 => by rw [e0]; exact k_X4_count0 l D cI cZ cJ am X2 I A z hz h5⟩
  | 1, _ => exact ⟨_, k_X3_count1 l D cI cZ cJ ac X sd fn ft fm σ ta lp lr, fun X2 => by rw [← h20]; exact k_X4_count1 l D cI cZ cJ am X2 I A⟩
  | 2, _ => exact ⟨_, k_X3_count2 l D cI cZ cJ ac X sd fn ft fm σ ta lp lr, fun X2 => by rw [← h21]; exact k_X4_count2 l D cI cZ cJ am X2 I A⟩
  | 3, _ => exact ⟨_, k_X3_count3 l D cI cZ cJ ac X sd fn ft fm σ ta lp lr z y hz hy hz1 hy1, fun X2 => by rw [e3]; exact k_X4_count3 l D cI cZ cJ am X2 I A z hz h5⟩
  | 4, _ => exact ⟨_, k_X3_count4 l D cI cZ cJ ac X sd fn ft fm σ ta lp lr, fun X2 => by rw [← hI.1.2.2.1]; exact k_X4_count4 l D cI cZ cJ am X2 I A⟩
  | 5, _ => exact ⟨_, k_X3_count5 l D cI cZ cJ ac X sd fn ft fm σ ta lp lr, fun X2 => by rw [← hI.1.2.2.2.1]; exact k_X4_count5 l D cI cZ cJ am X2 I A⟩
  | 6, _ => exact ⟨_, k_X3_count6 l D cI cZ cJ ac X sd fn ft fm σ ta lp lr, fun X2 => by rw [← hI.1.2.2.2.2.2.1]; exact k_X4_count6 l D cI cZ cJ am X2 I A⟩
  | 7, _ => exact ⟨_, k_X3_count7 l D cI cZ cJ ac X sd fn ft fm σ ta lp lr, fun X2 => by rw [← hI.1.2.2.2.2.1]; exact k_X4_count7 l D cI cZ cJ am X2 I A⟩
  | 8, _ => exact ⟨_, k_X3_count8 l D cI cZ cJ ac X sd fn ft fm σ ta lp lr, fun X2 => by rw [← hI.1.2.2.2.2.2.2.1]; exact k_X4_count8 l D cI cZ cJ am X2 I A⟩
  | j + 9, h => exact absurd h (by omega)
set_option maxHeartbeats 4000000 in
set_option maxRecDepth 100000 in
/-- the law: put -/
theorem op_put {p : Program} {l : Launch} {e : Env} {s : State} {m : MethodId} {below : List Frame} {meth : Method} {c : Code} {D : va_G} {cI cZ cJ : ClassId} {b L n ao : Nat} {xs : Nat → Int32} {ac am : Nat → Nat} {Q : State → Prop} (hls : l.stackTraces = false) (hL : L ≤ 2048) (hn : 4 * n + 4 ≤ L) (C : cm_C p s m #[Value.ref b] meth c code 7 ret RL D (cm_T cI cZ cJ)) (hXs : va_X b L xs s s.heap) (hbl : b < s.heap.size) (hVX : vt_X (la_A s) s s.heap) (kk : law_k p l e s m below meth c D cI cZ cJ b n ao ac am Q)
    {ls : Array Slot} {H : Heap} {locs : List Loc} {fo : Nat → Int64} {sd fn ft fm : Nat → Int32} {σ : WS} {ta lp lr : Int32} {I : Nat → Int32} {A : Nat → Nat → Int32} (hl : lv_has ls 7 [(4, .int (nI (4 * n))), (3, .ref ao), (2, .ref (am 0)), (1, .ref (ac 0)), (0, .ref b)]) (hP : va_P D vwCl (LWt ac am ao cI cZ cJ fo sd fn ft fm σ ta lp lr I A) H) (hD : va_D (la_A s) (LWt ac am ao cI cZ cJ fo sd fn ft fm σ ta lp lr I A)) (hS : va_S (la_A s) s.heap H locs) (hI : INV (10 * n) sd fn σ ta lp lr I A) : W p l e room_1 s m #[Value.ref b] below meth c H locs (36 + n) (4318 + 6 * n) Q (F0 m 144 ls []) := by
  have hbA : ¬ la_A s b := by show ¬ s.heap.size ≤ b; omega
  have hcA : 36 + n ≤ room_1.cells := by show 36 + n ≤ 1067; omega
  have hsA : 4318 + 6 * n ≤ room_1.slots := by show 4318 + 6 * n ≤ 12552; omega
  have hcB : 36 + n + 1 ≤ room_1.cells := by show 36 + n + 1 ≤ 1067; omega
  have hsB : 4318 + 6 * n + 6 ≤ room_1.slots := by show 4318 + 6 * n + 6 ≤ 12552; omega
  obtain ⟨z, y, hz, hy, hz1, hy1, hk⟩ := hI.2.1.gd.now hI.2.2.1
  have h5 : I 5 = nI z := hI.1.2.2.1.trans hz1
  have h6 : I 6 = nI y := hI.1.2.2.2.1.trans hy1
  have hte := hI.1.2.1.teq hz
  have hA4 : A 4 y = sd y := hI.1.1 y hy
  have hok : okW σ.2.2.2.1 (I, A) := hI.1.2.2.2.2.2.2.2.2.2.1
  have hσ : sOk σ := hI.1.2.2.2.2.2.2.2.2.1
  have hfe : findS (uM A z) (kM A z) (A 4 y) (xs (nI (4 * n + 1)).toNatClampNeg) = findS (uR fn z) (kR fn z) (sd y) (xs (nI (4 * n + 1)).toNatClampNeg) := by rw [hA4]; exact (findS_c hte _ _).symm
  refine lv_aload_n C.1 C.2.1 dL_law_144 rfl (lv_at hl 3 rfl) ?_
  refine lv_aload_n C.1 C.2.1 dL_law_145 rfl (lv_at hl 4 rfl) ?_
  refine lv_iload C.1 C.2.1 dL_law_146 (lv_at hl 0 rfl) ?_
  refine lv_iconst (v := nI 1) C.1 C.2.1 dL_law_148 (by decide +kernel) ?_
  refine lv_iadd C.1 C.2.1 dL_law_149 ?_
  rw [nI_add]
  refine va_sld C.1 C.2.1 hXs hbl hbA hS (nI_in (by omega) (by omega)) dL_law_150 ?_
  refine lv_aload_n C.1 C.2.1 dL_law_151 rfl (lv_at hl 4 rfl) ?_
  refine lv_iload C.1 C.2.1 dL_law_152 (lv_at hl 0 rfl) ?_
  refine lv_iconst (v := nI 2) C.1 C.2.1 dL_law_154 (by decide +kernel) ?_
  refine lv_iadd C.1 C.2.1 dL_law_155 ?_
  rw [nI_add]
  refine va_sld C.1 C.2.1 hXs hbl hbA hS (nI_in (by omega) (by omega)) dL_law_156 ?_
  refine cr_cV (q0 := 0) 2 C (k_X3_put l D cI cZ cJ ac (mw am cI cZ [(ao, .inl (cJ, 1, .inr (.inl fo)))] I A) sd fn ft fm σ ta lp lr z y hz hy hz1 hy1 hσ (xs (nI (4 * n + 1)).toNatClampNeg) (xs (nI (4 * n + 2)).toNatClampNeg)) tw_92 tw_93 tw_94 tw_1 tw_95 rfl rfl rfl rfl (by decide +kernel) ⟨Nat.le_of_ble_eq_true rfl, Nat.le_of_ble_eq_true rfl⟩ ⟨hcA, hsA⟩ hP hD hS hl.1 rfl rfl (Nat.le_of_ble_eq_true rfl) dL_law_157 (fun r1 w1 H locs hE hP hD hS => ?_)
  obtain ⟨fn1, ft1, fm1, σ1, ta1, lp1, hw1⟩ := putE_w hE
  subst hw1
  have hP := la_PM hP
  have hD := la_DM hD
  have hP : va_P D vwCl (PWt ac am ao cI cZ cJ fo sd fn1 ft1 fm1 σ1 ta1 lp1 lr I A) H := hP
  have hD : va_D (la_A s) (PWt ac am ao cI cZ cJ fo sd fn1 ft1 fm1 σ1 ta1 lp1 lr I A) := hD
  refine lv_aload_n C.1 C.2.1 dL_law_160 rfl (lv_at hl 2 rfl) ?_
  refine lv_aload_n C.1 C.2.1 dL_law_161 rfl (lv_at hl 4 rfl) ?_
  refine lv_iload C.1 C.2.1 dL_law_162 (lv_at hl 0 rfl) ?_
  refine lv_iconst (v := nI 1) C.1 C.2.1 dL_law_164 (by decide +kernel) ?_
  refine lv_iadd C.1 C.2.1 dL_law_165 ?_
  rw [nI_add]
  refine va_sld C.1 C.2.1 hXs hbl hbA hS (nI_in (by omega) (by omega)) dL_law_166 ?_
  refine lv_aload_n C.1 C.2.1 dL_law_167 rfl (lv_at hl 4 rfl) ?_
  refine lv_iload C.1 C.2.1 dL_law_168 (lv_at hl 0 rfl) ?_
  refine lv_iconst (v := nI 2) C.1 C.2.1 dL_law_170 (by decide +kernel) ?_
  refine lv_iadd C.1 C.2.1 dL_law_171 ?_
  rw [nI_add]
  refine va_sld C.1 C.2.1 hXs hbl hbA hS (nI_in (by omega) (by omega)) dL_law_172 ?_
  refine cr_cV (q0 := 0) 2 C (k_X4_put l D cI cZ cJ am ((ao, .inl (cJ, 1, .inr (.inl fo))) :: cw ac cI [] sd fn1 ft1 fm1 σ1 ta1 lp1 lr) I A z y hz hy h5 h6 σ.2.2.2.1 hok (xs (nI (4 * n + 1)).toNatClampNeg) (xs (nI (4 * n + 2)).toNatClampNeg)) tw_564 tw_565 tw_566 tw_5 tw_567 rfl rfl rfl rfl (by decide +kernel) ⟨Nat.le_of_ble_eq_true rfl, Nat.le_of_ble_eq_true rfl⟩ ⟨hcA, hsA⟩ hP hD hS hl.1 rfl rfl (Nat.le_of_ble_eq_true rfl) dL_law_173 (fun r2 w2 H locs hE2 hP hD hS => ?_)
  obtain ⟨hrr, fn2, ft2, fm2, σ2, ta2, lp2, I2, A2, hw, hw2, hfin⟩ := hI.put hz hy hz1 hy1 hk hE hE2
  subst hw2
  have hcan : cw ac cI [] sd fn1 ft1 fm1 σ1 ta1 lp1 lr = cw ac cI [] sd fn2 ft2 fm2 σ2 ta2 lp2 lr := List.append_cancel_right (bs := (mw am cI cZ [(ao, .inl (cJ, 1, .inr (.inl fo)))] I A)) hw
  rw [hcan] at hP hD
  have hP : va_P D vwCl (PWt ac am ao cI cZ cJ fo sd fn2 ft2 fm2 σ2 ta2 lp2 lr I2 A2) H := hP
  have hD : va_D (la_A s) (PWt ac am ao cI cZ cJ fo sd fn2 ft2 fm2 σ2 ta2 lp2 lr I2 A2) := hD
  have hP := la_PC hP
  have hD := la_DC hD
  refine lv_icmp_eq (tgt := 539) C.1 C.2.1 dL_law_176 (by decide) (fun _ => ?_) (fun h => absurd (hrr) h)
  refine W.widen (k := 36 + (n + 1)) (n := 4318 + 6 * (n + 1)) (by omega) (by omega) ?_
  exact kk _ _ _ _ _ _ _ _ _ _ _ _ _ _ hl hP hD hS (hfin)
set_option maxHeartbeats 4000000 in
set_option maxRecDepth 100000 in
/-- the law: seed -/
theorem op_seed {p : Program} {l : Launch} {e : Env} {s : State} {m : MethodId} {below : List Frame} {meth : Method} {c : Code} {D : va_G} {cI cZ cJ : ClassId} {b L n ao : Nat} {xs : Nat → Int32} {ac am : Nat → Nat} {Q : State → Prop} (hls : l.stackTraces = false) (hL : L ≤ 2048) (hn : 4 * n + 4 ≤ L) (C : cm_C p s m #[Value.ref b] meth c code 7 ret RL D (cm_T cI cZ cJ)) (hXs : va_X b L xs s s.heap) (hbl : b < s.heap.size) (hVX : vt_X (la_A s) s s.heap) (kk : law_k p l e s m below meth c D cI cZ cJ b n ao ac am Q)
    {ls : Array Slot} {H : Heap} {locs : List Loc} {fo : Nat → Int64} {sd fn ft fm : Nat → Int32} {σ : WS} {ta lp lr : Int32} {I : Nat → Int32} {A : Nat → Nat → Int32} (hl : lv_has ls 7 [(4, .int (nI (4 * n))), (3, .ref ao), (2, .ref (am 0)), (1, .ref (ac 0)), (0, .ref b)]) (hP : va_P D vwCl (LWt ac am ao cI cZ cJ fo sd fn ft fm σ ta lp lr I A) H) (hD : va_D (la_A s) (LWt ac am ao cI cZ cJ fo sd fn ft fm σ ta lp lr I A)) (hS : va_S (la_A s) s.heap H locs) (hI : INV (10 * n) sd fn σ ta lp lr I A) : W p l e room_1 s m #[Value.ref b] below meth c H locs (36 + n) (4318 + 6 * n) Q (F0 m 96 ls []) := by
  have hbA : ¬ la_A s b := by show ¬ s.heap.size ≤ b; omega
  have hcA : 36 + n ≤ room_1.cells := by show 36 + n ≤ 1067; omega
  have hsA : 4318 + 6 * n ≤ room_1.slots := by show 4318 + 6 * n ≤ 12552; omega
  have hcB : 36 + n + 1 ≤ room_1.cells := by show 36 + n + 1 ≤ 1067; omega
  have hsB : 4318 + 6 * n + 6 ≤ room_1.slots := by show 4318 + 6 * n + 6 ≤ 12552; omega
  obtain ⟨z, y, hz, hy, hz1, hy1, hk⟩ := hI.2.1.gd.now hI.2.2.1
  have h5 : I 5 = nI z := hI.1.2.2.1.trans hz1
  have h6 : I 6 = nI y := hI.1.2.2.2.1.trans hy1
  have hte := hI.1.2.1.teq hz
  have hA4 : A 4 y = sd y := hI.1.1 y hy
  have hok : okW σ.2.2.2.1 (I, A) := hI.1.2.2.2.2.2.2.2.2.2.1
  have hσ : sOk σ := hI.1.2.2.2.2.2.2.2.2.1
  have hfe : findS (uM A z) (kM A z) (A 4 y) (xs (nI (4 * n + 1)).toNatClampNeg) = findS (uR fn z) (kR fn z) (sd y) (xs (nI (4 * n + 1)).toNatClampNeg) := by rw [hA4]; exact (findS_c hte _ _).symm
  have h21 : I 21 = nI σ.2.2.2.2 := hI.1.2.2.2.2.2.2.2.2.2.2.1
  have he8 : σ.2.2.2.2 < 2 ^ 31 := by have := hI.2.2.2.1; omega
  by_cases hb : ¬ (xs (nI (4 * n + 1)).toNatClampNeg) < 0 ∧ (xs (nI (4 * n + 1)).toNatClampNeg) < nI 4
  · obtain ⟨j, hj, ej⟩ := i32_lt9 (by decide) hb.1 hb.2
    by_cases he : σ.2.2.2.2 = 0
    · refine lv_aload_n C.1 C.2.1 dL_law_96 rfl (lv_at hl 3 rfl) ?_
      refine lv_aload_n C.1 C.2.1 dL_law_97 rfl (lv_at hl 4 rfl) ?_
      refine lv_iload C.1 C.2.1 dL_law_98 (lv_at hl 0 rfl) ?_
      refine lv_iconst (v := nI 1) C.1 C.2.1 dL_law_100 (by decide +kernel) ?_
      refine lv_iadd C.1 C.2.1 dL_law_101 ?_
      rw [nI_add]
      refine va_sld C.1 C.2.1 hXs hbl hbA hS (nI_in (by omega) (by omega)) dL_law_102 ?_
      rw [ej]
      refine lv_aload_n C.1 C.2.1 dL_law_103 rfl (lv_at hl 4 rfl) ?_
      refine lv_iload C.1 C.2.1 dL_law_104 (lv_at hl 0 rfl) ?_
      refine lv_iconst (v := nI 2) C.1 C.2.1 dL_law_106 (by decide +kernel) ?_
      refine lv_iadd C.1 C.2.1 dL_law_107 ?_
      rw [nI_add]
      refine va_sld C.1 C.2.1 hXs hbl hbA hS (nI_in (by omega) (by omega)) dL_law_108 ?_
      refine ch_cS 3 C (k_L_seed0 l D cI cZ cJ ac (mw am cI cZ [(ao, .inl (cJ, 1, .inr (.inl fo)))] I A) sd fn ft fm σ ta lp lr j hj (xs (nI (4 * n + 2)).toNatClampNeg) he) ((hVX.kept hS.2.1).narrow (fun q9 h9 => cm_A.in hD q9 h9)) tw_312 tw_313 tw_0 tw_314 rfl rfl (by decide +kernel) ⟨Nat.le_of_ble_eq_true rfl, Nat.le_of_ble_eq_true rfl⟩ ⟨hcB, hsB⟩ hP hD hS hl.1 rfl rfl (Nat.le_of_ble_eq_true rfl) dL_law_109 (fun r9 w9 H locs hE hP hD hS => ?_)
      obtain ⟨rfl, rfl⟩ := hE
      refine lv_istore (lv' := [(5, _), (4, _), (3, _), (2, _), (1, _), (0, _)]) C.1 C.2.1 dL_law_112 hl (by decide) rfl (fun ls hl => ?_)
      have hP := la_PM hP
      have hD := la_DM hD
      have hP : va_P D vwCl (PWt ac am ao cI cZ cJ fo (upd sd j (xs (nI (4 * n + 2)).toNatClampNeg)) fn ft fm σ ta lp lr I A) H := hP
      have hD : va_D (la_A s) (PWt ac am ao cI cZ cJ fo (upd sd j (xs (nI (4 * n + 2)).toNatClampNeg)) fn ft fm σ ta lp lr I A) := hD
      refine lv_aload_n C.1 C.2.1 dL_law_114 rfl (lv_at hl 3 rfl) ?_
      refine lv_aload_n C.1 C.2.1 dL_law_115 rfl (lv_at hl 5 rfl) ?_
      refine lv_iload C.1 C.2.1 dL_law_116 (lv_at hl 1 rfl) ?_
      refine lv_iconst (v := nI 1) C.1 C.2.1 dL_law_118 (by decide +kernel) ?_
      refine lv_iadd C.1 C.2.1 dL_law_119 ?_
      rw [nI_add]
      refine va_sld C.1 C.2.1 hXs hbl hbA hS (nI_in (by omega) (by omega)) dL_law_120 ?_
      rw [ej]
      refine lv_aload_n C.1 C.2.1 dL_law_121 rfl (lv_at hl 5 rfl) ?_
      refine lv_iload C.1 C.2.1 dL_law_122 (lv_at hl 1 rfl) ?_
      refine lv_iconst (v := nI 2) C.1 C.2.1 dL_law_124 (by decide +kernel) ?_
      refine lv_iadd C.1 C.2.1 dL_law_125 ?_
      rw [nI_add]
      refine va_sld C.1 C.2.1 hXs hbl hbA hS (nI_in (by omega) (by omega)) dL_law_126 ?_
      refine cm_cV0 (q0 := 0) 2 C (k_X4_seed0 l D cI cZ cJ am ((ao, .inl (cJ, 1, .inr (.inl fo))) :: cw ac cI [] (upd sd j (xs (nI (4 * n + 2)).toNatClampNeg)) fn ft fm σ ta lp lr) I A j hj σ.2.2.2.2 he8 h21 (xs (nI (4 * n + 2)).toNatClampNeg) he) tw_656 tw_657 tw_658 tw_5 tw_659 rfl rfl (rfl) rfl (by decide +kernel) ⟨Nat.le_of_ble_eq_true rfl, Nat.le_of_ble_eq_true rfl⟩ ⟨hcB, hsB⟩ hP hD hS hl.1 rfl rfl (Nat.le_of_ble_eq_true rfl) dL_law_127 (fun H locs hP hD hS => ?_)
      refine lv_aload_n C.1 C.2.1 dL_law_130 rfl (lv_at hl 3 rfl) ?_
      refine cm_cV1 (q0 := 0) 0 C (k_X4_thrown l D cI cZ cJ am ((ao, .inl (cJ, 1, .inr (.inl fo))) :: cw ac cI [] (upd sd j (xs (nI (4 * n + 2)).toNatClampNeg)) fn ft fm σ ta lp lr) (va_up I 0 (nI 0)) (va_up A 4 (upd (A 4) j (xs (nI (4 * n + 2)).toNatClampNeg)))) tw_560 tw_561 tw_562 tw_5 tw_563 rfl rfl (rfl) rfl (by decide +kernel) ⟨Nat.le_of_ble_eq_true rfl, Nat.le_of_ble_eq_true rfl⟩ ⟨hcB, hsB⟩ hP hD hS hl.1 rfl rfl (Nat.le_of_ble_eq_true rfl) dL_law_131 (fun H locs hP hD hS => ?_)
      have hP : va_P D vwCl (PWt ac am ao cI cZ cJ fo (upd sd j (xs (nI (4 * n + 2)).toNatClampNeg)) fn ft fm σ ta lp lr (va_up I 0 (nI 0)) (va_up A 4 (upd (A 4) j (xs (nI (4 * n + 2)).toNatClampNeg)))) H := hP
      have hD : va_D (la_A s) (PWt ac am ao cI cZ cJ fo (upd sd j (xs (nI (4 * n + 2)).toNatClampNeg)) fn ft fm σ ta lp lr (va_up I 0 (nI 0)) (va_up A 4 (upd (A 4) j (xs (nI (4 * n + 2)).toNatClampNeg)))) := hD
      have hP := la_PC hP
      have hD := la_DC hD
      refine lv_iload C.1 C.2.1 dL_law_134 (lv_at hl 0 rfl) ?_
      refine lv_icmp_eq (tgt := 141) C.1 C.2.1 dL_law_136 (by decide) (fun _ => ?_) (fun h => absurd (rfl) h)
      refine lv_goto (tgt := 539) C.1 C.2.1 dL_law_141 (by decide) ?_
      have hl := lv_sub hl [1, 2, 3, 4, 5] rfl
      refine W.widen (k := 36 + (n + 1)) (n := 4318 + 6 * (n + 1)) (by omega) (by omega) ?_
      exact kk _ _ _ _ _ _ _ _ _ _ _ _ _ _ hl hP hD hS (((hI.seed he j (xs (nI (4 * n + 2)).toNatClampNeg)).at0 (nI 0)).up (by omega))
    · refine lv_aload_n C.1 C.2.1 dL_law_96 rfl (lv_at hl 3 rfl) ?_
      refine lv_aload_n C.1 C.2.1 dL_law_97 rfl (lv_at hl 4 rfl) ?_
      refine lv_iload C.1 C.2.1 dL_law_98 (lv_at hl 0 rfl) ?_
      refine lv_iconst (v := nI 1) C.1 C.2.1 dL_law_100 (by decide +kernel) ?_
      refine lv_iadd C.1 C.2.1 dL_law_101 ?_
      rw [nI_add]
      refine va_sld C.1 C.2.1 hXs hbl hbA hS (nI_in (by omega) (by omega)) dL_law_102 ?_
      rw [ej]
      refine lv_aload_n C.1 C.2.1 dL_law_103 rfl (lv_at hl 4 rfl) ?_
      refine lv_iload C.1 C.2.1 dL_law_104 (lv_at hl 0 rfl) ?_
      refine lv_iconst (v := nI 2) C.1 C.2.1 dL_law_106 (by decide +kernel) ?_
      refine lv_iadd C.1 C.2.1 dL_law_107 ?_
      rw [nI_add]
      refine va_sld C.1 C.2.1 hXs hbl hbA hS (nI_in (by omega) (by omega)) dL_law_108 ?_
      refine ch_cS 3 C (k_L_seed2 l hls D cI cZ cJ ac (mw am cI cZ [(ao, .inl (cJ, 1, .inr (.inl fo)))] I A) sd fn ft fm σ ta lp lr j hj (xs (nI (4 * n + 2)).toNatClampNeg) (Nat.pos_of_ne_zero he) he8) ((hVX.kept hS.2.1).narrow (fun q9 h9 => cm_A.in hD q9 h9)) tw_312 tw_313 tw_0 tw_314 rfl rfl (by decide +kernel) ⟨Nat.le_of_ble_eq_true rfl, Nat.le_of_ble_eq_true rfl⟩ ⟨hcB, hsB⟩ hP hD hS hl.1 rfl rfl (Nat.le_of_ble_eq_true rfl) dL_law_109 (fun r9 w9 H locs hE hP hD hS => ?_)
      obtain ⟨rfl, rfl⟩ := hE
      refine lv_istore (lv' := [(5, _), (4, _), (3, _), (2, _), (1, _), (0, _)]) C.1 C.2.1 dL_law_112 hl (by decide) rfl (fun ls hl => ?_)
      have hP := la_PM hP
      have hD := la_DM hD
      have hP : va_P D vwCl (PWt ac am ao cI cZ cJ fo sd fn ft fm σ ta lp lr I A) H := hP
      have hD : va_D (la_A s) (PWt ac am ao cI cZ cJ fo sd fn ft fm σ ta lp lr I A) := hD
      refine lv_aload_n C.1 C.2.1 dL_law_114 rfl (lv_at hl 3 rfl) ?_
      refine lv_aload_n C.1 C.2.1 dL_law_115 rfl (lv_at hl 5 rfl) ?_
      refine lv_iload C.1 C.2.1 dL_law_116 (lv_at hl 1 rfl) ?_
      refine lv_iconst (v := nI 1) C.1 C.2.1 dL_law_118 (by decide +kernel) ?_
      refine lv_iadd C.1 C.2.1 dL_law_119 ?_
      rw [nI_add]
      refine va_sld C.1 C.2.1 hXs hbl hbA hS (nI_in (by omega) (by omega)) dL_law_120 ?_
      rw [ej]
      refine lv_aload_n C.1 C.2.1 dL_law_121 rfl (lv_at hl 5 rfl) ?_
      refine lv_iload C.1 C.2.1 dL_law_122 (lv_at hl 1 rfl) ?_
      refine lv_iconst (v := nI 2) C.1 C.2.1 dL_law_124 (by decide +kernel) ?_
      refine lv_iadd C.1 C.2.1 dL_law_125 ?_
      rw [nI_add]
      refine va_sld C.1 C.2.1 hXs hbl hbA hS (nI_in (by omega) (by omega)) dL_law_126 ?_
      refine cm_cV0 (q0 := 0) 2 C (k_X4_seed2 l D cI cZ cJ am ((ao, .inl (cJ, 1, .inr (.inl fo))) :: cw ac cI [] sd fn ft fm σ ta lp lr) I A j hj σ.2.2.2.2 he8 h21 (xs (nI (4 * n + 2)).toNatClampNeg) (Nat.pos_of_ne_zero he)) tw_656 tw_657 tw_658 tw_5 tw_659 rfl rfl (rfl) rfl (by decide +kernel) ⟨Nat.le_of_ble_eq_true rfl, Nat.le_of_ble_eq_true rfl⟩ ⟨hcB, hsB⟩ hP hD hS hl.1 rfl rfl (Nat.le_of_ble_eq_true rfl) dL_law_127 (fun H locs hP hD hS => ?_)
      refine lv_aload_n C.1 C.2.1 dL_law_130 rfl (lv_at hl 3 rfl) ?_
      refine cm_cV1 (q0 := 0) 0 C (k_X4_thrown l D cI cZ cJ am ((ao, .inl (cJ, 1, .inr (.inl fo))) :: cw ac cI [] sd fn ft fm σ ta lp lr) (va_up I 0 (nI 2)) A) tw_560 tw_561 tw_562 tw_5 tw_563 rfl rfl (rfl) rfl (by decide +kernel) ⟨Nat.le_of_ble_eq_true rfl, Nat.le_of_ble_eq_true rfl⟩ ⟨hcB, hsB⟩ hP hD hS hl.1 rfl rfl (Nat.le_of_ble_eq_true rfl) dL_law_131 (fun H locs hP hD hS => ?_)
      have hP : va_P D vwCl (PWt ac am ao cI cZ cJ fo sd fn ft fm σ ta lp lr (va_up I 0 (nI 2)) A) H := hP
      have hD : va_D (la_A s) (PWt ac am ao cI cZ cJ fo sd fn ft fm σ ta lp lr (va_up I 0 (nI 2)) A) := hD
      have hP := la_PC hP
      have hD := la_DC hD
      refine lv_iload C.1 C.2.1 dL_law_134 (lv_at hl 0 rfl) ?_
      refine lv_icmp_eq (tgt := 141) C.1 C.2.1 dL_law_136 (by decide) (fun _ => ?_) (fun h => absurd (rfl) h)
      refine lv_goto (tgt := 539) C.1 C.2.1 dL_law_141 (by decide) ?_
      have hl := lv_sub hl [1, 2, 3, 4, 5] rfl
      refine W.widen (k := 36 + (n + 1)) (n := 4318 + 6 * (n + 1)) (by omega) (by omega) ?_
      exact kk _ _ _ _ _ _ _ _ _ _ _ _ _ _ hl hP hD hS ((hI.at0 (nI 2)).up (by omega))
  · refine lv_aload_n C.1 C.2.1 dL_law_96 rfl (lv_at hl 3 rfl) ?_
    refine lv_aload_n C.1 C.2.1 dL_law_97 rfl (lv_at hl 4 rfl) ?_
    refine lv_iload C.1 C.2.1 dL_law_98 (lv_at hl 0 rfl) ?_
    refine lv_iconst (v := nI 1) C.1 C.2.1 dL_law_100 (by decide +kernel) ?_
    refine lv_iadd C.1 C.2.1 dL_law_101 ?_
    rw [nI_add]
    refine va_sld C.1 C.2.1 hXs hbl hbA hS (nI_in (by omega) (by omega)) dL_law_102 ?_
    refine lv_aload_n C.1 C.2.1 dL_law_103 rfl (lv_at hl 4 rfl) ?_
    refine lv_iload C.1 C.2.1 dL_law_104 (lv_at hl 0 rfl) ?_
    refine lv_iconst (v := nI 2) C.1 C.2.1 dL_law_106 (by decide +kernel) ?_
    refine lv_iadd C.1 C.2.1 dL_law_107 ?_
    rw [nI_add]
    refine va_sld C.1 C.2.1 hXs hbl hbA hS (nI_in (by omega) (by omega)) dL_law_108 ?_
    refine ch_cS 3 C (k_L_seed1 l hls D cI cZ cJ ac (mw am cI cZ [(ao, .inl (cJ, 1, .inr (.inl fo)))] I A) sd fn ft fm σ ta lp lr (xs (nI (4 * n + 1)).toNatClampNeg) (xs (nI (4 * n + 2)).toNatClampNeg) hb) ((hVX.kept hS.2.1).narrow (fun q9 h9 => cm_A.in hD q9 h9)) tw_312 tw_313 tw_0 tw_314 rfl rfl (by decide +kernel) ⟨Nat.le_of_ble_eq_true rfl, Nat.le_of_ble_eq_true rfl⟩ ⟨hcB, hsB⟩ hP hD hS hl.1 rfl rfl (Nat.le_of_ble_eq_true rfl) dL_law_109 (fun r9 w9 H locs hE hP hD hS => ?_)
    obtain ⟨rfl, rfl⟩ := hE
    refine lv_istore (lv' := [(5, _), (4, _), (3, _), (2, _), (1, _), (0, _)]) C.1 C.2.1 dL_law_112 hl (by decide) rfl (fun ls hl => ?_)
    have hP := la_PM hP
    have hD := la_DM hD
    have hP : va_P D vwCl (PWt ac am ao cI cZ cJ fo sd fn ft fm σ ta lp lr I A) H := hP
    have hD : va_D (la_A s) (PWt ac am ao cI cZ cJ fo sd fn ft fm σ ta lp lr I A) := hD
    refine lv_aload_n C.1 C.2.1 dL_law_114 rfl (lv_at hl 3 rfl) ?_
    refine lv_aload_n C.1 C.2.1 dL_law_115 rfl (lv_at hl 5 rfl) ?_
    refine lv_iload C.1 C.2.1 dL_law_116 (lv_at hl 1 rfl) ?_
    refine lv_iconst (v := nI 1) C.1 C.2.1 dL_law_118 (by decide +kernel) ?_
    refine lv_iadd C.1 C.2.1 dL_law_119 ?_
    rw [nI_add]
    refine va_sld C.1 C.2.1 hXs hbl hbA hS (nI_in (by omega) (by omega)) dL_law_120 ?_
    refine lv_aload_n C.1 C.2.1 dL_law_121 rfl (lv_at hl 5 rfl) ?_
    refine lv_iload C.1 C.2.1 dL_law_122 (lv_at hl 1 rfl) ?_
    refine lv_iconst (v := nI 2) C.1 C.2.1 dL_law_124 (by decide +kernel) ?_
    refine lv_iadd C.1 C.2.1 dL_law_125 ?_
    rw [nI_add]
    refine va_sld C.1 C.2.1 hXs hbl hbA hS (nI_in (by omega) (by omega)) dL_law_126 ?_
    refine cm_cV0 (q0 := 0) 2 C (k_X4_seed1 l D cI cZ cJ am ((ao, .inl (cJ, 1, .inr (.inl fo))) :: cw ac cI [] sd fn ft fm σ ta lp lr) I A (xs (nI (4 * n + 1)).toNatClampNeg) (xs (nI (4 * n + 2)).toNatClampNeg) (fun h9 => hb ⟨h9.1, Int32.lt_of_le_of_lt h9.2 (by decide)⟩)) tw_656 tw_657 tw_658 tw_5 tw_659 rfl rfl (rfl) rfl (by decide +kernel) ⟨Nat.le_of_ble_eq_true rfl, Nat.le_of_ble_eq_true rfl⟩ ⟨hcB, hsB⟩ hP hD hS hl.1 rfl rfl (Nat.le_of_ble_eq_true rfl) dL_law_127 (fun H locs hP hD hS => ?_)
    refine lv_aload_n C.1 C.2.1 dL_law_130 rfl (lv_at hl 3 rfl) ?_
    refine cm_cV1 (q0 := 0) 0 C (k_X4_thrown l D cI cZ cJ am ((ao, .inl (cJ, 1, .inr (.inl fo))) :: cw ac cI [] sd fn ft fm σ ta lp lr) (va_up I 0 (nI 1)) A) tw_560 tw_561 tw_562 tw_5 tw_563 rfl rfl (rfl) rfl (by decide +kernel) ⟨Nat.le_of_ble_eq_true rfl, Nat.le_of_ble_eq_true rfl⟩ ⟨hcB, hsB⟩ hP hD hS hl.1 rfl rfl (Nat.le_of_ble_eq_true rfl) dL_law_131 (fun H locs hP hD hS => ?_)
    have hP : va_P D vwCl (PWt ac am ao cI cZ cJ fo sd fn ft fm σ ta lp lr (va_up I 0 (nI 1)) A) H := hP
    have hD : va_D (la_A s) (PWt ac am ao cI cZ cJ fo sd fn ft fm σ ta lp lr (va_up I 0 (nI 1)) A) := hD
    have hP := la_PC hP
    have hD := la_DC hD
    refine lv_iload C.1 C.2.1 dL_law_134 (lv_at hl 0 rfl) ?_
    refine lv_icmp_eq (tgt := 141) C.1 C.2.1 dL_law_136 (by decide) (fun _ => ?_) (fun h => absurd (rfl) h)
    refine lv_goto (tgt := 539) C.1 C.2.1 dL_law_141 (by decide) ?_
    have hl := lv_sub hl [1, 2, 3, 4, 5] rfl
    refine W.widen (k := 36 + (n + 1)) (n := 4318 + 6 * (n + 1)) (by omega) (by omega) ?_
    exact kk _ _ _ _ _ _ _ _ _ _ _ _ _ _ hl hP hD hS ((hI.at0 (nI 1)).up (by omega))
set_option maxHeartbeats 4000000 in
set_option maxRecDepth 100000 in
/-- the law: crash -/
theorem op_crash {p : Program} {l : Launch} {e : Env} {s : State} {m : MethodId} {below : List Frame} {meth : Method} {c : Code} {D : va_G} {cI cZ cJ : ClassId} {b L n ao : Nat} {xs : Nat → Int32} {ac am : Nat → Nat} {Q : State → Prop} (hls : l.stackTraces = false) (hL : L ≤ 2048) (hn : 4 * n + 4 ≤ L) (C : cm_C p s m #[Value.ref b] meth c code 7 ret RL D (cm_T cI cZ cJ)) (hXs : va_X b L xs s s.heap) (hbl : b < s.heap.size) (hVX : vt_X (la_A s) s s.heap) (kk : law_k p l e s m below meth c D cI cZ cJ b n ao ac am Q)
    {ls : Array Slot} {H : Heap} {locs : List Loc} {fo : Nat → Int64} {sd fn ft fm : Nat → Int32} {σ : WS} {ta lp lr : Int32} {I : Nat → Int32} {A : Nat → Nat → Int32} (hl : lv_has ls 7 [(4, .int (nI (4 * n))), (3, .ref ao), (2, .ref (am 0)), (1, .ref (ac 0)), (0, .ref b)]) (hP : va_P D vwCl (LWt ac am ao cI cZ cJ fo sd fn ft fm σ ta lp lr I A) H) (hD : va_D (la_A s) (LWt ac am ao cI cZ cJ fo sd fn ft fm σ ta lp lr I A)) (hS : va_S (la_A s) s.heap H locs) (hI : INV (10 * n) sd fn σ ta lp lr I A) : W p l e room_1 s m #[Value.ref b] below meth c H locs (36 + n) (4318 + 6 * n) Q (F0 m 269 ls []) := by
  have hbA : ¬ la_A s b := by show ¬ s.heap.size ≤ b; omega
  have hcA : 36 + n ≤ room_1.cells := by show 36 + n ≤ 1067; omega
  have hsA : 4318 + 6 * n ≤ room_1.slots := by show 4318 + 6 * n ≤ 12552; omega
  have hcB : 36 + n + 1 ≤ room_1.cells := by show 36 + n + 1 ≤ 1067; omega
  have hsB : 4318 + 6 * n + 6 ≤ room_1.slots := by show 4318 + 6 * n + 6 ≤ 12552; omega
  obtain ⟨z, y, hz, hy, hz1, hy1, hk⟩ := hI.2.1.gd.now hI.2.2.1
  have h5 : I 5 = nI z := hI.1.2.2.1.trans hz1
  have h6 : I 6 = nI y := hI.1.2.2.2.1.trans hy1
  have hte := hI.1.2.1.teq hz
  have hA4 : A 4 y = sd y := hI.1.1 y hy
  have hok : okW σ.2.2.2.1 (I, A) := hI.1.2.2.2.2.2.2.2.2.2.1
  have hσ : sOk σ := hI.1.2.2.2.2.2.2.2.2.1
  have hfe : findS (uM A z) (kM A z) (A 4 y) (xs (nI (4 * n + 1)).toNatClampNeg) = findS (uR fn z) (kR fn z) (sd y) (xs (nI (4 * n + 1)).toNatClampNeg) := by rw [hA4]; exact (findS_c hte _ _).symm
  have h21 : I 21 = nI σ.2.2.2.2 := hI.1.2.2.2.2.2.2.2.2.2.2.1
  have he8 : σ.2.2.2.2 < 2 ^ 31 := by have := hI.2.2.2.1; omega
  by_cases hb : 0 ≤ (xs (nI (4 * n + 1)).toNatClampNeg)
  · obtain ⟨d9, hd9, ej⟩ := nI_of (Int32.not_lt.mpr hb)
    obtain ⟨n9, hn9⟩ : ∃ n9, n9 = if d9 < σ.2.2.2.1 then d9 else σ.2.2.2.1 := ⟨_, rfl⟩
    have hn8 : n9 ≤ σ.2.2.2.1 := by rw [hn9]; split <;> omega
    obtain ⟨t9, ht9, hmo, h16, h17, hfin⟩ := (hI.at0 (nI 0)).crash n9 hn8 fm
    refine lv_aload_n C.1 C.2.1 dL_law_269 rfl (lv_at hl 3 rfl) ?_
    refine lv_aload_n C.1 C.2.1 dL_law_270 rfl (lv_at hl 4 rfl) ?_
    refine lv_iload C.1 C.2.1 dL_law_271 (lv_at hl 0 rfl) ?_
    refine lv_iconst (v := nI 1) C.1 C.2.1 dL_law_273 (by decide +kernel) ?_
    refine lv_iadd C.1 C.2.1 dL_law_274 ?_
    rw [nI_add]
    refine va_sld C.1 C.2.1 hXs hbl hbA hS (nI_in (by omega) (by omega)) dL_law_275 ?_
    rw [ej]
    refine lv_aload_n C.1 C.2.1 dL_law_276 rfl (lv_at hl 1 rfl) ?_
    refine ch_cS 3 C (k_L_crash0 l D cI cZ cJ ac am ao fo I A sd fn ft fm σ ta lp lr (nI d9) _ _ _ _ _ _ _ (nI (σ.2.2.2.1 - n9)) (k_X3_crash0 l D cI cZ cJ ac (mw am cI cZ [(ao, .inl (cJ, 1, .inr (.inl fo)))] I A) sd fn ft fm σ ta lp lr hσ d9 hd9 n9 hn9 t9 hmo)) ((hVX.kept hS.2.1).narrow (fun q9 h9 => cm_A.in hD q9 h9)) tw_404 tw_405 tw_0 tw_406 rfl rfl (by decide +kernel) ⟨Nat.le_of_ble_eq_true rfl, Nat.le_of_ble_eq_true rfl⟩ ⟨hcB, hsB⟩ hP hD hS hl.1 rfl rfl (Nat.le_of_ble_eq_true rfl) dL_law_277 (fun r9 w9 H locs hE hP hD hS => ?_)
    obtain ⟨rfl, rfl⟩ := hE
    refine lv_istore (lv' := [(5, _), (4, _), (3, _), (2, _), (1, _), (0, _)]) C.1 C.2.1 dL_law_280 hl (by decide) rfl (fun ls hl => ?_)
    have hP := la_PM hP
    have hD := la_DM hD
    have hP : va_P D vwCl (PWt ac am ao cI cZ cJ (vp_updL fo (nI 0).toNatClampNeg (nI (σ.2.2.2.1 - n9) : Int32).toInt64) sd (cpN (upd (fillN (va_cpy (doN σ.2.1 σ.2.2.1 0 n9 σ.1) fm 418 0 22) 0 t9 (doN σ.2.1 σ.2.2.1 0 n9 σ.1)) 418 (nI 0)) 0 20 fn) ft (va_cpy (doN σ.2.1 σ.2.2.1 0 n9 σ.1) fm 418 0 22) ((upd (fillN (va_cpy (doN σ.2.1 σ.2.2.1 0 n9 σ.1) fm 418 0 22) 0 t9 (doN σ.2.1 σ.2.2.1 0 n9 σ.1)) 418 (nI 0)), σ.2.1, σ.2.2.1, 0, σ.2.2.2.2) ta lp (nI t9) I A) H := hP
    have hD : va_D (la_A s) (PWt ac am ao cI cZ cJ (vp_updL fo (nI 0).toNatClampNeg (nI (σ.2.2.2.1 - n9) : Int32).toInt64) sd (cpN (upd (fillN (va_cpy (doN σ.2.1 σ.2.2.1 0 n9 σ.1) fm 418 0 22) 0 t9 (doN σ.2.1 σ.2.2.1 0 n9 σ.1)) 418 (nI 0)) 0 20 fn) ft (va_cpy (doN σ.2.1 σ.2.2.1 0 n9 σ.1) fm 418 0 22) ((upd (fillN (va_cpy (doN σ.2.1 σ.2.2.1 0 n9 σ.1) fm 418 0 22) 0 t9 (doN σ.2.1 σ.2.2.1 0 n9 σ.1)) 418 (nI 0)), σ.2.1, σ.2.2.1, 0, σ.2.2.2.2) ta lp (nI t9) I A) := hD
    refine lv_aload_n C.1 C.2.1 dL_law_282 rfl (lv_at hl 3 rfl) ?_
    refine lv_aload_n C.1 C.2.1 dL_law_283 rfl (lv_at hl 5 rfl) ?_
    refine lv_iload C.1 C.2.1 dL_law_284 (lv_at hl 1 rfl) ?_
    refine lv_iconst (v := nI 1) C.1 C.2.1 dL_law_286 (by decide +kernel) ?_
    refine lv_iadd C.1 C.2.1 dL_law_287 ?_
    rw [nI_add]
    refine va_sld C.1 C.2.1 hXs hbl hbA hS (nI_in (by omega) (by omega)) dL_law_288 ?_
    rw [ej]
    refine cm_cV1 (q0 := 0) 1 C (k_X4_crash0 l D cI cZ cJ am ((ao, .inl (cJ, 1, .inr (.inl (vp_updL fo (nI 0).toNatClampNeg (nI (σ.2.2.2.1 - n9) : Int32).toInt64)))) :: cw ac cI [] sd (cpN (upd (fillN (va_cpy (doN σ.2.1 σ.2.2.1 0 n9 σ.1) fm 418 0 22) 0 t9 (doN σ.2.1 σ.2.2.1 0 n9 σ.1)) 418 (nI 0)) 0 20 fn) ft (va_cpy (doN σ.2.1 σ.2.2.1 0 n9 σ.1) fm 418 0 22) ((upd (fillN (va_cpy (doN σ.2.1 σ.2.2.1 0 n9 σ.1) fm 418 0 22) 0 t9 (doN σ.2.1 σ.2.2.1 0 n9 σ.1)) 418 (nI 0)), σ.2.1, σ.2.2.1, 0, σ.2.2.2.2) ta lp (nI t9)) I A d9 hd9 σ.2.2.2.1 hok n9 hn9 t9 ht9 h16 h17) tw_668 tw_669 tw_670 tw_5 tw_671 rfl rfl (rfl) rfl (by decide +kernel) ⟨Nat.le_of_ble_eq_true rfl, Nat.le_of_ble_eq_true rfl⟩ ⟨hcB, hsB⟩ hP hD hS hl.1 rfl rfl (Nat.le_of_ble_eq_true rfl) dL_law_289 (fun H locs hP hD hS => ?_)
    refine lv_istore (lv' := [(6, _), (5, _), (4, _), (3, _), (2, _), (1, _), (0, _)]) C.1 C.2.1 dL_law_292 hl (by decide) rfl (fun ls hl => ?_)
    refine lv_aload_n C.1 C.2.1 dL_law_294 rfl (lv_at hl 4 rfl) ?_
    refine cm_cV1 (q0 := 0) 0 C (k_X4_thrown l D cI cZ cJ am ((ao, .inl (cJ, 1, .inr (.inl (vp_updL fo (nI 0).toNatClampNeg (nI (σ.2.2.2.1 - n9) : Int32).toInt64)))) :: cw ac cI [] sd (cpN (upd (fillN (va_cpy (doN σ.2.1 σ.2.2.1 0 n9 σ.1) fm 418 0 22) 0 t9 (doN σ.2.1 σ.2.2.1 0 n9 σ.1)) 418 (nI 0)) 0 20 fn) ft (va_cpy (doN σ.2.1 σ.2.2.1 0 n9 σ.1) fm 418 0 22) ((upd (fillN (va_cpy (doN σ.2.1 σ.2.2.1 0 n9 σ.1) fm 418 0 22) 0 t9 (doN σ.2.1 σ.2.2.1 0 n9 σ.1)) 418 (nI 0)), σ.2.1, σ.2.2.1, 0, σ.2.2.2.2) ta lp (nI t9)) (crI (finN 0 n9 ((va_up I 0 (nI 0)), A)).1) (cpD 72 (rdo 0 t9 (finN 0 n9 ((va_up I 0 (nI 0)), A)).2))) tw_560 tw_561 tw_562 tw_5 tw_563 rfl rfl (rfl) rfl (by decide +kernel) ⟨Nat.le_of_ble_eq_true rfl, Nat.le_of_ble_eq_true rfl⟩ ⟨hcB, hsB⟩ hP hD hS hl.1 rfl rfl (Nat.le_of_ble_eq_true rfl) dL_law_295 (fun H locs hP hD hS => ?_)
    have hP : va_P D vwCl (PWt ac am ao cI cZ cJ (vp_updL fo (nI 0).toNatClampNeg (nI (σ.2.2.2.1 - n9) : Int32).toInt64) sd (cpN (upd (fillN (va_cpy (doN σ.2.1 σ.2.2.1 0 n9 σ.1) fm 418 0 22) 0 t9 (doN σ.2.1 σ.2.2.1 0 n9 σ.1)) 418 (nI 0)) 0 20 fn) ft (va_cpy (doN σ.2.1 σ.2.2.1 0 n9 σ.1) fm 418 0 22) ((upd (fillN (va_cpy (doN σ.2.1 σ.2.2.1 0 n9 σ.1) fm 418 0 22) 0 t9 (doN σ.2.1 σ.2.2.1 0 n9 σ.1)) 418 (nI 0)), σ.2.1, σ.2.2.1, 0, σ.2.2.2.2) ta lp (nI t9) (crI (finN 0 n9 ((va_up I 0 (nI 0)), A)).1) (cpD 72 (rdo 0 t9 (finN 0 n9 ((va_up I 0 (nI 0)), A)).2))) H := hP
    have hD : va_D (la_A s) (PWt ac am ao cI cZ cJ (vp_updL fo (nI 0).toNatClampNeg (nI (σ.2.2.2.1 - n9) : Int32).toInt64) sd (cpN (upd (fillN (va_cpy (doN σ.2.1 σ.2.2.1 0 n9 σ.1) fm 418 0 22) 0 t9 (doN σ.2.1 σ.2.2.1 0 n9 σ.1)) 418 (nI 0)) 0 20 fn) ft (va_cpy (doN σ.2.1 σ.2.2.1 0 n9 σ.1) fm 418 0 22) ((upd (fillN (va_cpy (doN σ.2.1 σ.2.2.1 0 n9 σ.1) fm 418 0 22) 0 t9 (doN σ.2.1 σ.2.2.1 0 n9 σ.1)) 418 (nI 0)), σ.2.1, σ.2.2.1, 0, σ.2.2.2.2) ta lp (nI t9) (crI (finN 0 n9 ((va_up I 0 (nI 0)), A)).1) (cpD 72 (rdo 0 t9 (finN 0 n9 ((va_up I 0 (nI 0)), A)).2))) := hD
    have hP := la_PC hP
    have hD := la_DC hD
    refine lv_iload C.1 C.2.1 dL_law_298 (lv_at hl 1 rfl) ?_
    refine lv_icmp_eq (tgt := 305) C.1 C.2.1 dL_law_300 (by decide) (fun _ => ?_) (fun h => absurd ((finN_same n9 0 ((va_up I 0 (nI 0)), A)).2 0 (by decide)) h)
    refine lv_iload C.1 C.2.1 dL_law_305 (lv_at hl 1 rfl) ?_
    refine lv_if_ne (tgt := 322) C.1 C.2.1 dL_law_307 (by decide) (fun h => absurd (rfl) h) (fun _ => ?_)
    refine lv_aload_n C.1 C.2.1 dL_law_310 rfl (lv_at hl 3 rfl) ?_
    refine lv_iconst (v := nI 0) C.1 C.2.1 dL_law_311 (by decide +kernel) ?_
    refine va_lald C.1 C.2.1 C.2.2.2.2.2.2.2.1 hP 35 2 rfl rfl (nI_in (by decide) (by decide)) dL_law_312 ?_
    rw [updL_at]
    refine lv_iload C.1 C.2.1 dL_law_313 (lv_at hl 0 rfl) ?_
    refine lv_i2l C.1 C.2.1 dL_law_315 rfl ?_
    refine W.lcmp C.1 C.2.1 dL_law_316 ?_
    rw [lcmp_eq]
    refine lv_if_eq (tgt := 322) C.1 C.2.1 dL_law_317 (by decide) (fun _ => ?_) (fun h => absurd (rfl) h)
    refine lv_goto (tgt := 539) C.1 C.2.1 dL_law_322 (by decide) ?_
    have hl := lv_sub hl [2, 3, 4, 5, 6] rfl
    refine W.widen (k := 36 + (n + 1)) (n := 4318 + 6 * (n + 1)) (by omega) (by omega) ?_
    exact kk _ _ _ _ _ _ _ _ _ _ _ _ _ _ hl hP hD hS (hfin.up (by omega))
  · refine lv_aload_n C.1 C.2.1 dL_law_269 rfl (lv_at hl 3 rfl) ?_
    refine lv_aload_n C.1 C.2.1 dL_law_270 rfl (lv_at hl 4 rfl) ?_
    refine lv_iload C.1 C.2.1 dL_law_271 (lv_at hl 0 rfl) ?_
    refine lv_iconst (v := nI 1) C.1 C.2.1 dL_law_273 (by decide +kernel) ?_
    refine lv_iadd C.1 C.2.1 dL_law_274 ?_
    rw [nI_add]
    refine va_sld C.1 C.2.1 hXs hbl hbA hS (nI_in (by omega) (by omega)) dL_law_275 ?_
    refine lv_aload_n C.1 C.2.1 dL_law_276 rfl (lv_at hl 1 rfl) ?_
    refine ch_cS 3 C (k_L_crash1 l hls D cI cZ cJ ac am ao fo I A sd fn ft fm σ ta lp lr (xs (nI (4 * n + 1)).toNatClampNeg) hb) ((hVX.kept hS.2.1).narrow (fun q9 h9 => cm_A.in hD q9 h9)) tw_404 tw_405 tw_0 tw_406 rfl rfl (by decide +kernel) ⟨Nat.le_of_ble_eq_true rfl, Nat.le_of_ble_eq_true rfl⟩ ⟨hcB, hsB⟩ hP hD hS hl.1 rfl rfl (Nat.le_of_ble_eq_true rfl) dL_law_277 (fun r9 w9 H locs hE hP hD hS => ?_)
    obtain ⟨rfl, rfl⟩ := hE
    refine lv_istore (lv' := [(5, _), (4, _), (3, _), (2, _), (1, _), (0, _)]) C.1 C.2.1 dL_law_280 hl (by decide) rfl (fun ls hl => ?_)
    have hP := la_PM hP
    have hD := la_DM hD
    have hP : va_P D vwCl (PWt ac am ao cI cZ cJ fo sd fn ft fm σ ta lp lr I A) H := hP
    have hD : va_D (la_A s) (PWt ac am ao cI cZ cJ fo sd fn ft fm σ ta lp lr I A) := hD
    refine lv_aload_n C.1 C.2.1 dL_law_282 rfl (lv_at hl 3 rfl) ?_
    refine lv_aload_n C.1 C.2.1 dL_law_283 rfl (lv_at hl 5 rfl) ?_
    refine lv_iload C.1 C.2.1 dL_law_284 (lv_at hl 1 rfl) ?_
    refine lv_iconst (v := nI 1) C.1 C.2.1 dL_law_286 (by decide +kernel) ?_
    refine lv_iadd C.1 C.2.1 dL_law_287 ?_
    rw [nI_add]
    refine va_sld C.1 C.2.1 hXs hbl hbA hS (nI_in (by omega) (by omega)) dL_law_288 ?_
    refine cm_cV1 (q0 := 0) 1 C (k_X4_crash1 l D cI cZ cJ am ((ao, .inl (cJ, 1, .inr (.inl fo))) :: cw ac cI [] sd fn ft fm σ ta lp lr) I A (xs (nI (4 * n + 1)).toNatClampNeg) (Int32.not_le.mp hb)) tw_668 tw_669 tw_670 tw_5 tw_671 rfl rfl (rfl) rfl (by decide +kernel) ⟨Nat.le_of_ble_eq_true rfl, Nat.le_of_ble_eq_true rfl⟩ ⟨hcB, hsB⟩ hP hD hS hl.1 rfl rfl (Nat.le_of_ble_eq_true rfl) dL_law_289 (fun H locs hP hD hS => ?_)
    refine lv_istore (lv' := [(6, _), (5, _), (4, _), (3, _), (2, _), (1, _), (0, _)]) C.1 C.2.1 dL_law_292 hl (by decide) rfl (fun ls hl => ?_)
    refine lv_aload_n C.1 C.2.1 dL_law_294 rfl (lv_at hl 4 rfl) ?_
    refine cm_cV1 (q0 := 0) 0 C (k_X4_thrown l D cI cZ cJ am ((ao, .inl (cJ, 1, .inr (.inl fo))) :: cw ac cI [] sd fn ft fm σ ta lp lr) (va_up I 0 (nI 1)) A) tw_560 tw_561 tw_562 tw_5 tw_563 rfl rfl (rfl) rfl (by decide +kernel) ⟨Nat.le_of_ble_eq_true rfl, Nat.le_of_ble_eq_true rfl⟩ ⟨hcB, hsB⟩ hP hD hS hl.1 rfl rfl (Nat.le_of_ble_eq_true rfl) dL_law_295 (fun H locs hP hD hS => ?_)
    have hP : va_P D vwCl (PWt ac am ao cI cZ cJ fo sd fn ft fm σ ta lp lr (va_up I 0 (nI 1)) A) H := hP
    have hD : va_D (la_A s) (PWt ac am ao cI cZ cJ fo sd fn ft fm σ ta lp lr (va_up I 0 (nI 1)) A) := hD
    have hP := la_PC hP
    have hD := la_DC hD
    refine lv_iload C.1 C.2.1 dL_law_298 (lv_at hl 1 rfl) ?_
    refine lv_icmp_eq (tgt := 305) C.1 C.2.1 dL_law_300 (by decide) (fun _ => ?_) (fun h => absurd (rfl) h)
    refine lv_iload C.1 C.2.1 dL_law_305 (lv_at hl 1 rfl) ?_
    refine lv_if_ne (tgt := 322) C.1 C.2.1 dL_law_307 (by decide) (fun _ => ?_) (fun h => absurd h (by decide))
    refine lv_goto (tgt := 539) C.1 C.2.1 dL_law_322 (by decide) ?_
    have hl := lv_sub hl [2, 3, 4, 5, 6] rfl
    refine W.widen (k := 36 + (n + 1)) (n := 4318 + 6 * (n + 1)) (by omega) (by omega) ?_
    exact kk _ _ _ _ _ _ _ _ _ _ _ _ _ _ hl hP hD hS ((hI.at0 (nI 1)).up (by omega))
set_option maxHeartbeats 4000000 in
set_option maxRecDepth 100000 in
/-- the law: slot -/
theorem op_slot {p : Program} {l : Launch} {e : Env} {s : State} {m : MethodId} {below : List Frame} {meth : Method} {c : Code} {D : va_G} {cI cZ cJ : ClassId} {b L n ao : Nat} {xs : Nat → Int32} {ac am : Nat → Nat} {Q : State → Prop} (hls : l.stackTraces = false) (hL : L ≤ 2048) (hn : 4 * n + 4 ≤ L) (C : cm_C p s m #[Value.ref b] meth c code 7 ret RL D (cm_T cI cZ cJ)) (hXs : va_X b L xs s s.heap) (hbl : b < s.heap.size) (hVX : vt_X (la_A s) s s.heap) (kk : law_k p l e s m below meth c D cI cZ cJ b n ao ac am Q)
    {ls : Array Slot} {H : Heap} {locs : List Loc} {fo : Nat → Int64} {sd fn ft fm : Nat → Int32} {σ : WS} {ta lp lr : Int32} {I : Nat → Int32} {A : Nat → Nat → Int32} (hl : lv_has ls 7 [(4, .int (nI (4 * n))), (3, .ref ao), (2, .ref (am 0)), (1, .ref (ac 0)), (0, .ref b)]) (hP : va_P D vwCl (LWt ac am ao cI cZ cJ fo sd fn ft fm σ ta lp lr I A) H) (hD : va_D (la_A s) (LWt ac am ao cI cZ cJ fo sd fn ft fm σ ta lp lr I A)) (hS : va_S (la_A s) s.heap H locs) (hI : INV (10 * n) sd fn σ ta lp lr I A) : W p l e room_1 s m #[Value.ref b] below meth c H locs (36 + n) (4318 + 6 * n) Q (F0 m 325 ls []) := by
  have hbA : ¬ la_A s b := by show ¬ s.heap.size ≤ b; omega
  have hcA : 36 + n ≤ room_1.cells := by show 36 + n ≤ 1067; omega
  have hsA : 4318 + 6 * n ≤ room_1.slots := by show 4318 + 6 * n ≤ 12552; omega
  have hcB : 36 + n + 1 ≤ room_1.cells := by show 36 + n + 1 ≤ 1067; omega
  have hsB : 4318 + 6 * n + 6 ≤ room_1.slots := by show 4318 + 6 * n + 6 ≤ 12552; omega
  obtain ⟨z, y, hz, hy, hz1, hy1, hk⟩ := hI.2.1.gd.now hI.2.2.1
  have h5 : I 5 = nI z := hI.1.2.2.1.trans hz1
  have h6 : I 6 = nI y := hI.1.2.2.2.1.trans hy1
  have hte := hI.1.2.1.teq hz
  have hA4 : A 4 y = sd y := hI.1.1 y hy
  have hok : okW σ.2.2.2.1 (I, A) := hI.1.2.2.2.2.2.2.2.2.2.1
  have hσ : sOk σ := hI.1.2.2.2.2.2.2.2.2.1
  have hfe : findS (uM A z) (kM A z) (A 4 y) (xs (nI (4 * n + 1)).toNatClampNeg) = findS (uR fn z) (kR fn z) (sd y) (xs (nI (4 * n + 1)).toNatClampNeg) := by rw [hA4]; exact (findS_c hte _ _).symm
  have h21 : I 21 = nI σ.2.2.2.2 := hI.1.2.2.2.2.2.2.2.2.2.2.1
  have he8 : σ.2.2.2.2 < 2 ^ 31 := by have := hI.2.2.2.1; omega
  by_cases hb : ¬ (xs (nI (4 * n + 1)).toNatClampNeg) < 0 ∧ (xs (nI (4 * n + 1)).toNatClampNeg) < nI 9 ∧ ¬ (xs (nI (4 * n + 2)).toNatClampNeg) < 0 ∧ (xs (nI (4 * n + 2)).toNatClampNeg) < nI 4 ∧ ¬ (xs (nI (4 * n + 3)).toNatClampNeg) < 0 ∧ (xs (nI (4 * n + 3)).toNatClampNeg) ≤ nI 2
  · obtain ⟨pg, hpg, e1⟩ := i32_lt9 (by decide) hb.1 hb.2.1
    obtain ⟨sl, hsl, e2⟩ := i32_lt9 (by decide) hb.2.2.1 hb.2.2.2.1
    obtain ⟨wh, hwh, e3⟩ := i32_lt9 (k := 3) (by decide) hb.2.2.2.2.1 (Int32.lt_of_le_of_lt hb.2.2.2.2.2 (by decide))
    have hv : (if uR fn z (4 * pg + sl) = false then nI 0 else if wh = 0 then nI 1 else if wh = 1 then kR fn z (4 * pg + sl) else vR fn z (4 * pg + sl)) = (if uM A z (4 * pg + sl) = false then nI 0 else if wh = 0 then nI 1 else if wh = 1 then kM A z (4 * pg + sl) else vM A z (4 * pg + sl)) := by
      obtain ⟨q1, q2⟩ := hte (4 * pg + sl) (by omega)
      rw [← q1]
      cases hu : uR fn z (4 * pg + sl) with
      | false => rfl
      | true =>
        obtain ⟨q3, q4⟩ := q2 hu
        rw [q3, q4]
    refine lv_aload_n C.1 C.2.1 dL_law_325 rfl (lv_at hl 3 rfl) ?_
    refine lv_aload_n C.1 C.2.1 dL_law_326 rfl (lv_at hl 4 rfl) ?_
    refine lv_iload C.1 C.2.1 dL_law_327 (lv_at hl 0 rfl) ?_
    refine lv_iconst (v := nI 1) C.1 C.2.1 dL_law_329 (by decide +kernel) ?_
    refine lv_iadd C.1 C.2.1 dL_law_330 ?_
    rw [nI_add]
    refine va_sld C.1 C.2.1 hXs hbl hbA hS (nI_in (by omega) (by omega)) dL_law_331 ?_
    rw [e1]
    refine lv_aload_n C.1 C.2.1 dL_law_332 rfl (lv_at hl 4 rfl) ?_
    refine lv_iload C.1 C.2.1 dL_law_333 (lv_at hl 0 rfl) ?_
    refine lv_iconst (v := nI 2) C.1 C.2.1 dL_law_335 (by decide +kernel) ?_
    refine lv_iadd C.1 C.2.1 dL_law_336 ?_
    rw [nI_add]
    refine va_sld C.1 C.2.1 hXs hbl hbA hS (nI_in (by omega) (by omega)) dL_law_337 ?_
    rw [e2]
    refine lv_aload_n C.1 C.2.1 dL_law_338 rfl (lv_at hl 4 rfl) ?_
    refine lv_iload C.1 C.2.1 dL_law_339 (lv_at hl 0 rfl) ?_
    refine lv_iconst (v := nI 3) C.1 C.2.1 dL_law_341 (by decide +kernel) ?_
    refine lv_iadd C.1 C.2.1 dL_law_342 ?_
    rw [nI_add]
    refine va_sld C.1 C.2.1 hXs hbl hbA hS (nI_in (by omega) (by omega)) dL_law_343 ?_
    rw [e3]
    refine lv_aload_n C.1 C.2.1 dL_law_344 rfl (lv_at hl 1 rfl) ?_
    refine ch_cS 5 C (k_L_slot0 l D cI cZ cJ ac am ao fo I A sd fn ft fm σ ta lp lr (nI pg) (nI sl) (nI wh) _ _ _ _ _ _ _ (if uR fn z (4 * pg + sl) = false then nI 0 else if wh = 0 then nI 1 else if wh = 1 then kR fn z (4 * pg + sl) else vR fn z (4 * pg + sl)) (k_X3_slot0 l D cI cZ cJ ac (mw am cI cZ [(ao, .inl (cJ, 1, .inr (.inl fo)))] I A) sd fn ft fm σ ta lp lr z hz hz1 pg sl wh hpg hsl (by omega))) ((hVX.kept hS.2.1).narrow (fun q9 h9 => cm_A.in hD q9 h9)) tw_424 tw_425 tw_0 tw_426 rfl rfl (by decide +kernel) ⟨Nat.le_of_ble_eq_true rfl, Nat.le_of_ble_eq_true rfl⟩ ⟨hcB, hsB⟩ hP hD hS hl.1 rfl rfl (Nat.le_of_ble_eq_true rfl) dL_law_345 (fun r9 w9 H locs hE hP hD hS => ?_)
    obtain ⟨rfl, rfl⟩ := hE
    refine lv_istore (lv' := [(5, _), (4, _), (3, _), (2, _), (1, _), (0, _)]) C.1 C.2.1 dL_law_348 hl (by decide) rfl (fun ls hl => ?_)
    have hP := la_PM hP
    have hD := la_DM hD
    have hP : va_P D vwCl (PWt ac am ao cI cZ cJ (vp_updL fo (nI 0).toNatClampNeg ((if uR fn z (4 * pg + sl) = false then nI 0 else if wh = 0 then nI 1 else if wh = 1 then kR fn z (4 * pg + sl) else vR fn z (4 * pg + sl)) : Int32).toInt64) sd fn ft fm σ ta lp lr I A) H := hP
    have hD : va_D (la_A s) (PWt ac am ao cI cZ cJ (vp_updL fo (nI 0).toNatClampNeg ((if uR fn z (4 * pg + sl) = false then nI 0 else if wh = 0 then nI 1 else if wh = 1 then kR fn z (4 * pg + sl) else vR fn z (4 * pg + sl)) : Int32).toInt64) sd fn ft fm σ ta lp lr I A) := hD
    refine lv_aload_n C.1 C.2.1 dL_law_350 rfl (lv_at hl 3 rfl) ?_
    refine lv_aload_n C.1 C.2.1 dL_law_351 rfl (lv_at hl 5 rfl) ?_
    refine lv_iload C.1 C.2.1 dL_law_352 (lv_at hl 1 rfl) ?_
    refine lv_iconst (v := nI 1) C.1 C.2.1 dL_law_354 (by decide +kernel) ?_
    refine lv_iadd C.1 C.2.1 dL_law_355 ?_
    rw [nI_add]
    refine va_sld C.1 C.2.1 hXs hbl hbA hS (nI_in (by omega) (by omega)) dL_law_356 ?_
    rw [e1]
    refine lv_aload_n C.1 C.2.1 dL_law_357 rfl (lv_at hl 5 rfl) ?_
    refine lv_iload C.1 C.2.1 dL_law_358 (lv_at hl 1 rfl) ?_
    refine lv_iconst (v := nI 2) C.1 C.2.1 dL_law_360 (by decide +kernel) ?_
    refine lv_iadd C.1 C.2.1 dL_law_361 ?_
    rw [nI_add]
    refine va_sld C.1 C.2.1 hXs hbl hbA hS (nI_in (by omega) (by omega)) dL_law_362 ?_
    rw [e2]
    refine lv_aload_n C.1 C.2.1 dL_law_363 rfl (lv_at hl 5 rfl) ?_
    refine lv_iload C.1 C.2.1 dL_law_364 (lv_at hl 1 rfl) ?_
    refine lv_iconst (v := nI 3) C.1 C.2.1 dL_law_366 (by decide +kernel) ?_
    refine lv_iadd C.1 C.2.1 dL_law_367 ?_
    rw [nI_add]
    refine va_sld C.1 C.2.1 hXs hbl hbA hS (nI_in (by omega) (by omega)) dL_law_368 ?_
    rw [e3]
    refine cm_cV1 (q0 := 0) 3 C (k_X4_slot0 l D cI cZ cJ am ((ao, .inl (cJ, 1, .inr (.inl (vp_updL fo (nI 0).toNatClampNeg ((if uR fn z (4 * pg + sl) = false then nI 0 else if wh = 0 then nI 1 else if wh = 1 then kR fn z (4 * pg + sl) else vR fn z (4 * pg + sl)) : Int32).toInt64)))) :: cw ac cI [] sd fn ft fm σ ta lp lr) I A z hz h5 pg sl wh hpg hsl (by omega)) tw_672 tw_673 tw_674 tw_5 tw_675 rfl rfl (rfl) rfl (by decide +kernel) ⟨Nat.le_of_ble_eq_true rfl, Nat.le_of_ble_eq_true rfl⟩ ⟨hcB, hsB⟩ hP hD hS hl.1 rfl rfl (Nat.le_of_ble_eq_true rfl) dL_law_369 (fun H locs hP hD hS => ?_)
    refine lv_istore (lv' := [(6, _), (5, _), (4, _), (3, _), (2, _), (1, _), (0, _)]) C.1 C.2.1 dL_law_372 hl (by decide) rfl (fun ls hl => ?_)
    refine lv_aload_n C.1 C.2.1 dL_law_374 rfl (lv_at hl 4 rfl) ?_
    refine cm_cV1 (q0 := 0) 0 C (k_X4_thrown l D cI cZ cJ am ((ao, .inl (cJ, 1, .inr (.inl (vp_updL fo (nI 0).toNatClampNeg ((if uR fn z (4 * pg + sl) = false then nI 0 else if wh = 0 then nI 1 else if wh = 1 then kR fn z (4 * pg + sl) else vR fn z (4 * pg + sl)) : Int32).toInt64)))) :: cw ac cI [] sd fn ft fm σ ta lp lr) (va_up I 0 (nI 0)) A) tw_560 tw_561 tw_562 tw_5 tw_563 rfl rfl (rfl) rfl (by decide +kernel) ⟨Nat.le_of_ble_eq_true rfl, Nat.le_of_ble_eq_true rfl⟩ ⟨hcB, hsB⟩ hP hD hS hl.1 rfl rfl (Nat.le_of_ble_eq_true rfl) dL_law_375 (fun H locs hP hD hS => ?_)
    have hP : va_P D vwCl (PWt ac am ao cI cZ cJ (vp_updL fo (nI 0).toNatClampNeg ((if uR fn z (4 * pg + sl) = false then nI 0 else if wh = 0 then nI 1 else if wh = 1 then kR fn z (4 * pg + sl) else vR fn z (4 * pg + sl)) : Int32).toInt64) sd fn ft fm σ ta lp lr (va_up I 0 (nI 0)) A) H := hP
    have hD : va_D (la_A s) (PWt ac am ao cI cZ cJ (vp_updL fo (nI 0).toNatClampNeg ((if uR fn z (4 * pg + sl) = false then nI 0 else if wh = 0 then nI 1 else if wh = 1 then kR fn z (4 * pg + sl) else vR fn z (4 * pg + sl)) : Int32).toInt64) sd fn ft fm σ ta lp lr (va_up I 0 (nI 0)) A) := hD
    have hP := la_PC hP
    have hD := la_DC hD
    refine lv_iload C.1 C.2.1 dL_law_378 (lv_at hl 1 rfl) ?_
    refine lv_icmp_eq (tgt := 385) C.1 C.2.1 dL_law_380 (by decide) (fun _ => ?_) (fun h => absurd (rfl) h)
    refine lv_iload C.1 C.2.1 dL_law_385 (lv_at hl 1 rfl) ?_
    refine lv_if_ne (tgt := 402) C.1 C.2.1 dL_law_387 (by decide) (fun h => absurd (rfl) h) (fun _ => ?_)
    refine lv_aload_n C.1 C.2.1 dL_law_390 rfl (lv_at hl 3 rfl) ?_
    refine lv_iconst (v := nI 0) C.1 C.2.1 dL_law_391 (by decide +kernel) ?_
    refine va_lald C.1 C.2.1 C.2.2.2.2.2.2.2.1 hP 35 2 rfl rfl (nI_in (by decide) (by decide)) dL_law_392 ?_
    rw [updL_at]
    refine lv_iload C.1 C.2.1 dL_law_393 (lv_at hl 0 rfl) ?_
    refine lv_i2l C.1 C.2.1 dL_law_395 rfl ?_
    refine W.lcmp C.1 C.2.1 dL_law_396 ?_
    rw [hv, lcmp_eq]
    refine lv_if_eq (tgt := 402) C.1 C.2.1 dL_law_397 (by decide) (fun _ => ?_) (fun h => absurd (rfl) h)
    refine lv_goto (tgt := 539) C.1 C.2.1 dL_law_402 (by decide) ?_
    have hl := lv_sub hl [2, 3, 4, 5, 6] rfl
    refine W.widen (k := 36 + (n + 1)) (n := 4318 + 6 * (n + 1)) (by omega) (by omega) ?_
    exact kk _ _ _ _ _ _ _ _ _ _ _ _ _ _ hl hP hD hS ((hI.at0 (nI 0)).up (by omega))
  · refine lv_aload_n C.1 C.2.1 dL_law_325 rfl (lv_at hl 3 rfl) ?_
    refine lv_aload_n C.1 C.2.1 dL_law_326 rfl (lv_at hl 4 rfl) ?_
    refine lv_iload C.1 C.2.1 dL_law_327 (lv_at hl 0 rfl) ?_
    refine lv_iconst (v := nI 1) C.1 C.2.1 dL_law_329 (by decide +kernel) ?_
    refine lv_iadd C.1 C.2.1 dL_law_330 ?_
    rw [nI_add]
    refine va_sld C.1 C.2.1 hXs hbl hbA hS (nI_in (by omega) (by omega)) dL_law_331 ?_
    refine lv_aload_n C.1 C.2.1 dL_law_332 rfl (lv_at hl 4 rfl) ?_
    refine lv_iload C.1 C.2.1 dL_law_333 (lv_at hl 0 rfl) ?_
    refine lv_iconst (v := nI 2) C.1 C.2.1 dL_law_335 (by decide +kernel) ?_
    refine lv_iadd C.1 C.2.1 dL_law_336 ?_
    rw [nI_add]
    refine va_sld C.1 C.2.1 hXs hbl hbA hS (nI_in (by omega) (by omega)) dL_law_337 ?_
    refine lv_aload_n C.1 C.2.1 dL_law_338 rfl (lv_at hl 4 rfl) ?_
    refine lv_iload C.1 C.2.1 dL_law_339 (lv_at hl 0 rfl) ?_
    refine lv_iconst (v := nI 3) C.1 C.2.1 dL_law_341 (by decide +kernel) ?_
    refine lv_iadd C.1 C.2.1 dL_law_342 ?_
    rw [nI_add]
    refine va_sld C.1 C.2.1 hXs hbl hbA hS (nI_in (by omega) (by omega)) dL_law_343 ?_
    refine lv_aload_n C.1 C.2.1 dL_law_344 rfl (lv_at hl 1 rfl) ?_
    refine ch_cS 5 C (k_L_slot1 l hls D cI cZ cJ ac am ao fo I A sd fn ft fm σ ta lp lr (xs (nI (4 * n + 1)).toNatClampNeg) (xs (nI (4 * n + 2)).toNatClampNeg) (xs (nI (4 * n + 3)).toNatClampNeg) hb) ((hVX.kept hS.2.1).narrow (fun q9 h9 => cm_A.in hD q9 h9)) tw_424 tw_425 tw_0 tw_426 rfl rfl (by decide +kernel) ⟨Nat.le_of_ble_eq_true rfl, Nat.le_of_ble_eq_true rfl⟩ ⟨hcB, hsB⟩ hP hD hS hl.1 rfl rfl (Nat.le_of_ble_eq_true rfl) dL_law_345 (fun r9 w9 H locs hE hP hD hS => ?_)
    obtain ⟨rfl, rfl⟩ := hE
    refine lv_istore (lv' := [(5, _), (4, _), (3, _), (2, _), (1, _), (0, _)]) C.1 C.2.1 dL_law_348 hl (by decide) rfl (fun ls hl => ?_)
    have hP := la_PM hP
    have hD := la_DM hD
    have hP : va_P D vwCl (PWt ac am ao cI cZ cJ fo sd fn ft fm σ ta lp lr I A) H := hP
    have hD : va_D (la_A s) (PWt ac am ao cI cZ cJ fo sd fn ft fm σ ta lp lr I A) := hD
    refine lv_aload_n C.1 C.2.1 dL_law_350 rfl (lv_at hl 3 rfl) ?_
    refine lv_aload_n C.1 C.2.1 dL_law_351 rfl (lv_at hl 5 rfl) ?_
    refine lv_iload C.1 C.2.1 dL_law_352 (lv_at hl 1 rfl) ?_
    refine lv_iconst (v := nI 1) C.1 C.2.1 dL_law_354 (by decide +kernel) ?_
    refine lv_iadd C.1 C.2.1 dL_law_355 ?_
    rw [nI_add]
    refine va_sld C.1 C.2.1 hXs hbl hbA hS (nI_in (by omega) (by omega)) dL_law_356 ?_
    refine lv_aload_n C.1 C.2.1 dL_law_357 rfl (lv_at hl 5 rfl) ?_
    refine lv_iload C.1 C.2.1 dL_law_358 (lv_at hl 1 rfl) ?_
    refine lv_iconst (v := nI 2) C.1 C.2.1 dL_law_360 (by decide +kernel) ?_
    refine lv_iadd C.1 C.2.1 dL_law_361 ?_
    rw [nI_add]
    refine va_sld C.1 C.2.1 hXs hbl hbA hS (nI_in (by omega) (by omega)) dL_law_362 ?_
    refine lv_aload_n C.1 C.2.1 dL_law_363 rfl (lv_at hl 5 rfl) ?_
    refine lv_iload C.1 C.2.1 dL_law_364 (lv_at hl 1 rfl) ?_
    refine lv_iconst (v := nI 3) C.1 C.2.1 dL_law_366 (by decide +kernel) ?_
    refine lv_iadd C.1 C.2.1 dL_law_367 ?_
    rw [nI_add]
    refine va_sld C.1 C.2.1 hXs hbl hbA hS (nI_in (by omega) (by omega)) dL_law_368 ?_
    refine cm_cV1 (q0 := 0) 3 C (k_X4_slot1 l D cI cZ cJ am ((ao, .inl (cJ, 1, .inr (.inl fo))) :: cw ac cI [] sd fn ft fm σ ta lp lr) I A (xs (nI (4 * n + 1)).toNatClampNeg) (xs (nI (4 * n + 2)).toNatClampNeg) (xs (nI (4 * n + 3)).toNatClampNeg) (fun h9 => hb ⟨h9.1, Int32.not_le.mp h9.2.1, h9.2.2.1, Int32.not_le.mp h9.2.2.2.1, h9.2.2.2.2.1, Int32.not_lt.mp h9.2.2.2.2.2⟩)) tw_672 tw_673 tw_674 tw_5 tw_675 rfl rfl (rfl) rfl (by decide +kernel) ⟨Nat.le_of_ble_eq_true rfl, Nat.le_of_ble_eq_true rfl⟩ ⟨hcB, hsB⟩ hP hD hS hl.1 rfl rfl (Nat.le_of_ble_eq_true rfl) dL_law_369 (fun H locs hP hD hS => ?_)
    refine lv_istore (lv' := [(6, _), (5, _), (4, _), (3, _), (2, _), (1, _), (0, _)]) C.1 C.2.1 dL_law_372 hl (by decide) rfl (fun ls hl => ?_)
    refine lv_aload_n C.1 C.2.1 dL_law_374 rfl (lv_at hl 4 rfl) ?_
    refine cm_cV1 (q0 := 0) 0 C (k_X4_thrown l D cI cZ cJ am ((ao, .inl (cJ, 1, .inr (.inl fo))) :: cw ac cI [] sd fn ft fm σ ta lp lr) (va_up I 0 (nI 1)) A) tw_560 tw_561 tw_562 tw_5 tw_563 rfl rfl (rfl) rfl (by decide +kernel) ⟨Nat.le_of_ble_eq_true rfl, Nat.le_of_ble_eq_true rfl⟩ ⟨hcB, hsB⟩ hP hD hS hl.1 rfl rfl (Nat.le_of_ble_eq_true rfl) dL_law_375 (fun H locs hP hD hS => ?_)
    have hP : va_P D vwCl (PWt ac am ao cI cZ cJ fo sd fn ft fm σ ta lp lr (va_up I 0 (nI 1)) A) H := hP
    have hD : va_D (la_A s) (PWt ac am ao cI cZ cJ fo sd fn ft fm σ ta lp lr (va_up I 0 (nI 1)) A) := hD
    have hP := la_PC hP
    have hD := la_DC hD
    refine lv_iload C.1 C.2.1 dL_law_378 (lv_at hl 1 rfl) ?_
    refine lv_icmp_eq (tgt := 385) C.1 C.2.1 dL_law_380 (by decide) (fun _ => ?_) (fun h => absurd (rfl) h)
    refine lv_iload C.1 C.2.1 dL_law_385 (lv_at hl 1 rfl) ?_
    refine lv_if_ne (tgt := 402) C.1 C.2.1 dL_law_387 (by decide) (fun _ => ?_) (fun h => absurd h (by decide))
    refine lv_goto (tgt := 539) C.1 C.2.1 dL_law_402 (by decide) ?_
    have hl := lv_sub hl [2, 3, 4, 5, 6] rfl
    refine W.widen (k := 36 + (n + 1)) (n := 4318 + 6 * (n + 1)) (by omega) (by omega) ?_
    exact kk _ _ _ _ _ _ _ _ _ _ _ _ _ _ hl hP hD hS ((hI.at0 (nI 1)).up (by omega))
theorem cnt_ok {x : Int32} (h : ¬ (x.toInt < 0 ∨ 8 < x.toInt)) : ∃ j, j < 9 ∧ x = nI j := by
  have h0 : ¬ x < 0 := fun h9 => h (Or.inl (by have := Int32.lt_iff_toInt_lt.mp h9; exact this))
  obtain ⟨j, hj, rfl⟩ := nI_of h0
  rw [nI_toInt hj] at h
  exact ⟨j, by omega, rfl⟩
theorem cnt_bad {x : Int32} (h : x.toInt < 0 ∨ 8 < x.toInt) : ¬ (¬ x < 0 ∧ ¬ nI 8 < x) := by
  intro h9
  obtain ⟨j, hj, rfl⟩ := nI_of h9.1
  rw [nI_toInt hj] at h
  exact h9.2 ((nI_ltI (by decide) hj).mpr (by omega))
set_option maxHeartbeats 4000000 in
set_option maxRecDepth 100000 in
/-- the law: count -/
theorem op_count {p : Program} {l : Launch} {e : Env} {s : State} {m : MethodId} {below : List Frame} {meth : Method} {c : Code} {D : va_G} {cI cZ cJ : ClassId} {b L n ao : Nat} {xs : Nat → Int32} {ac am : Nat → Nat} {Q : State → Prop} (hls : l.stackTraces = false) (hL : L ≤ 2048) (hn : 4 * n + 4 ≤ L) (C : cm_C p s m #[Value.ref b] meth c code 7 ret RL D (cm_T cI cZ cJ)) (hXs : va_X b L xs s s.heap) (hbl : b < s.heap.size) (hVX : vt_X (la_A s) s s.heap) (kk : law_k p l e s m below meth c D cI cZ cJ b n ao ac am Q)
    {ls : Array Slot} {H : Heap} {locs : List Loc} {fo : Nat → Int64} {sd fn ft fm : Nat → Int32} {σ : WS} {ta lp lr : Int32} {I : Nat → Int32} {A : Nat → Nat → Int32} (hl : lv_has ls 7 [(4, .int (nI (4 * n))), (3, .ref ao), (2, .ref (am 0)), (1, .ref (ac 0)), (0, .ref b)]) (hP : va_P D vwCl (LWt ac am ao cI cZ cJ fo sd fn ft fm σ ta lp lr I A) H) (hD : va_D (la_A s) (LWt ac am ao cI cZ cJ fo sd fn ft fm σ ta lp lr I A)) (hS : va_S (la_A s) s.heap H locs) (hI : INV (10 * n) sd fn σ ta lp lr I A) : W p l e room_1 s m #[Value.ref b] below meth c H locs (36 + n) (4318 + 6 * n) Q (F0 m 483 ls []) := by
  have hbA : ¬ la_A s b := by show ¬ s.heap.size ≤ b; omega
  have hcA : 36 + n ≤ room_1.cells := by show 36 + n ≤ 1067; omega
  have hsA : 4318 + 6 * n ≤ room_1.slots := by show 4318 + 6 * n ≤ 12552; omega
  have hcB : 36 + n + 1 ≤ room_1.cells := by show 36 + n + 1 ≤ 1067; omega
  have hsB : 4318 + 6 * n + 6 ≤ room_1.slots := by show 4318 + 6 * n + 6 ≤ 12552; omega
  obtain ⟨z, y, hz, hy, hz1, hy1, hk⟩ := hI.2.1.gd.now hI.2.2.1
  have h5 : I 5 = nI z := hI.1.2.2.1.trans hz1
  have h6 : I 6 = nI y := hI.1.2.2.2.1.trans hy1
  have hte := hI.1.2.1.teq hz
  have hA4 : A 4 y = sd y := hI.1.1 y hy
  have hok : okW σ.2.2.2.1 (I, A) := hI.1.2.2.2.2.2.2.2.2.2.1
  have hσ : sOk σ := hI.1.2.2.2.2.2.2.2.2.1
  have hfe : findS (uM A z) (kM A z) (A 4 y) (xs (nI (4 * n + 1)).toNatClampNeg) = findS (uR fn z) (kR fn z) (sd y) (xs (nI (4 * n + 1)).toNatClampNeg) := by rw [hA4]; exact (findS_c hte _ _).symm
  have h21 : I 21 = nI σ.2.2.2.2 := hI.1.2.2.2.2.2.2.2.2.2.2.1
  have he8 : σ.2.2.2.2 < 2 ^ 31 := by have := hI.2.2.2.1; omega
  by_cases hb : (xs (nI (4 * n + 1)).toNatClampNeg).toInt < 0 ∨ 8 < (xs (nI (4 * n + 1)).toNatClampNeg).toInt
  · refine lv_aload_n C.1 C.2.1 dL_law_483 rfl (lv_at hl 3 rfl) ?_
    refine lv_aload_n C.1 C.2.1 dL_law_484 rfl (lv_at hl 4 rfl) ?_
    refine lv_iload C.1 C.2.1 dL_law_485 (lv_at hl 0 rfl) ?_
    refine lv_iconst (v := nI 1) C.1 C.2.1 dL_law_487 (by decide +kernel) ?_
    refine lv_iadd C.1 C.2.1 dL_law_488 ?_
    rw [nI_add]
    refine va_sld C.1 C.2.1 hXs hbl hbA hS (nI_in (by omega) (by omega)) dL_law_489 ?_
    refine lv_aload_n C.1 C.2.1 dL_law_490 rfl (lv_at hl 1 rfl) ?_
    refine ch_cS 3 C (k_L_count1 l hls D cI cZ cJ ac am ao fo I A sd fn ft fm σ ta lp lr (xs (nI (4 * n + 1)).toNatClampNeg) hb) ((hVX.kept hS.2.1).narrow (fun q9 h9 => cm_A.in hD q9 h9)) tw_434 tw_435 tw_0 tw_436 rfl rfl (by decide +kernel) ⟨Nat.le_of_ble_eq_true rfl, Nat.le_of_ble_eq_true rfl⟩ ⟨hcB, hsB⟩ hP hD hS hl.1 rfl rfl (Nat.le_of_ble_eq_true rfl) dL_law_491 (fun r9 w9 H locs hE hP hD hS => ?_)
    obtain ⟨rfl, rfl⟩ := hE
    refine lv_istore (lv' := [(5, _), (4, _), (3, _), (2, _), (1, _), (0, _)]) C.1 C.2.1 dL_law_494 hl (by decide) rfl (fun ls hl => ?_)
    have hP := la_PM hP
    have hD := la_DM hD
    have hP : va_P D vwCl (PWt ac am ao cI cZ cJ fo sd fn ft fm σ ta lp lr I A) H := hP
    have hD : va_D (la_A s) (PWt ac am ao cI cZ cJ fo sd fn ft fm σ ta lp lr I A) := hD
    refine lv_aload_n C.1 C.2.1 dL_law_496 rfl (lv_at hl 3 rfl) ?_
    refine lv_aload_n C.1 C.2.1 dL_law_497 rfl (lv_at hl 5 rfl) ?_
    refine lv_iload C.1 C.2.1 dL_law_498 (lv_at hl 1 rfl) ?_
    refine lv_iconst (v := nI 1) C.1 C.2.1 dL_law_500 (by decide +kernel) ?_
    refine lv_iadd C.1 C.2.1 dL_law_501 ?_
    rw [nI_add]
    refine va_sld C.1 C.2.1 hXs hbl hbA hS (nI_in (by omega) (by omega)) dL_law_502 ?_
    refine cm_cV1 (q0 := 0) 1 C (k_X4_countR l D cI cZ cJ am ((ao, .inl (cJ, 1, .inr (.inl fo))) :: cw ac cI [] sd fn ft fm σ ta lp lr) I A (xs (nI (4 * n + 1)).toNatClampNeg) (cnt_bad hb)) tw_684 tw_685 tw_686 tw_5 tw_687 rfl rfl (rfl) rfl (by decide +kernel) ⟨Nat.le_of_ble_eq_true rfl, Nat.le_of_ble_eq_true rfl⟩ ⟨hcB, hsB⟩ hP hD hS hl.1 rfl rfl (Nat.le_of_ble_eq_true rfl) dL_law_503 (fun H locs hP hD hS => ?_)
    refine lv_istore (lv' := [(6, _), (5, _), (4, _), (3, _), (2, _), (1, _), (0, _)]) C.1 C.2.1 dL_law_506 hl (by decide) rfl (fun ls hl => ?_)
    refine lv_aload_n C.1 C.2.1 dL_law_508 rfl (lv_at hl 4 rfl) ?_
    refine cm_cV1 (q0 := 0) 0 C (k_X4_thrown l D cI cZ cJ am ((ao, .inl (cJ, 1, .inr (.inl fo))) :: cw ac cI [] sd fn ft fm σ ta lp lr) (va_up I 0 (nI 1)) A) tw_560 tw_561 tw_562 tw_5 tw_563 rfl rfl (rfl) rfl (by decide +kernel) ⟨Nat.le_of_ble_eq_true rfl, Nat.le_of_ble_eq_true rfl⟩ ⟨hcB, hsB⟩ hP hD hS hl.1 rfl rfl (Nat.le_of_ble_eq_true rfl) dL_law_509 (fun H locs hP hD hS => ?_)
    have hP : va_P D vwCl (PWt ac am ao cI cZ cJ fo sd fn ft fm σ ta lp lr (va_up I 0 (nI 1)) A) H := hP
    have hD : va_D (la_A s) (PWt ac am ao cI cZ cJ fo sd fn ft fm σ ta lp lr (va_up I 0 (nI 1)) A) := hD
    have hP := la_PC hP
    have hD := la_DC hD
    refine lv_iload C.1 C.2.1 dL_law_512 (lv_at hl 1 rfl) ?_
    refine lv_icmp_eq (tgt := 519) C.1 C.2.1 dL_law_514 (by decide) (fun _ => ?_) (fun h => absurd (rfl) h)
    refine lv_iload C.1 C.2.1 dL_law_519 (lv_at hl 1 rfl) ?_
    refine lv_if_ne (tgt := 536) C.1 C.2.1 dL_law_521 (by decide) (fun _ => ?_) (fun h => absurd h (by decide))
    refine lv_goto (tgt := 539) C.1 C.2.1 dL_law_536 (by decide) ?_
    have hl := lv_sub hl [2, 3, 4, 5, 6] rfl
    refine W.widen (k := 36 + (n + 1)) (n := 4318 + 6 * (n + 1)) (by omega) (by omega) ?_
    exact kk _ _ _ _ _ _ _ _ _ _ _ _ _ _ hl hP hD hS ((hI.at0 (nI 1)).up (by omega))
  · obtain ⟨j, hj, ej⟩ := cnt_ok hb
    obtain ⟨ans, hc3, hc4⟩ := count_both2 l D cI cZ cJ ac am (mw am cI cZ [(ao, .inl (cJ, 1, .inr (.inl fo)))] I A) sd fn ft fm σ ta lp lr I A hI hz hy hz1 hy1 j hj
    refine lv_aload_n C.1 C.2.1 dL_law_483 rfl (lv_at hl 3 rfl) ?_
    refine lv_aload_n C.1 C.2.1 dL_law_484 rfl (lv_at hl 4 rfl) ?_
    refine lv_iload C.1 C.2.1 dL_law_485 (lv_at hl 0 rfl) ?_
    refine lv_iconst (v := nI 1) C.1 C.2.1 dL_law_487 (by decide +kernel) ?_
    refine lv_iadd C.1 C.2.1 dL_law_488 ?_
    rw [nI_add]
    refine va_sld C.1 C.2.1 hXs hbl hbA hS (nI_in (by omega) (by omega)) dL_law_489 ?_
    rw [ej]
    refine lv_aload_n C.1 C.2.1 dL_law_490 rfl (lv_at hl 1 rfl) ?_
    refine ch_cS 3 C (k_L_count0 l D cI cZ cJ ac am ao fo I A sd fn ft fm σ ta lp lr (nI j) _ _ _ _ _ _ _ ans hc3) ((hVX.kept hS.2.1).narrow (fun q9 h9 => cm_A.in hD q9 h9)) tw_434 tw_435 tw_0 tw_436 rfl rfl (by decide +kernel) ⟨Nat.le_of_ble_eq_true rfl, Nat.le_of_ble_eq_true rfl⟩ ⟨hcB, hsB⟩ hP hD hS hl.1 rfl rfl (Nat.le_of_ble_eq_true rfl) dL_law_491 (fun r9 w9 H locs hE hP hD hS => ?_)
    obtain ⟨rfl, rfl⟩ := hE
    refine lv_istore (lv' := [(5, _), (4, _), (3, _), (2, _), (1, _), (0, _)]) C.1 C.2.1 dL_law_494 hl (by decide) rfl (fun ls hl => ?_)
    have hP := la_PM hP
    have hD := la_DM hD
    have hP : va_P D vwCl (PWt ac am ao cI cZ cJ (vp_updL fo (nI 0).toNatClampNeg (ans : Int32).toInt64) sd fn ft fm σ ta lp lr I A) H := hP
    have hD : va_D (la_A s) (PWt ac am ao cI cZ cJ (vp_updL fo (nI 0).toNatClampNeg (ans : Int32).toInt64) sd fn ft fm σ ta lp lr I A) := hD
    refine lv_aload_n C.1 C.2.1 dL_law_496 rfl (lv_at hl 3 rfl) ?_
    refine lv_aload_n C.1 C.2.1 dL_law_497 rfl (lv_at hl 5 rfl) ?_
    refine lv_iload C.1 C.2.1 dL_law_498 (lv_at hl 1 rfl) ?_
    refine lv_iconst (v := nI 1) C.1 C.2.1 dL_law_500 (by decide +kernel) ?_
    refine lv_iadd C.1 C.2.1 dL_law_501 ?_
    rw [nI_add]
    refine va_sld C.1 C.2.1 hXs hbl hbA hS (nI_in (by omega) (by omega)) dL_law_502 ?_
    rw [ej]
    refine cm_cV1 (q0 := 0) 1 C (hc4 ((ao, .inl (cJ, 1, .inr (.inl (vp_updL fo (nI 0).toNatClampNeg (ans : Int32).toInt64)))) :: cw ac cI [] sd fn ft fm σ ta lp lr)) tw_684 tw_685 tw_686 tw_5 tw_687 rfl rfl (rfl) rfl (by decide +kernel) ⟨Nat.le_of_ble_eq_true rfl, Nat.le_of_ble_eq_true rfl⟩ ⟨hcB, hsB⟩ hP hD hS hl.1 rfl rfl (Nat.le_of_ble_eq_true rfl) dL_law_503 (fun H locs hP hD hS => ?_)
    refine lv_istore (lv' := [(6, _), (5, _), (4, _), (3, _), (2, _), (1, _), (0, _)]) C.1 C.2.1 dL_law_506 hl (by decide) rfl (fun ls hl => ?_)
    refine lv_aload_n C.1 C.2.1 dL_law_508 rfl (lv_at hl 4 rfl) ?_
    refine cm_cV1 (q0 := 0) 0 C (k_X4_thrown l D cI cZ cJ am ((ao, .inl (cJ, 1, .inr (.inl (vp_updL fo (nI 0).toNatClampNeg (ans : Int32).toInt64)))) :: cw ac cI [] sd fn ft fm σ ta lp lr) (va_up I 0 (nI 0)) A) tw_560 tw_561 tw_562 tw_5 tw_563 rfl rfl (rfl) rfl (by decide +kernel) ⟨Nat.le_of_ble_eq_true rfl, Nat.le_of_ble_eq_true rfl⟩ ⟨hcB, hsB⟩ hP hD hS hl.1 rfl rfl (Nat.le_of_ble_eq_true rfl) dL_law_509 (fun H locs hP hD hS => ?_)
    have hP : va_P D vwCl (PWt ac am ao cI cZ cJ (vp_updL fo (nI 0).toNatClampNeg (ans : Int32).toInt64) sd fn ft fm σ ta lp lr (va_up I 0 (nI 0)) A) H := hP
    have hD : va_D (la_A s) (PWt ac am ao cI cZ cJ (vp_updL fo (nI 0).toNatClampNeg (ans : Int32).toInt64) sd fn ft fm σ ta lp lr (va_up I 0 (nI 0)) A) := hD
    have hP := la_PC hP
    have hD := la_DC hD
    refine lv_iload C.1 C.2.1 dL_law_512 (lv_at hl 1 rfl) ?_
    refine lv_icmp_eq (tgt := 519) C.1 C.2.1 dL_law_514 (by decide) (fun _ => ?_) (fun h => absurd (rfl) h)
    refine lv_iload C.1 C.2.1 dL_law_519 (lv_at hl 1 rfl) ?_
    refine lv_if_ne (tgt := 536) C.1 C.2.1 dL_law_521 (by decide) (fun h => absurd (rfl) h) (fun _ => ?_)
    refine lv_aload_n C.1 C.2.1 dL_law_524 rfl (lv_at hl 3 rfl) ?_
    refine lv_iconst (v := nI 0) C.1 C.2.1 dL_law_525 (by decide +kernel) ?_
    refine va_lald C.1 C.2.1 C.2.2.2.2.2.2.2.1 hP 35 2 rfl rfl (nI_in (by decide) (by decide)) dL_law_526 ?_
    rw [updL_at]
    refine lv_iload C.1 C.2.1 dL_law_527 (lv_at hl 0 rfl) ?_
    refine lv_i2l C.1 C.2.1 dL_law_529 rfl ?_
    refine W.lcmp C.1 C.2.1 dL_law_530 ?_
    rw [lcmp_eq]
    refine lv_if_eq (tgt := 536) C.1 C.2.1 dL_law_531 (by decide) (fun _ => ?_) (fun h => absurd (rfl) h)
    refine lv_goto (tgt := 539) C.1 C.2.1 dL_law_536 (by decide) ?_
    have hl := lv_sub hl [2, 3, 4, 5, 6] rfl
    refine W.widen (k := 36 + (n + 1)) (n := 4318 + 6 * (n + 1)) (by omega) (by omega) ?_
    exact kk _ _ _ _ _ _ _ _ _ _ _ _ _ _ hl hP hD hS ((hI.at0 (nI 0)).up (by omega))
