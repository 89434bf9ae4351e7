/-! ===== layPath, choose ===== -/
/-- PUTTING without MAKING ANEW, chosen: the answer, and what goes to which SLOT -/
def chS (u : Nat → Bool) (k v : Nat → Int32) (s key val : Int32) : Int32 × List (Nat × Int32 × Int32) := match findS u k s key with
  | some p => (nI 0, [(p, key, val)])
  | none => match emS u (hm1 s key) with
    | some p => (nI 1, [(p, key, val)])
    | none => match emS u (hm2 s key) with
      | some p => (nI 1, [(p, key, val)])
      | none => if (pathS u k s 6 0 (hm1 s key) []).1 = true then (nI 2, mvS k v key val (pathS u k s 6 0 (hm1 s key) []).2)
        else if (pathS u k s 6 0 (hm2 s key) []).1 = true then (nI 2, mvS k v key val (pathS u k s 6 0 (hm2 s key) []).2)
        else match emS u 8 with
          | some p => (nI 3, [(p, key, val)])
          | none => (-2, mvS k v key val (pathS u k s 6 0 (hm2 s key) []).2)
theorem findS_lt {u : Nat → Bool} {k : Nat → Int32} {s key : Int32} {i : Nat} (h : findS u k s key = some i) : i < 36 ∧ u i = true ∧ k i = key := by
  have q1 := hm1_lt s key
  have q2 := hm2_lt s key
  unfold findS at h
  cases e1 : atS u k key (hm1 s key) with
  | some j => rw [e1] at h; cases h; exact ⟨(atS_lt e1 (by omega)).1, (atS_lt e1 (by omega)).2.2⟩
  | none =>
    rw [e1] at h
    cases e2 : atS u k key (hm2 s key) with
    | some j => rw [e2] at h; cases h; exact ⟨(atS_lt e2 (by omega)).1, (atS_lt e2 (by omega)).2.2⟩
    | none => rw [e2] at h; exact ⟨(atS_lt h (by omega)).1, (atS_lt h (by omega)).2.2⟩
set_option maxHeartbeats 4000000 in
set_option maxRecDepth 100000 in
/-- layPath -/
theorem k_X3_layPath (l : Launch) (D : va_G) (cI cZ cJ : ClassId) (ws : va_W) {qO h v1 v2 v3 v4 v5 mv : Nat} {ev ta lp lr : Int32} (hO : ws[qO]? = some (h, .inr (3, [.ref v1, .ref v2, .ref v3, .ref v4, .ref v5, .ref mv, .int ev, .int ta, .int lp, .int lr]))) {an : Nat} {fm : Nat → Int32} {qM qN : Nat} (hM : ws[qM]? = some (mv, .inr (1, [.ref an]))) (hN : ws[qN]? = some (an, .inl (cI, 22, .inl fm))) {qI qA im ad : Nat} {f : Nat → Int32} (hI : ws[qI]? = some (im, .inr (0, [.ref ad]))) (hA : ws[qA]? = some (ad, .inl (cI, 440, .inl f))) (hon : qO ≠ qN) (hmn : qM ≠ qN) (hin : qI ≠ qN) (han : qA ≠ qN) (z b0 : Nat) (hz0 : z < 2) (hb0 : b0 < 8) (s0 key val : Int32) : CM l D (cm_T cI cZ cJ) yX3_layPath cX3_layPath 12 (some .boolean) (cm_rm 3 70) [.ref h, .ref im, .int s0, .int (nI (z * 9 + b0)), .int key, .int val] ws (some (.int (bI (pathS (uR f z) (kR f z) s0 6 0 b0 []).1))) (ws.set qN (an, .inl (cI, 22, .inl (encA z (upd fm 0 (nI 0)) 0 (mvS (kR f z) (vR f z) key val (pathS (uR f z) (kR f z) s0 6 0 b0 []).2))))) := by
  refine CM.of (by decide) (Nat.le_of_ble_eq_true rfl) ?_
  intro p e s m below meth c ls H locs C hl hP hD hS
  refine lv_iload_n C.1 C.2.1 dX3_layPath_0 rfl (lv_at hl 3 rfl) ?_
  refine lv_istore (lv' := [(6, _), (0, _), (1, _), (2, _), (3, _), (4, _), (5, _)]) C.1 C.2.1 dX3_layPath_1 hl (by decide) rfl (fun ls hl => ?_)
  refine lv_iload C.1 C.2.1 dX3_layPath_3 (lv_at hl 5 rfl) ?_
  refine lv_istore (lv' := [(7, _), (6, _), (0, _), (1, _), (2, _), (3, _), (4, _), (5, _)]) C.1 C.2.1 dX3_layPath_5 hl (by decide) rfl (fun ls hl => ?_)
  refine lv_iload C.1 C.2.1 dX3_layPath_7 (lv_at hl 7 rfl) ?_
  refine lv_istore (lv' := [(8, _), (7, _), (6, _), (0, _), (1, _), (2, _), (3, _), (4, _), (5, _)]) C.1 C.2.1 dX3_layPath_9 hl (by decide) rfl (fun ls hl => ?_)
  refine lv_aload_n C.1 C.2.1 dX3_layPath_11 rfl (lv_at hl 3 rfl) ?_
  refine va_get (ci := 3) (C := RX3) (T := TX3) (N := 10) C.1 C.2.1 C.2.2.2.2.2.1 ui_X3 C.2.2.2.2.1 C.2.2.2.2.2.2.2.1 hP qO (hO) rfl 5 (by decide) (C.2.2.2.2.2.1 _ tw_66) (fun _ h9 => h9) rfl dX3_layPath_12 ?_
  refine cm_cV0 (q0 := qM) 0 C (k_X1_tellNothing l D cI cZ cJ _ hM hN) tw_163 tw_140 tw_141 tw_4 tw_142 rfl rfl (hM) rfl (by decide +kernel) ⟨Nat.le_of_ble_eq_true rfl, Nat.le_of_ble_eq_true rfl⟩ ⟨Nat.zero_le _, Nat.zero_le _⟩ hP hD hS hl.1 rfl rfl (Nat.le_of_ble_eq_true rfl) dX3_layPath_15 (fun H locs hP hD hS => ?_)
  refine lv_iconst (v := nI 0) C.1 C.2.1 dX3_layPath_18 (by decide +kernel) ?_
  refine lv_istore (lv' := [(9, _), (8, _), (7, _), (6, _), (0, _), (1, _), (2, _), (3, _), (4, _), (5, _)]) C.1 C.2.1 dX3_layPath_19 hl (by decide) rfl (fun ls hl => ?_)
  have loop : ∀ (k j : Nat) (b : Nat) (L : List Nat), j + k = 6 ∧ L.length = j ∧ b < 8 ∧ (∀ q ∈ L, q < 36) → ∀ (ls : Array Slot) (H : Heap) (locs : List Loc), lv_has ls 12 [(9, .int (nI j)), (8, .int (kvS (kR f z) (vR f z) key val L).2), (7, .int (kvS (kR f z) (vR f z) key val L).1), (6, .int (nI (z * 9 + b))), (0, .ref h), (1, .ref im), (2, .int s0), (3, .int (nI (z * 9 + b0))), (4, .int key), (5, .int val)] → va_P D vwCl (ws.set qN (an, .inl (cI, 22, .inl (encA z (upd fm 0 (nI 0)) 0 (mvS (kR f z) (vR f z) key val L))))) H → va_D (cm_A ws) (ws.set qN (an, .inl (cI, 22, .inl (encA z (upd fm 0 (nI 0)) 0 (mvS (kR f z) (vR f z) key val L))))) → va_S (cm_A ws) s.heap H locs → W p l e (cm_rm 3 70) s m ([.ref h, .ref im, .int s0, .int (nI (z * 9 + b0)), .int key, .int val] : List Value).toArray below meth c H locs 0 0 (cm_Q below D [.ref h, .ref im, .int s0, .int (nI (z * 9 + b0)), .int key, .int val] s ws (some (.int (bI (pathS (uR f z) (kR f z) s0 k j b L).1))) (ws.set qN (an, .inl (cI, 22, .inl (encA z (upd fm 0 (nI 0)) 0 (mvS (kR f z) (vR f z) key val (pathS (uR f z) (kR f z) s0 k j b L).2)))))) (F0 m 21 ls []) := by
    intro k
    induction k with
    | zero =>
      intro j b L hj ls H locs hl hP hD hS
      obtain ⟨hj, hLj, hb, hL⟩ := hj
      refine lv_iload C.1 C.2.1 dX3_layPath_21 (lv_at hl 0 rfl) ?_
      refine lv_bipush (v := nI 6) C.1 C.2.1 dX3_layPath_23 (by decide +kernel) ?_
      refine lv_icmp_ge (tgt := 122) C.1 C.2.1 dX3_layPath_25 (by decide) (fun _ => ?_) (fun h => absurd (nI_le (by omega) (by omega)) h)
      refine lv_iconst (v := nI 0) C.1 C.2.1 dX3_layPath_122 (by decide +kernel) ?_
      exact cm_zret C hP hD hS dX3_layPath_123 (by decide +kernel) rfl rfl
    | succ k ih =>
      intro j b L hj ls H locs hl hP hD hS
      obtain ⟨hj, hLj, hb, hL⟩ := hj
      have e0 : encA z (upd fm 0 (nI 0)) 0 (mvS (kR f z) (vR f z) key val L) 0 = nI L.length := by rw [encA_0 z _ _ _ pk_us, mvS_len, Nat.zero_add]
      cases hnx : nx L b j 0 4 with
      | none =>
        refine lv_iload C.1 C.2.1 dX3_layPath_21 (lv_at hl 0 rfl) ?_
        refine lv_bipush (v := nI 6) C.1 C.2.1 dX3_layPath_23 (by decide +kernel) ?_
        refine lv_icmp_ge (tgt := 122) C.1 C.2.1 dX3_layPath_25 (by decide) (fun h => absurd h (nI_ge (by omega) (by decide))) (fun _ => ?_)
        refine lv_aload_n C.1 C.2.1 dX3_layPath_28 rfl (lv_at hl 4 rfl) ?_
        refine lv_iload C.1 C.2.1 dX3_layPath_29 (lv_at hl 3 rfl) ?_
        refine lv_iload C.1 C.2.1 dX3_layPath_31 (lv_at hl 0 rfl) ?_
        refine lv_iconst (v := nI 4) C.1 C.2.1 dX3_layPath_33 (by decide +kernel) ?_
        refine lv_irem C.1 C.2.1 dX3_layPath_34 (by decide) ?_
        rw [pk_rem (by omega) (by decide) (by decide)]
        refine cm_cV1 (q0 := qO) 2 C (k_X3_nextOnPath l D cI cZ cJ _ (ws_ne hon hO) (ws_ne hmn hM) (ws_self hN) z b (j % 4) hz0 hb (by omega) L (by omega) e0 (fun q hq => says_iff z hz0 _ _ _ _ _ L hL q hq)) tw_164 tw_166 ts_3 tw_1 tw_167 rfl rfl (ws_ne hon hO) rfl (by decide +kernel) ⟨Nat.le_of_ble_eq_true rfl, Nat.le_of_ble_eq_true rfl⟩ ⟨Nat.zero_le _, Nat.zero_le _⟩ hP hD hS hl.1 rfl rfl (Nat.le_of_ble_eq_true rfl) dX3_layPath_35 (fun H locs hP hD hS => ?_)
        rw [nx_mod, hnx, optA_none]
        refine lv_istore (lv' := [(10, _), (9, _), (8, _), (7, _), (6, _), (0, _), (1, _), (2, _), (3, _), (4, _), (5, _)]) C.1 C.2.1 dX3_layPath_38 hl (by decide) rfl (fun ls hl => ?_)
        refine lv_iload C.1 C.2.1 dX3_layPath_40 (lv_at hl 0 rfl) ?_
        refine lv_iconst (v := (-1)) C.1 C.2.1 dX3_layPath_42 (by decide +kernel) ?_
        refine lv_icmp_ne (tgt := 48) C.1 C.2.1 dX3_layPath_43 (by decide) (fun h => absurd (rfl) h) (fun _ => ?_)
        refine lv_iconst (v := nI 0) C.1 C.2.1 dX3_layPath_46 (by decide +kernel) ?_
        exact cm_zret C hP hD hS dX3_layPath_47 (by decide +kernel) (by simp only [pathS, hnx]; rfl) (by simp only [pathS, hnx])
      | some p =>
        have hp := nx_some _ _ hnx
        have hor := otherS_lt s0 (kR f z p) b
        have e1 : addM (encA z (upd fm 0 (nI 0)) 0 (mvS (kR f z) (vR f z) key val L)) j (nI (36 * z + p)) (kvS (kR f z) (vR f z) key val L).1 (kvS (kR f z) (vR f z) key val L).2 = encA z (upd fm 0 (nI 0)) 0 (mvS (kR f z) (vR f z) key val (L ++ [p])) := by rw [mvS_app, encA_app, mvS_len, Nat.zero_add, hLj]
        have e2 : encA z (upd fm 0 (nI 0)) 0 (mvS (kR f z) (vR f z) key val (L ++ [p])) 0 = nI (j + 1) := by rw [encA_0 z _ _ _ pk_us, mvS_len, Nat.zero_add, List.length_append, hLj]; rfl
        cases hem : emS (uR f z) (otherS s0 (kR f z p) b) with
        | some e9 =>
          have he := emS_lt hem (by omega)
          have e3 : addM (encA z (upd fm 0 (nI 0)) 0 (mvS (kR f z) (vR f z) key val (L ++ [p]))) (j + 1) (nI (36 * z + e9)) (kR f z p) (vR f z p) = encA z (upd fm 0 (nI 0)) 0 (mvS (kR f z) (vR f z) key val (L ++ [p] ++ [e9])) := by rw [mvS_app _ _ e9, encA_app, mvS_len, kvS_app, Nat.zero_add, List.length_append, hLj]; rfl
          refine lv_iload C.1 C.2.1 dX3_layPath_21 (lv_at hl 0 rfl) ?_
          refine lv_bipush (v := nI 6) C.1 C.2.1 dX3_layPath_23 (by decide +kernel) ?_
          refine lv_icmp_ge (tgt := 122) C.1 C.2.1 dX3_layPath_25 (by decide) (fun h => absurd h (nI_ge (by omega) (by decide))) (fun _ => ?_)
          refine lv_aload_n C.1 C.2.1 dX3_layPath_28 rfl (lv_at hl 4 rfl) ?_
          refine lv_iload C.1 C.2.1 dX3_layPath_29 (lv_at hl 3 rfl) ?_
          refine lv_iload C.1 C.2.1 dX3_layPath_31 (lv_at hl 0 rfl) ?_
          refine lv_iconst (v := nI 4) C.1 C.2.1 dX3_layPath_33 (by decide +kernel) ?_
          refine lv_irem C.1 C.2.1 dX3_layPath_34 (by decide) ?_
          rw [pk_rem (by omega) (by decide) (by decide)]
          refine cm_cV1 (q0 := qO) 2 C (k_X3_nextOnPath l D cI cZ cJ _ (ws_ne hon hO) (ws_ne hmn hM) (ws_self hN) z b (j % 4) hz0 hb (by omega) L (by omega) e0 (fun q hq => says_iff z hz0 _ _ _ _ _ L hL q hq)) tw_164 tw_166 ts_3 tw_1 tw_167 rfl rfl (ws_ne hon hO) rfl (by decide +kernel) ⟨Nat.le_of_ble_eq_true rfl, Nat.le_of_ble_eq_true rfl⟩ ⟨Nat.zero_le _, Nat.zero_le _⟩ hP hD hS hl.1 rfl rfl (Nat.le_of_ble_eq_true rfl) dX3_layPath_35 (fun H locs hP hD hS => ?_)
          rw [nx_mod, hnx, optA_some]
          refine lv_istore (lv' := [(10, _), (9, _), (8, _), (7, _), (6, _), (0, _), (1, _), (2, _), (3, _), (4, _), (5, _)]) C.1 C.2.1 dX3_layPath_38 hl (by decide) rfl (fun ls hl => ?_)
          refine lv_iload C.1 C.2.1 dX3_layPath_40 (lv_at hl 0 rfl) ?_
          refine lv_iconst (v := (-1)) C.1 C.2.1 dX3_layPath_42 (by decide +kernel) ?_
          refine lv_icmp_ne (tgt := 48) C.1 C.2.1 dX3_layPath_43 (by decide) (fun _ => ?_) (fun h => absurd h (nI_m1 (by omega)))
          refine lv_aload_n C.1 C.2.1 dX3_layPath_48 rfl (lv_at hl 5 rfl) ?_
          refine va_get (ci := 3) (C := RX3) (T := TX3) (N := 10) C.1 C.2.1 C.2.2.2.2.2.1 ui_X3 C.2.2.2.2.1 C.2.2.2.2.2.2.2.1 hP qO (ws_ne hon hO) rfl 5 (by decide) (C.2.2.2.2.2.1 _ tw_66) (fun _ h9 => h9) rfl dX3_layPath_49 ?_
          refine lv_iload C.1 C.2.1 dX3_layPath_52 (lv_at hl 0 rfl) ?_
          refine lv_iload C.1 C.2.1 dX3_layPath_54 (lv_at hl 3 rfl) ?_
          refine lv_iload C.1 C.2.1 dX3_layPath_56 (lv_at hl 2 rfl) ?_
          refine cm_cV0 (q0 := qM) 3 C (k_X1_add l D cI cZ cJ _ (ws_ne hmn hM) (ws_self hN) hmn (j) (by omega) (by rw [e0, hLj]) (nI (36 * z + p)) ((kvS (kR f z) (vR f z) key val L).1) ((kvS (kR f z) (vR f z) key val L).2)) tw_173 tw_147 tw_148 tw_4 tw_149 rfl rfl (ws_ne hmn hM) rfl (by decide +kernel) ⟨Nat.le_of_ble_eq_true rfl, Nat.le_of_ble_eq_true rfl⟩ ⟨Nat.zero_le _, Nat.zero_le _⟩ hP hD hS hl.1 rfl rfl (Nat.le_of_ble_eq_true rfl) dX3_layPath_58 (fun H locs hP hD hS => ?_)
          rw [List.set_set, e1] at hP hD
          refine lv_aload_n C.1 C.2.1 dX3_layPath_61 rfl (lv_at hl 6 rfl) ?_
          refine lv_iload C.1 C.2.1 dX3_layPath_62 (lv_at hl 0 rfl) ?_
          refine cm_cV1 (q0 := qI) 1 C (k_X0_keyAt l D cI cZ cJ _ (ws_ne hin hI) (ws_ne han hA) (36 * z + p) (by omega)) tw_174 tw_175 tw_176 tw_2 tw_177 rfl rfl (ws_ne hin hI) rfl (by decide +kernel) ⟨Nat.le_of_ble_eq_true rfl, Nat.le_of_ble_eq_true rfl⟩ ⟨Nat.zero_le _, Nat.zero_le _⟩ hP hD hS hl.1 rfl rfl (Nat.le_of_ble_eq_true rfl) dX3_layPath_64 (fun H locs hP hD hS => ?_)
          rw [show kC f (36 * z + p) = kR f z p from rfl]
          refine lv_istore (lv' := [(7, _), (10, _), (9, _), (8, _), (6, _), (0, _), (1, _), (2, _), (3, _), (4, _), (5, _)]) C.1 C.2.1 dX3_layPath_67 hl (by decide) rfl (fun ls hl => ?_)
          refine lv_aload_n C.1 C.2.1 dX3_layPath_69 rfl (lv_at hl 6 rfl) ?_
          refine lv_iload C.1 C.2.1 dX3_layPath_70 (lv_at hl 1 rfl) ?_
          refine cm_cV1 (q0 := qI) 1 C (k_X0_valueAt l D cI cZ cJ _ (ws_ne hin hI) (ws_ne han hA) (36 * z + p) (by omega)) tw_184 tw_185 tw_186 tw_2 tw_187 rfl rfl (ws_ne hin hI) rfl (by decide +kernel) ⟨Nat.le_of_ble_eq_true rfl, Nat.le_of_ble_eq_true rfl⟩ ⟨Nat.zero_le _, Nat.zero_le _⟩ hP hD hS hl.1 rfl rfl (Nat.le_of_ble_eq_true rfl) dX3_layPath_72 (fun H locs hP hD hS => ?_)
          rw [show vC f (36 * z + p) = vR f z p from rfl]
          refine lv_istore (lv' := [(8, _), (7, _), (10, _), (9, _), (6, _), (0, _), (1, _), (2, _), (3, _), (4, _), (5, _)]) C.1 C.2.1 dX3_layPath_75 hl (by decide) rfl (fun ls hl => ?_)
          refine lv_iload C.1 C.2.1 dX3_layPath_77 (lv_at hl 4 rfl) ?_
          refine lv_iload_n C.1 C.2.1 dX3_layPath_79 rfl (lv_at hl 7 rfl) ?_
          refine lv_iload C.1 C.2.1 dX3_layPath_80 (lv_at hl 1 rfl) ?_
          refine cm_cS1 3 C (kX_otherRow l D cI cZ cJ _ z b hz0 hb s0 (kR f z p)) tw_188 tw_189 tw_1 tw_190 rfl rfl (by decide +kernel) ⟨Nat.le_of_ble_eq_true rfl, Nat.le_of_ble_eq_true rfl⟩ ⟨Nat.zero_le _, Nat.zero_le _⟩ hP hD hS hl.1 rfl rfl (Nat.le_of_ble_eq_true rfl) dX3_layPath_82 (fun H locs hP hD hS => ?_)
          refine lv_istore (lv' := [(6, _), (8, _), (7, _), (10, _), (9, _), (0, _), (1, _), (2, _), (3, _), (4, _), (5, _)]) C.1 C.2.1 dX3_layPath_85 hl (by decide) rfl (fun ls hl => ?_)
          refine lv_aload_n C.1 C.2.1 dX3_layPath_87 rfl (lv_at hl 6 rfl) ?_
          refine lv_iload C.1 C.2.1 dX3_layPath_88 (lv_at hl 0 rfl) ?_
          refine cm_cV1 (q0 := qI) 1 C (k_X0_leastEmpty l D cI cZ cJ _ (ws_ne hin hI) (ws_ne han hA) (z * 9 + otherS s0 (kR f z p) b) (by omega)) tw_155 tw_156 tw_157 tw_2 tw_158 rfl rfl (ws_ne hin hI) rfl (by decide +kernel) ⟨Nat.le_of_ble_eq_true rfl, Nat.le_of_ble_eq_true rfl⟩ ⟨Nat.zero_le _, Nat.zero_le _⟩ hP hD hS hl.1 rfl rfl (Nat.le_of_ble_eq_true rfl) dX3_layPath_90 (fun H locs hP hD hS => ?_)
          rw [em_abs, hem, optA_some]
          refine lv_istore (lv' := [(11, _), (6, _), (8, _), (7, _), (10, _), (9, _), (0, _), (1, _), (2, _), (3, _), (4, _), (5, _)]) C.1 C.2.1 dX3_layPath_93 hl (by decide) rfl (fun ls hl => ?_)
          refine lv_iload C.1 C.2.1 dX3_layPath_95 (lv_at hl 0 rfl) ?_
          refine lv_iconst (v := (-1)) C.1 C.2.1 dX3_layPath_97 (by decide +kernel) ?_
          refine lv_icmp_eq (tgt := 116) C.1 C.2.1 dX3_layPath_98 (by decide) (fun h => absurd h (nI_m1 (by omega))) (fun _ => ?_)
          refine lv_aload_n C.1 C.2.1 dX3_layPath_101 rfl (lv_at hl 6 rfl) ?_
          refine va_get (ci := 3) (C := RX3) (T := TX3) (N := 10) C.1 C.2.1 C.2.2.2.2.2.1 ui_X3 C.2.2.2.2.1 C.2.2.2.2.2.2.2.1 hP qO (ws_ne hon hO) rfl 5 (by decide) (C.2.2.2.2.2.1 _ tw_66) (fun _ h9 => h9) rfl dX3_layPath_102 ?_
          refine lv_iload C.1 C.2.1 dX3_layPath_105 (lv_at hl 0 rfl) ?_
          refine lv_iload C.1 C.2.1 dX3_layPath_107 (lv_at hl 3 rfl) ?_
          refine lv_iload C.1 C.2.1 dX3_layPath_109 (lv_at hl 2 rfl) ?_
          refine cm_cV0 (q0 := qM) 3 C (k_X1_add l D cI cZ cJ _ (ws_ne hmn hM) (ws_self hN) hmn (j + 1) (by omega) (e2) (nI (36 * z + e9)) (kR f z p) (vR f z p)) tw_173 tw_147 tw_148 tw_4 tw_149 rfl rfl (ws_ne hmn hM) rfl (by decide +kernel) ⟨Nat.le_of_ble_eq_true rfl, Nat.le_of_ble_eq_true rfl⟩ ⟨Nat.zero_le _, Nat.zero_le _⟩ hP hD hS hl.1 rfl rfl (Nat.le_of_ble_eq_true rfl) dX3_layPath_111 (fun H locs hP hD hS => ?_)
          rw [List.set_set, e3] at hP hD
          refine lv_iconst (v := nI 1) C.1 C.2.1 dX3_layPath_114 (by decide +kernel) ?_
          exact cm_zret C hP hD hS dX3_layPath_115 (by decide +kernel) (by simp only [pathS, hnx, hem]; rfl) (by simp only [pathS, hnx, hem])
        | none =>
          refine lv_iload C.1 C.2.1 dX3_layPath_21 (lv_at hl 0 rfl) ?_
          refine lv_bipush (v := nI 6) C.1 C.2.1 dX3_layPath_23 (by decide +kernel) ?_
          refine lv_icmp_ge (tgt := 122) C.1 C.2.1 dX3_layPath_25 (by decide) (fun h => absurd h (nI_ge (by omega) (by decide))) (fun _ => ?_)
          refine lv_aload_n C.1 C.2.1 dX3_layPath_28 rfl (lv_at hl 4 rfl) ?_
          refine lv_iload C.1 C.2.1 dX3_layPath_29 (lv_at hl 3 rfl) ?_
          refine lv_iload C.1 C.2.1 dX3_layPath_31 (lv_at hl 0 rfl) ?_
          refine lv_iconst (v := nI 4) C.1 C.2.1 dX3_layPath_33 (by decide +kernel) ?_
          refine lv_irem C.1 C.2.1 dX3_layPath_34 (by decide) ?_
          rw [pk_rem (by omega) (by decide) (by decide)]
          refine cm_cV1 (q0 := qO) 2 C (k_X3_nextOnPath l D cI cZ cJ _ (ws_ne hon hO) (ws_ne hmn hM) (ws_self hN) z b (j % 4) hz0 hb (by omega) L (by omega) e0 (fun q hq => says_iff z hz0 _ _ _ _ _ L hL q hq)) tw_164 tw_166 ts_3 tw_1 tw_167 rfl rfl (ws_ne hon hO) rfl (by decide +kernel) ⟨Nat.le_of_ble_eq_true rfl, Nat.le_of_ble_eq_true rfl⟩ ⟨Nat.zero_le _, Nat.zero_le _⟩ hP hD hS hl.1 rfl rfl (Nat.le_of_ble_eq_true rfl) dX3_layPath_35 (fun H locs hP hD hS => ?_)
          rw [nx_mod, hnx, optA_some]
          refine lv_istore (lv' := [(10, _), (9, _), (8, _), (7, _), (6, _), (0, _), (1, _), (2, _), (3, _), (4, _), (5, _)]) C.1 C.2.1 dX3_layPath_38 hl (by decide) rfl (fun ls hl => ?_)
          refine lv_iload C.1 C.2.1 dX3_layPath_40 (lv_at hl 0 rfl) ?_
          refine lv_iconst (v := (-1)) C.1 C.2.1 dX3_layPath_42 (by decide +kernel) ?_
          refine lv_icmp_ne (tgt := 48) C.1 C.2.1 dX3_layPath_43 (by decide) (fun _ => ?_) (fun h => absurd h (nI_m1 (by omega)))
          refine lv_aload_n C.1 C.2.1 dX3_layPath_48 rfl (lv_at hl 5 rfl) ?_
          refine va_get (ci := 3) (C := RX3) (T := TX3) (N := 10) C.1 C.2.1 C.2.2.2.2.2.1 ui_X3 C.2.2.2.2.1 C.2.2.2.2.2.2.2.1 hP qO (ws_ne hon hO) rfl 5 (by decide) (C.2.2.2.2.2.1 _ tw_66) (fun _ h9 => h9) rfl dX3_layPath_49 ?_
          refine lv_iload C.1 C.2.1 dX3_layPath_52 (lv_at hl 0 rfl) ?_
          refine lv_iload C.1 C.2.1 dX3_layPath_54 (lv_at hl 3 rfl) ?_
          refine lv_iload C.1 C.2.1 dX3_layPath_56 (lv_at hl 2 rfl) ?_
          refine cm_cV0 (q0 := qM) 3 C (k_X1_add l D cI cZ cJ _ (ws_ne hmn hM) (ws_self hN) hmn (j) (by omega) (by rw [e0, hLj]) (nI (36 * z + p)) ((kvS (kR f z) (vR f z) key val L).1) ((kvS (kR f z) (vR f z) key val L).2)) tw_173 tw_147 tw_148 tw_4 tw_149 rfl rfl (ws_ne hmn hM) rfl (by decide +kernel) ⟨Nat.le_of_ble_eq_true rfl, Nat.le_of_ble_eq_true rfl⟩ ⟨Nat.zero_le _, Nat.zero_le _⟩ hP hD hS hl.1 rfl rfl (Nat.le_of_ble_eq_true rfl) dX3_layPath_58 (fun H locs hP hD hS => ?_)
          rw [List.set_set, e1] at hP hD
          refine lv_aload_n C.1 C.2.1 dX3_layPath_61 rfl (lv_at hl 6 rfl) ?_
          refine lv_iload C.1 C.2.1 dX3_layPath_62 (lv_at hl 0 rfl) ?_
          refine cm_cV1 (q0 := qI) 1 C (k_X0_keyAt l D cI cZ cJ _ (ws_ne hin hI) (ws_ne han hA) (36 * z + p) (by omega)) tw_174 tw_175 tw_176 tw_2 tw_177 rfl rfl (ws_ne hin hI) rfl (by decide +kernel) ⟨Nat.le_of_ble_eq_true rfl, Nat.le_of_ble_eq_true rfl⟩ ⟨Nat.zero_le _, Nat.zero_le _⟩ hP hD hS hl.1 rfl rfl (Nat.le_of_ble_eq_true rfl) dX3_layPath_64 (fun H locs hP hD hS => ?_)
          rw [show kC f (36 * z + p) = kR f z p from rfl]
          refine lv_istore (lv' := [(7, _), (10, _), (9, _), (8, _), (6, _), (0, _), (1, _), (2, _), (3, _), (4, _), (5, _)]) C.1 C.2.1 dX3_layPath_67 hl (by decide) rfl (fun ls hl => ?_)
          refine lv_aload_n C.1 C.2.1 dX3_layPath_69 rfl (lv_at hl 6 rfl) ?_
          refine lv_iload C.1 C.2.1 dX3_layPath_70 (lv_at hl 1 rfl) ?_
          refine cm_cV1 (q0 := qI) 1 C (k_X0_valueAt l D cI cZ cJ _ (ws_ne hin hI) (ws_ne han hA) (36 * z + p) (by omega)) tw_184 tw_185 tw_186 tw_2 tw_187 rfl rfl (ws_ne hin hI) rfl (by decide +kernel) ⟨Nat.le_of_ble_eq_true rfl, Nat.le_of_ble_eq_true rfl⟩ ⟨Nat.zero_le _, Nat.zero_le _⟩ hP hD hS hl.1 rfl rfl (Nat.le_of_ble_eq_true rfl) dX3_layPath_72 (fun H locs hP hD hS => ?_)
          rw [show vC f (36 * z + p) = vR f z p from rfl]
          refine lv_istore (lv' := [(8, _), (7, _), (10, _), (9, _), (6, _), (0, _), (1, _), (2, _), (3, _), (4, _), (5, _)]) C.1 C.2.1 dX3_layPath_75 hl (by decide) rfl (fun ls hl => ?_)
          refine lv_iload C.1 C.2.1 dX3_layPath_77 (lv_at hl 4 rfl) ?_
          refine lv_iload_n C.1 C.2.1 dX3_layPath_79 rfl (lv_at hl 7 rfl) ?_
          refine lv_iload C.1 C.2.1 dX3_layPath_80 (lv_at hl 1 rfl) ?_
          refine cm_cS1 3 C (kX_otherRow l D cI cZ cJ _ z b hz0 hb s0 (kR f z p)) tw_188 tw_189 tw_1 tw_190 rfl rfl (by decide +kernel) ⟨Nat.le_of_ble_eq_true rfl, Nat.le_of_ble_eq_true rfl⟩ ⟨Nat.zero_le _, Nat.zero_le _⟩ hP hD hS hl.1 rfl rfl (Nat.le_of_ble_eq_true rfl) dX3_layPath_82 (fun H locs hP hD hS => ?_)
          refine lv_istore (lv' := [(6, _), (8, _), (7, _), (10, _), (9, _), (0, _), (1, _), (2, _), (3, _), (4, _), (5, _)]) C.1 C.2.1 dX3_layPath_85 hl (by decide) rfl (fun ls hl => ?_)
          refine lv_aload_n C.1 C.2.1 dX3_layPath_87 rfl (lv_at hl 6 rfl) ?_
          refine lv_iload C.1 C.2.1 dX3_layPath_88 (lv_at hl 0 rfl) ?_
          refine cm_cV1 (q0 := qI) 1 C (k_X0_leastEmpty l D cI cZ cJ _ (ws_ne hin hI) (ws_ne han hA) (z * 9 + otherS s0 (kR f z p) b) (by omega)) tw_155 tw_156 tw_157 tw_2 tw_158 rfl rfl (ws_ne hin hI) rfl (by decide +kernel) ⟨Nat.le_of_ble_eq_true rfl, Nat.le_of_ble_eq_true rfl⟩ ⟨Nat.zero_le _, Nat.zero_le _⟩ hP hD hS hl.1 rfl rfl (Nat.le_of_ble_eq_true rfl) dX3_layPath_90 (fun H locs hP hD hS => ?_)
          rw [em_abs, hem, optA_none]
          refine lv_istore (lv' := [(11, _), (6, _), (8, _), (7, _), (10, _), (9, _), (0, _), (1, _), (2, _), (3, _), (4, _), (5, _)]) C.1 C.2.1 dX3_layPath_93 hl (by decide) rfl (fun ls hl => ?_)
          refine lv_iload C.1 C.2.1 dX3_layPath_95 (lv_at hl 0 rfl) ?_
          refine lv_iconst (v := (-1)) C.1 C.2.1 dX3_layPath_97 (by decide +kernel) ?_
          refine lv_icmp_eq (tgt := 116) C.1 C.2.1 dX3_layPath_98 (by decide) (fun _ => ?_) (fun h => absurd (rfl) h)
          refine lv_iinc (v := nI (j + 1)) (lv' := [(9, _), (11, _), (6, _), (8, _), (7, _), (10, _), (0, _), (1, _), (2, _), (3, _), (4, _), (5, _)]) C.1 C.2.1 dX3_layPath_116 hl (k := 5) rfl (nI_1 j) (by decide) rfl (fun ls hl => ?_)
          refine lv_goto (tgt := 21) C.1 C.2.1 dX3_layPath_119 (by decide) ?_
          rw [show pathS (uR f z) (kR f z) s0 (k + 1) j b L = pathS (uR f z) (kR f z) s0 k (j + 1) (otherS s0 (kR f z p) b) (L ++ [p]) by simp only [pathS, hnx, hem]]
          exact ih (j + 1) _ _ ⟨by omega, by rw [List.length_append, hLj]; rfl, hor, fun q hq => (List.mem_append.mp hq).elim (hL q) (fun h9 => by rw [List.mem_singleton.mp h9]; omega)⟩ ls H locs (by rw [kvS_app]; exact lv_sub hl [0, 3, 4, 2, 6, 7, 8, 9, 10, 11] rfl) hP hD hS
  exact loop 6 0 b0 [] ⟨rfl, rfl, hb0, fun q hq => by cases hq⟩ ls H locs hl hP hD hS
set_option maxHeartbeats 4000000 in
set_option maxRecDepth 100000 in
/-- choose -/
theorem k_X3_choose (l : Launch) (D : va_G) (cI cZ cJ : ClassId) (ws : va_W) {qO h v1 v2 v3 v4 v5 mv : Nat} {ev ta lp lr : Int32} (hO : ws[qO]? = some (h, .inr (3, [.ref v1, .ref v2, .ref v3, .ref v4, .ref v5, .ref mv, .int ev, .int ta, .int lp, .int lr]))) {an : Nat} {fm : Nat → Int32} {qM qN : Nat} (hM : ws[qM]? = some (mv, .inr (1, [.ref an]))) (hN : ws[qN]? = some (an, .inl (cI, 22, .inl fm))) {qI qA im ad : Nat} {f : Nat → Int32} (hI : ws[qI]? = some (im, .inr (0, [.ref ad]))) (hA : ws[qA]? = some (ad, .inl (cI, 440, .inl f))) (hon : qO ≠ qN) (hmn : qM ≠ qN) (hin : qI ≠ qN) (han : qA ≠ qN) (z : Nat) (hz0 : z < 2) (hz : f 396 = nI z) (s0 key val : Int32) : ∃ fm0 : Nat → Int32, fm0 0 = nI 0 ∧ CM l D (cm_T cI cZ cJ) yX3_choose cX3_choose 9 (some .int) (cm_rm 4 101) [.ref h, .ref im, .int s0, .int key, .int val] ws (some (.int (chS (uR f z) (kR f z) (vR f z) s0 key val).1)) (ws.set qN (an, .inl (cI, 22, .inl (encA z fm0 0 (chS (uR f z) (kR f z) (vR f z) s0 key val).2)))) := by
  have q1 := hm1_lt s0 key
  have q2 := hm2_lt s0 key
  cases e1 : findS (uR f z) (kR f z) s0 key with
  | some p9 =>
    have q3 := (findS_lt e1).1
    refine ⟨(upd fm 0 (nI 0)), pk_us, ?_⟩
    refine CM.of (by decide) (Nat.le_of_ble_eq_true rfl) ?_
    intro p e s m below meth c ls H locs C hl hP hD hS
    refine lv_aload_n C.1 C.2.1 dX3_choose_0 rfl (lv_at hl 1 rfl) ?_
    refine lv_iload_n C.1 C.2.1 dX3_choose_1 rfl (lv_at hl 2 rfl) ?_
    refine lv_iload_n C.1 C.2.1 dX3_choose_2 rfl (lv_at hl 3 rfl) ?_
    refine cm_cS1 3 C (k_X3_find l D cI cZ cJ _ hI hA z hz0 hz s0 key) tw_111 tw_112 tw_1 tw_113 rfl rfl (by decide +kernel) ⟨Nat.le_of_ble_eq_true rfl, Nat.le_of_ble_eq_true rfl⟩ ⟨Nat.zero_le _, Nat.zero_le _⟩ hP hD hS hl.1 rfl rfl (Nat.le_of_ble_eq_true rfl) dX3_choose_3 (fun H locs hP hD hS => ?_)
    rw [e1, optA_some]
    refine lv_istore (lv' := [(5, _), (0, _), (1, _), (2, _), (3, _), (4, _)]) C.1 C.2.1 dX3_choose_6 hl (by decide) rfl (fun ls hl => ?_)
    refine lv_iload C.1 C.2.1 dX3_choose_8 (lv_at hl 0 rfl) ?_
    refine lv_iconst (v := (-1)) C.1 C.2.1 dX3_choose_10 (by decide +kernel) ?_
    refine lv_icmp_eq (tgt := 28) C.1 C.2.1 dX3_choose_11 (by decide) (fun h => absurd h (nI_m1 (by omega))) (fun _ => ?_)
    refine lv_aload_n C.1 C.2.1 dX3_choose_14 rfl (lv_at hl 1 rfl) ?_
    refine va_get (ci := 3) (C := RX3) (T := TX3) (N := 10) C.1 C.2.1 C.2.2.2.2.2.1 ui_X3 C.2.2.2.2.1 C.2.2.2.2.2.2.2.1 hP qO (hO) rfl 5 (by decide) (C.2.2.2.2.2.1 _ tw_66) (fun _ h9 => h9) rfl dX3_choose_15 ?_
    refine lv_iload C.1 C.2.1 dX3_choose_18 (lv_at hl 0 rfl) ?_
    refine lv_iload_n C.1 C.2.1 dX3_choose_20 rfl (lv_at hl 4 rfl) ?_
    refine lv_iload C.1 C.2.1 dX3_choose_21 (lv_at hl 5 rfl) ?_
    refine cm_cV0 (q0 := qM) 3 C (k_X1_tellOne l D cI cZ cJ _ hM hN hmn (nI (36 * z + p9)) key val) tw_135 tw_136 tw_137 tw_4 tw_138 rfl rfl (hM) rfl (by decide +kernel) ⟨Nat.le_of_ble_eq_true rfl, Nat.le_of_ble_eq_true rfl⟩ ⟨Nat.zero_le _, Nat.zero_le _⟩ hP hD hS hl.1 rfl rfl (Nat.le_of_ble_eq_true rfl) dX3_choose_23 (fun H locs hP hD hS => ?_)
    refine lv_iconst (v := nI 0) C.1 C.2.1 dX3_choose_26 (by decide +kernel) ?_
    exact cm_iret C hP hD hS dX3_choose_27 (by simp [chS, e1]) (by simp [chS, e1, encA])
  | none =>
    cases e2 : emS (uR f z) (hm1 s0 key) with
    | some p9 =>
      have q3 := (emS_lt e2 (by omega)).1
      refine ⟨(upd fm 0 (nI 0)), pk_us, ?_⟩
      refine CM.of (by decide) (Nat.le_of_ble_eq_true rfl) ?_
      intro p e s m below meth c ls H locs C hl hP hD hS
      refine lv_aload_n C.1 C.2.1 dX3_choose_0 rfl (lv_at hl 1 rfl) ?_
      refine lv_iload_n C.1 C.2.1 dX3_choose_1 rfl (lv_at hl 2 rfl) ?_
      refine lv_iload_n C.1 C.2.1 dX3_choose_2 rfl (lv_at hl 3 rfl) ?_
      refine cm_cS1 3 C (k_X3_find l D cI cZ cJ _ hI hA z hz0 hz s0 key) tw_111 tw_112 tw_1 tw_113 rfl rfl (by decide +kernel) ⟨Nat.le_of_ble_eq_true rfl, Nat.le_of_ble_eq_true rfl⟩ ⟨Nat.zero_le _, Nat.zero_le _⟩ hP hD hS hl.1 rfl rfl (Nat.le_of_ble_eq_true rfl) dX3_choose_3 (fun H locs hP hD hS => ?_)
      rw [e1, optA_none]
      refine lv_istore (lv' := [(5, _), (0, _), (1, _), (2, _), (3, _), (4, _)]) C.1 C.2.1 dX3_choose_6 hl (by decide) rfl (fun ls hl => ?_)
      refine lv_iload C.1 C.2.1 dX3_choose_8 (lv_at hl 0 rfl) ?_
      refine lv_iconst (v := (-1)) C.1 C.2.1 dX3_choose_10 (by decide +kernel) ?_
      refine lv_icmp_eq (tgt := 28) C.1 C.2.1 dX3_choose_11 (by decide) (fun _ => ?_) (fun h => absurd (rfl) h)
      refine lv_aload_n C.1 C.2.1 dX3_choose_28 rfl (lv_at hl 2 rfl) ?_
      refine lv_iload_n C.1 C.2.1 dX3_choose_29 rfl (lv_at hl 3 rfl) ?_
      refine lv_iload_n C.1 C.2.1 dX3_choose_30 rfl (lv_at hl 4 rfl) ?_
      refine lv_iconst (v := nI 0) C.1 C.2.1 dX3_choose_31 (by decide +kernel) ?_
      refine cm_cS1 3 C (c_homeBy1 l D cI cZ cJ _ s0 key) tw_114 tw_115 tw_1 tw_116 rfl rfl (by decide +kernel) ⟨Nat.le_of_ble_eq_true rfl, Nat.le_of_ble_eq_true rfl⟩ ⟨Nat.zero_le _, Nat.zero_le _⟩ hP hD hS hl.1 rfl rfl (Nat.le_of_ble_eq_true rfl) dX3_choose_32 (fun H locs hP hD hS => ?_)
      refine cm_cV1 (q0 := qI) 1 C (k_X0_rowInUse l D cI cZ cJ _ hI hA z (hm1 s0 key) hz) tw_120 tw_121 tw_122 tw_2 tw_123 rfl rfl (hI) rfl (by decide +kernel) ⟨Nat.le_of_ble_eq_true rfl, Nat.le_of_ble_eq_true rfl⟩ ⟨Nat.zero_le _, Nat.zero_le _⟩ hP hD hS hl.1 rfl rfl (Nat.le_of_ble_eq_true rfl) dX3_choose_35 (fun H locs hP hD hS => ?_)
      refine lv_istore (lv' := [(6, _), (5, _), (0, _), (1, _), (2, _), (3, _), (4, _)]) C.1 C.2.1 dX3_choose_38 hl (by decide) rfl (fun ls hl => ?_)
      refine lv_aload_n C.1 C.2.1 dX3_choose_40 rfl (lv_at hl 3 rfl) ?_
      refine lv_iload_n C.1 C.2.1 dX3_choose_41 rfl (lv_at hl 4 rfl) ?_
      refine lv_iload_n C.1 C.2.1 dX3_choose_42 rfl (lv_at hl 5 rfl) ?_
      refine lv_iconst (v := nI 1) C.1 C.2.1 dX3_choose_43 (by decide +kernel) ?_
      refine cm_cS1 3 C (c_homeBy2 l D cI cZ cJ _ s0 key) tw_114 tw_115 tw_1 tw_116 rfl rfl (by decide +kernel) ⟨Nat.le_of_ble_eq_true rfl, Nat.le_of_ble_eq_true rfl⟩ ⟨Nat.zero_le _, Nat.zero_le _⟩ hP hD hS hl.1 rfl rfl (Nat.le_of_ble_eq_true rfl) dX3_choose_44 (fun H locs hP hD hS => ?_)
      refine cm_cV1 (q0 := qI) 1 C (k_X0_rowInUse l D cI cZ cJ _ hI hA z (hm2 s0 key) hz) tw_120 tw_121 tw_122 tw_2 tw_123 rfl rfl (hI) rfl (by decide +kernel) ⟨Nat.le_of_ble_eq_true rfl, Nat.le_of_ble_eq_true rfl⟩ ⟨Nat.zero_le _, Nat.zero_le _⟩ hP hD hS hl.1 rfl rfl (Nat.le_of_ble_eq_true rfl) dX3_choose_47 (fun H locs hP hD hS => ?_)
      refine lv_istore (lv' := [(7, _), (6, _), (5, _), (0, _), (1, _), (2, _), (3, _), (4, _)]) C.1 C.2.1 dX3_choose_50 hl (by decide) rfl (fun ls hl => ?_)
      refine lv_aload_n C.1 C.2.1 dX3_choose_52 rfl (lv_at hl 4 rfl) ?_
      refine lv_iload C.1 C.2.1 dX3_choose_53 (lv_at hl 1 rfl) ?_
      refine cm_cV1 (q0 := qI) 1 C (k_X0_leastEmpty l D cI cZ cJ _ hI hA (z * 9 + hm1 s0 key) (by omega)) tw_155 tw_156 tw_157 tw_2 tw_158 rfl rfl (hI) rfl (by decide +kernel) ⟨Nat.le_of_ble_eq_true rfl, Nat.le_of_ble_eq_true rfl⟩ ⟨Nat.zero_le _, Nat.zero_le _⟩ hP hD hS hl.1 rfl rfl (Nat.le_of_ble_eq_true rfl) dX3_choose_55 (fun H locs hP hD hS => ?_)
      rw [em_abs, e2, optA_some]
      refine lv_istore (lv' := [(8, _), (7, _), (6, _), (5, _), (0, _), (1, _), (2, _), (3, _), (4, _)]) C.1 C.2.1 dX3_choose_58 hl (by decide) rfl (fun ls hl => ?_)
      refine lv_iload C.1 C.2.1 dX3_choose_60 (lv_at hl 0 rfl) ?_
      refine lv_iconst (v := (-1)) C.1 C.2.1 dX3_choose_62 (by decide +kernel) ?_
      refine lv_icmp_ne (tgt := 74) C.1 C.2.1 dX3_choose_63 (by decide) (fun _ => ?_) (fun h => absurd h (nI_m1 (by omega)))
      refine lv_iload C.1 C.2.1 dX3_choose_74 (lv_at hl 0 rfl) ?_
      refine lv_iconst (v := (-1)) C.1 C.2.1 dX3_choose_76 (by decide +kernel) ?_
      refine lv_icmp_eq (tgt := 94) C.1 C.2.1 dX3_choose_77 (by decide) (fun h => absurd h (nI_m1 (by omega))) (fun _ => ?_)
      refine lv_aload_n C.1 C.2.1 dX3_choose_80 rfl (lv_at hl 4 rfl) ?_
      refine va_get (ci := 3) (C := RX3) (T := TX3) (N := 10) C.1 C.2.1 C.2.2.2.2.2.1 ui_X3 C.2.2.2.2.1 C.2.2.2.2.2.2.2.1 hP qO (hO) rfl 5 (by decide) (C.2.2.2.2.2.1 _ tw_66) (fun _ h9 => h9) rfl dX3_choose_81 ?_
      refine lv_iload C.1 C.2.1 dX3_choose_84 (lv_at hl 0 rfl) ?_
      refine lv_iload_n C.1 C.2.1 dX3_choose_86 rfl (lv_at hl 7 rfl) ?_
      refine lv_iload C.1 C.2.1 dX3_choose_87 (lv_at hl 8 rfl) ?_
      refine cm_cV0 (q0 := qM) 3 C (k_X1_tellOne l D cI cZ cJ _ hM hN hmn (nI (36 * z + p9)) key val) tw_135 tw_136 tw_137 tw_4 tw_138 rfl rfl (hM) rfl (by decide +kernel) ⟨Nat.le_of_ble_eq_true rfl, Nat.le_of_ble_eq_true rfl⟩ ⟨Nat.zero_le _, Nat.zero_le _⟩ hP hD hS hl.1 rfl rfl (Nat.le_of_ble_eq_true rfl) dX3_choose_89 (fun H locs hP hD hS => ?_)
      refine lv_iconst (v := nI 1) C.1 C.2.1 dX3_choose_92 (by decide +kernel) ?_
      exact cm_iret C hP hD hS dX3_choose_93 (by simp [chS, e1, e2]) (by simp [chS, e1, e2, encA])
    | none =>
      cases e3 : emS (uR f z) (hm2 s0 key) with
      | some p9 =>
        have q3 := (emS_lt e3 (by omega)).1
        refine ⟨(upd fm 0 (nI 0)), pk_us, ?_⟩
        refine CM.of (by decide) (Nat.le_of_ble_eq_true rfl) ?_
        intro p e s m below meth c ls H locs C hl hP hD hS
        refine lv_aload_n C.1 C.2.1 dX3_choose_0 rfl (lv_at hl 1 rfl) ?_
        refine lv_iload_n C.1 C.2.1 dX3_choose_1 rfl (lv_at hl 2 rfl) ?_
        refine lv_iload_n C.1 C.2.1 dX3_choose_2 rfl (lv_at hl 3 rfl) ?_
        refine cm_cS1 3 C (k_X3_find l D cI cZ cJ _ hI hA z hz0 hz s0 key) tw_111 tw_112 tw_1 tw_113 rfl rfl (by decide +kernel) ⟨Nat.le_of_ble_eq_true rfl, Nat.le_of_ble_eq_true rfl⟩ ⟨Nat.zero_le _, Nat.zero_le _⟩ hP hD hS hl.1 rfl rfl (Nat.le_of_ble_eq_true rfl) dX3_choose_3 (fun H locs hP hD hS => ?_)
        rw [e1, optA_none]
        refine lv_istore (lv' := [(5, _), (0, _), (1, _), (2, _), (3, _), (4, _)]) C.1 C.2.1 dX3_choose_6 hl (by decide) rfl (fun ls hl => ?_)
        refine lv_iload C.1 C.2.1 dX3_choose_8 (lv_at hl 0 rfl) ?_
        refine lv_iconst (v := (-1)) C.1 C.2.1 dX3_choose_10 (by decide +kernel) ?_
        refine lv_icmp_eq (tgt := 28) C.1 C.2.1 dX3_choose_11 (by decide) (fun _ => ?_) (fun h => absurd (rfl) h)
        refine lv_aload_n C.1 C.2.1 dX3_choose_28 rfl (lv_at hl 2 rfl) ?_
        refine lv_iload_n C.1 C.2.1 dX3_choose_29 rfl (lv_at hl 3 rfl) ?_
        refine lv_iload_n C.1 C.2.1 dX3_choose_30 rfl (lv_at hl 4 rfl) ?_
        refine lv_iconst (v := nI 0) C.1 C.2.1 dX3_choose_31 (by decide +kernel) ?_
        refine cm_cS1 3 C (c_homeBy1 l D cI cZ cJ _ s0 key) tw_114 tw_115 tw_1 tw_116 rfl rfl (by decide +kernel) ⟨Nat.le_of_ble_eq_true rfl, Nat.le_of_ble_eq_true rfl⟩ ⟨Nat.zero_le _, Nat.zero_le _⟩ hP hD hS hl.1 rfl rfl (Nat.le_of_ble_eq_true rfl) dX3_choose_32 (fun H locs hP hD hS => ?_)
        refine cm_cV1 (q0 := qI) 1 C (k_X0_rowInUse l D cI cZ cJ _ hI hA z (hm1 s0 key) hz) tw_120 tw_121 tw_122 tw_2 tw_123 rfl rfl (hI) rfl (by decide +kernel) ⟨Nat.le_of_ble_eq_true rfl, Nat.le_of_ble_eq_true rfl⟩ ⟨Nat.zero_le _, Nat.zero_le _⟩ hP hD hS hl.1 rfl rfl (Nat.le_of_ble_eq_true rfl) dX3_choose_35 (fun H locs hP hD hS => ?_)
        refine lv_istore (lv' := [(6, _), (5, _), (0, _), (1, _), (2, _), (3, _), (4, _)]) C.1 C.2.1 dX3_choose_38 hl (by decide) rfl (fun ls hl => ?_)
        refine lv_aload_n C.1 C.2.1 dX3_choose_40 rfl (lv_at hl 3 rfl) ?_
        refine lv_iload_n C.1 C.2.1 dX3_choose_41 rfl (lv_at hl 4 rfl) ?_
        refine lv_iload_n C.1 C.2.1 dX3_choose_42 rfl (lv_at hl 5 rfl) ?_
        refine lv_iconst (v := nI 1) C.1 C.2.1 dX3_choose_43 (by decide +kernel) ?_
        refine cm_cS1 3 C (c_homeBy2 l D cI cZ cJ _ s0 key) tw_114 tw_115 tw_1 tw_116 rfl rfl (by decide +kernel) ⟨Nat.le_of_ble_eq_true rfl, Nat.le_of_ble_eq_true rfl⟩ ⟨Nat.zero_le _, Nat.zero_le _⟩ hP hD hS hl.1 rfl rfl (Nat.le_of_ble_eq_true rfl) dX3_choose_44 (fun H locs hP hD hS => ?_)
        refine cm_cV1 (q0 := qI) 1 C (k_X0_rowInUse l D cI cZ cJ _ hI hA z (hm2 s0 key) hz) tw_120 tw_121 tw_122 tw_2 tw_123 rfl rfl (hI) rfl (by decide +kernel) ⟨Nat.le_of_ble_eq_true rfl, Nat.le_of_ble_eq_true rfl⟩ ⟨Nat.zero_le _, Nat.zero_le _⟩ hP hD hS hl.1 rfl rfl (Nat.le_of_ble_eq_true rfl) dX3_choose_47 (fun H locs hP hD hS => ?_)
        refine lv_istore (lv' := [(7, _), (6, _), (5, _), (0, _), (1, _), (2, _), (3, _), (4, _)]) C.1 C.2.1 dX3_choose_50 hl (by decide) rfl (fun ls hl => ?_)
        refine lv_aload_n C.1 C.2.1 dX3_choose_52 rfl (lv_at hl 4 rfl) ?_
        refine lv_iload C.1 C.2.1 dX3_choose_53 (lv_at hl 1 rfl) ?_
        refine cm_cV1 (q0 := qI) 1 C (k_X0_leastEmpty l D cI cZ cJ _ hI hA (z * 9 + hm1 s0 key) (by omega)) tw_155 tw_156 tw_157 tw_2 tw_158 rfl rfl (hI) rfl (by decide +kernel) ⟨Nat.le_of_ble_eq_true rfl, Nat.le_of_ble_eq_true rfl⟩ ⟨Nat.zero_le _, Nat.zero_le _⟩ hP hD hS hl.1 rfl rfl (Nat.le_of_ble_eq_true rfl) dX3_choose_55 (fun H locs hP hD hS => ?_)
        rw [em_abs, e2, optA_none]
        refine lv_istore (lv' := [(8, _), (7, _), (6, _), (5, _), (0, _), (1, _), (2, _), (3, _), (4, _)]) C.1 C.2.1 dX3_choose_58 hl (by decide) rfl (fun ls hl => ?_)
        refine lv_iload C.1 C.2.1 dX3_choose_60 (lv_at hl 0 rfl) ?_
        refine lv_iconst (v := (-1)) C.1 C.2.1 dX3_choose_62 (by decide +kernel) ?_
        refine lv_icmp_ne (tgt := 74) C.1 C.2.1 dX3_choose_63 (by decide) (fun h => absurd (rfl) h) (fun _ => ?_)
        refine lv_aload_n C.1 C.2.1 dX3_choose_66 rfl (lv_at hl 5 rfl) ?_
        refine lv_iload C.1 C.2.1 dX3_choose_67 (lv_at hl 1 rfl) ?_
        refine cm_cV1 (q0 := qI) 1 C (k_X0_leastEmpty l D cI cZ cJ _ hI hA (z * 9 + hm2 s0 key) (by omega)) tw_155 tw_156 tw_157 tw_2 tw_158 rfl rfl (hI) rfl (by decide +kernel) ⟨Nat.le_of_ble_eq_true rfl, Nat.le_of_ble_eq_true rfl⟩ ⟨Nat.zero_le _, Nat.zero_le _⟩ hP hD hS hl.1 rfl rfl (Nat.le_of_ble_eq_true rfl) dX3_choose_69 (fun H locs hP hD hS => ?_)
        rw [em_abs, e3, optA_some]
        refine lv_istore (lv' := [(8, _), (7, _), (6, _), (5, _), (0, _), (1, _), (2, _), (3, _), (4, _)]) C.1 C.2.1 dX3_choose_72 hl (by decide) rfl (fun ls hl => ?_)
        refine lv_iload C.1 C.2.1 dX3_choose_74 (lv_at hl 0 rfl) ?_
        refine lv_iconst (v := (-1)) C.1 C.2.1 dX3_choose_76 (by decide +kernel) ?_
        refine lv_icmp_eq (tgt := 94) C.1 C.2.1 dX3_choose_77 (by decide) (fun h => absurd h (nI_m1 (by omega))) (fun _ => ?_)
        refine lv_aload_n C.1 C.2.1 dX3_choose_80 rfl (lv_at hl 4 rfl) ?_
        refine va_get (ci := 3) (C := RX3) (T := TX3) (N := 10) C.1 C.2.1 C.2.2.2.2.2.1 ui_X3 C.2.2.2.2.1 C.2.2.2.2.2.2.2.1 hP qO (hO) rfl 5 (by decide) (C.2.2.2.2.2.1 _ tw_66) (fun _ h9 => h9) rfl dX3_choose_81 ?_
        refine lv_iload C.1 C.2.1 dX3_choose_84 (lv_at hl 0 rfl) ?_
        refine lv_iload_n C.1 C.2.1 dX3_choose_86 rfl (lv_at hl 7 rfl) ?_
        refine lv_iload C.1 C.2.1 dX3_choose_87 (lv_at hl 8 rfl) ?_
        refine cm_cV0 (q0 := qM) 3 C (k_X1_tellOne l D cI cZ cJ _ hM hN hmn (nI (36 * z + p9)) key val) tw_135 tw_136 tw_137 tw_4 tw_138 rfl rfl (hM) rfl (by decide +kernel) ⟨Nat.le_of_ble_eq_true rfl, Nat.le_of_ble_eq_true rfl⟩ ⟨Nat.zero_le _, Nat.zero_le _⟩ hP hD hS hl.1 rfl rfl (Nat.le_of_ble_eq_true rfl) dX3_choose_89 (fun H locs hP hD hS => ?_)
        refine lv_iconst (v := nI 1) C.1 C.2.1 dX3_choose_92 (by decide +kernel) ?_
        exact cm_iret C hP hD hS dX3_choose_93 (by simp [chS, e1, e2, e3]) (by simp [chS, e1, e2, e3, encA])
      | none =>
        by_cases e4 : (pathS (uR f z) (kR f z) s0 6 0 (hm1 s0 key) []).1 = true
        · refine ⟨(upd fm 0 (nI 0)), pk_us, ?_⟩
          refine CM.of (by decide) (Nat.le_of_ble_eq_true rfl) ?_
          intro p e s m below meth c ls H locs C hl hP hD hS
          refine lv_aload_n C.1 C.2.1 dX3_choose_0 rfl (lv_at hl 1 rfl) ?_
          refine lv_iload_n C.1 C.2.1 dX3_choose_1 rfl (lv_at hl 2 rfl) ?_
          refine lv_iload_n C.1 C.2.1 dX3_choose_2 rfl (lv_at hl 3 rfl) ?_
          refine cm_cS1 3 C (k_X3_find l D cI cZ cJ _ hI hA z hz0 hz s0 key) tw_111 tw_112 tw_1 tw_113 rfl rfl (by decide +kernel) ⟨Nat.le_of_ble_eq_true rfl, Nat.le_of_ble_eq_true rfl⟩ ⟨Nat.zero_le _, Nat.zero_le _⟩ hP hD hS hl.1 rfl rfl (Nat.le_of_ble_eq_true rfl) dX3_choose_3 (fun H locs hP hD hS => ?_)
          rw [e1, optA_none]
          refine lv_istore (lv' := [(5, _), (0, _), (1, _), (2, _), (3, _), (4, _)]) C.1 C.2.1 dX3_choose_6 hl (by decide) rfl (fun ls hl => ?_)
          refine lv_iload C.1 C.2.1 dX3_choose_8 (lv_at hl 0 rfl) ?_
          refine lv_iconst (v := (-1)) C.1 C.2.1 dX3_choose_10 (by decide +kernel) ?_
          refine lv_icmp_eq (tgt := 28) C.1 C.2.1 dX3_choose_11 (by decide) (fun _ => ?_) (fun h => absurd (rfl) h)
          refine lv_aload_n C.1 C.2.1 dX3_choose_28 rfl (lv_at hl 2 rfl) ?_
          refine lv_iload_n C.1 C.2.1 dX3_choose_29 rfl (lv_at hl 3 rfl) ?_
          refine lv_iload_n C.1 C.2.1 dX3_choose_30 rfl (lv_at hl 4 rfl) ?_
          refine lv_iconst (v := nI 0) C.1 C.2.1 dX3_choose_31 (by decide +kernel) ?_
          refine cm_cS1 3 C (c_homeBy1 l D cI cZ cJ _ s0 key) tw_114 tw_115 tw_1 tw_116 rfl rfl (by decide +kernel) ⟨Nat.le_of_ble_eq_true rfl, Nat.le_of_ble_eq_true rfl⟩ ⟨Nat.zero_le _, Nat.zero_le _⟩ hP hD hS hl.1 rfl rfl (Nat.le_of_ble_eq_true rfl) dX3_choose_32 (fun H locs hP hD hS => ?_)
          refine cm_cV1 (q0 := qI) 1 C (k_X0_rowInUse l D cI cZ cJ _ hI hA z (hm1 s0 key) hz) tw_120 tw_121 tw_122 tw_2 tw_123 rfl rfl (hI) rfl (by decide +kernel) ⟨Nat.le_of_ble_eq_true rfl, Nat.le_of_ble_eq_true rfl⟩ ⟨Nat.zero_le _, Nat.zero_le _⟩ hP hD hS hl.1 rfl rfl (Nat.le_of_ble_eq_true rfl) dX3_choose_35 (fun H locs hP hD hS => ?_)
          refine lv_istore (lv' := [(6, _), (5, _), (0, _), (1, _), (2, _), (3, _), (4, _)]) C.1 C.2.1 dX3_choose_38 hl (by decide) rfl (fun ls hl => ?_)
          refine lv_aload_n C.1 C.2.1 dX3_choose_40 rfl (lv_at hl 3 rfl) ?_
          refine lv_iload_n C.1 C.2.1 dX3_choose_41 rfl (lv_at hl 4 rfl) ?_
          refine lv_iload_n C.1 C.2.1 dX3_choose_42 rfl (lv_at hl 5 rfl) ?_
          refine lv_iconst (v := nI 1) C.1 C.2.1 dX3_choose_43 (by decide +kernel) ?_
          refine cm_cS1 3 C (c_homeBy2 l D cI cZ cJ _ s0 key) tw_114 tw_115 tw_1 tw_116 rfl rfl (by decide +kernel) ⟨Nat.le_of_ble_eq_true rfl, Nat.le_of_ble_eq_true rfl⟩ ⟨Nat.zero_le _, Nat.zero_le _⟩ hP hD hS hl.1 rfl rfl (Nat.le_of_ble_eq_true rfl) dX3_choose_44 (fun H locs hP hD hS => ?_)
          refine cm_cV1 (q0 := qI) 1 C (k_X0_rowInUse l D cI cZ cJ _ hI hA z (hm2 s0 key) hz) tw_120 tw_121 tw_122 tw_2 tw_123 rfl rfl (hI) rfl (by decide +kernel) ⟨Nat.le_of_ble_eq_true rfl, Nat.le_of_ble_eq_true rfl⟩ ⟨Nat.zero_le _, Nat.zero_le _⟩ hP hD hS hl.1 rfl rfl (Nat.le_of_ble_eq_true rfl) dX3_choose_47 (fun H locs hP hD hS => ?_)
          refine lv_istore (lv' := [(7, _), (6, _), (5, _), (0, _), (1, _), (2, _), (3, _), (4, _)]) C.1 C.2.1 dX3_choose_50 hl (by decide) rfl (fun ls hl => ?_)
          refine lv_aload_n C.1 C.2.1 dX3_choose_52 rfl (lv_at hl 4 rfl) ?_
          refine lv_iload C.1 C.2.1 dX3_choose_53 (lv_at hl 1 rfl) ?_
          refine cm_cV1 (q0 := qI) 1 C (k_X0_leastEmpty l D cI cZ cJ _ hI hA (z * 9 + hm1 s0 key) (by omega)) tw_155 tw_156 tw_157 tw_2 tw_158 rfl rfl (hI) rfl (by decide +kernel) ⟨Nat.le_of_ble_eq_true rfl, Nat.le_of_ble_eq_true rfl⟩ ⟨Nat.zero_le _, Nat.zero_le _⟩ hP hD hS hl.1 rfl rfl (Nat.le_of_ble_eq_true rfl) dX3_choose_55 (fun H locs hP hD hS => ?_)
          rw [em_abs, e2, optA_none]
          refine lv_istore (lv' := [(8, _), (7, _), (6, _), (5, _), (0, _), (1, _), (2, _), (3, _), (4, _)]) C.1 C.2.1 dX3_choose_58 hl (by decide) rfl (fun ls hl => ?_)
          refine lv_iload C.1 C.2.1 dX3_choose_60 (lv_at hl 0 rfl) ?_
          refine lv_iconst (v := (-1)) C.1 C.2.1 dX3_choose_62 (by decide +kernel) ?_
          refine lv_icmp_ne (tgt := 74) C.1 C.2.1 dX3_choose_63 (by decide) (fun h => absurd (rfl) h) (fun _ => ?_)
          refine lv_aload_n C.1 C.2.1 dX3_choose_66 rfl (lv_at hl 5 rfl) ?_
          refine lv_iload C.1 C.2.1 dX3_choose_67 (lv_at hl 1 rfl) ?_
          refine cm_cV1 (q0 := qI) 1 C (k_X0_leastEmpty l D cI cZ cJ _ hI hA (z * 9 + hm2 s0 key) (by omega)) tw_155 tw_156 tw_157 tw_2 tw_158 rfl rfl (hI) rfl (by decide +kernel) ⟨Nat.le_of_ble_eq_true rfl, Nat.le_of_ble_eq_true rfl⟩ ⟨Nat.zero_le _, Nat.zero_le _⟩ hP hD hS hl.1 rfl rfl (Nat.le_of_ble_eq_true rfl) dX3_choose_69 (fun H locs hP hD hS => ?_)
          rw [em_abs, e3, optA_none]
          refine lv_istore (lv' := [(8, _), (7, _), (6, _), (5, _), (0, _), (1, _), (2, _), (3, _), (4, _)]) C.1 C.2.1 dX3_choose_72 hl (by decide) rfl (fun ls hl => ?_)
          refine lv_iload C.1 C.2.1 dX3_choose_74 (lv_at hl 0 rfl) ?_
          refine lv_iconst (v := (-1)) C.1 C.2.1 dX3_choose_76 (by decide +kernel) ?_
          refine lv_icmp_eq (tgt := 94) C.1 C.2.1 dX3_choose_77 (by decide) (fun _ => ?_) (fun h => absurd (rfl) h)
          refine lv_aload_n C.1 C.2.1 dX3_choose_94 rfl (lv_at hl 4 rfl) ?_
          refine lv_aload_n C.1 C.2.1 dX3_choose_95 rfl (lv_at hl 5 rfl) ?_
          refine lv_iload_n C.1 C.2.1 dX3_choose_96 rfl (lv_at hl 6 rfl) ?_
          refine lv_iload C.1 C.2.1 dX3_choose_97 (lv_at hl 2 rfl) ?_
          refine lv_iload_n C.1 C.2.1 dX3_choose_99 rfl (lv_at hl 7 rfl) ?_
          refine lv_iload C.1 C.2.1 dX3_choose_100 (lv_at hl 8 rfl) ?_
          refine cm_cV1 (q0 := qO) 5 C (k_X3_layPath l D cI cZ cJ _ hO hM hN hI hA hon hmn hin han z (hm1 s0 key) hz0 (by omega) s0 key val) tw_159 tw_161 ts_2 tw_1 tw_162 rfl rfl (hO) rfl (by decide +kernel) ⟨Nat.le_of_ble_eq_true rfl, Nat.le_of_ble_eq_true rfl⟩ ⟨Nat.zero_le _, Nat.zero_le _⟩ hP hD hS hl.1 rfl rfl (Nat.le_of_ble_eq_true rfl) dX3_choose_102 (fun H locs hP hD hS => ?_)
          rw [e4]
          refine lv_if_ne (tgt := 122) C.1 C.2.1 dX3_choose_105 (by decide) (fun _ => ?_) (fun h => absurd h (by decide))
          refine lv_iconst (v := nI 2) C.1 C.2.1 dX3_choose_122 (by decide +kernel) ?_
          exact cm_iret C hP hD hS dX3_choose_123 (by simp [chS, e1, e2, e3, e4]) (by simp [chS, e1, e2, e3, e4, encA])
        · have e4 : (pathS (uR f z) (kR f z) s0 6 0 (hm1 s0 key) []).1 = false := by simpa using e4
          by_cases e5 : (pathS (uR f z) (kR f z) s0 6 0 (hm2 s0 key) []).1 = true
          · refine ⟨(upd (encA z (upd fm 0 (nI 0)) 0 (mvS (kR f z) (vR f z) key val (pathS (uR f z) (kR f z) s0 6 0 (hm1 s0 key) []).2)) 0 (nI 0)), pk_us, ?_⟩
            refine CM.of (by decide) (Nat.le_of_ble_eq_true rfl) ?_
            intro p e s m below meth c ls H locs C hl hP hD hS
            refine lv_aload_n C.1 C.2.1 dX3_choose_0 rfl (lv_at hl 1 rfl) ?_
            refine lv_iload_n C.1 C.2.1 dX3_choose_1 rfl (lv_at hl 2 rfl) ?_
            refine lv_iload_n C.1 C.2.1 dX3_choose_2 rfl (lv_at hl 3 rfl) ?_
            refine cm_cS1 3 C (k_X3_find l D cI cZ cJ _ hI hA z hz0 hz s0 key) tw_111 tw_112 tw_1 tw_113 rfl rfl (by decide +kernel) ⟨Nat.le_of_ble_eq_true rfl, Nat.le_of_ble_eq_true rfl⟩ ⟨Nat.zero_le _, Nat.zero_le _⟩ hP hD hS hl.1 rfl rfl (Nat.le_of_ble_eq_true rfl) dX3_choose_3 (fun H locs hP hD hS => ?_)
            rw [e1, optA_none]
            refine lv_istore (lv' := [(5, _), (0, _), (1, _), (2, _), (3, _), (4, _)]) C.1 C.2.1 dX3_choose_6 hl (by decide) rfl (fun ls hl => ?_)
            refine lv_iload C.1 C.2.1 dX3_choose_8 (lv_at hl 0 rfl) ?_
            refine lv_iconst (v := (-1)) C.1 C.2.1 dX3_choose_10 (by decide +kernel) ?_
            refine lv_icmp_eq (tgt := 28) C.1 C.2.1 dX3_choose_11 (by decide) (fun _ => ?_) (fun h => absurd (rfl) h)
            refine lv_aload_n C.1 C.2.1 dX3_choose_28 rfl (lv_at hl 2 rfl) ?_
            refine lv_iload_n C.1 C.2.1 dX3_choose_29 rfl (lv_at hl 3 rfl) ?_
            refine lv_iload_n C.1 C.2.1 dX3_choose_30 rfl (lv_at hl 4 rfl) ?_
            refine lv_iconst (v := nI 0) C.1 C.2.1 dX3_choose_31 (by decide +kernel) ?_
            refine cm_cS1 3 C (c_homeBy1 l D cI cZ cJ _ s0 key) tw_114 tw_115 tw_1 tw_116 rfl rfl (by decide +kernel) ⟨Nat.le_of_ble_eq_true rfl, Nat.le_of_ble_eq_true rfl⟩ ⟨Nat.zero_le _, Nat.zero_le _⟩ hP hD hS hl.1 rfl rfl (Nat.le_of_ble_eq_true rfl) dX3_choose_32 (fun H locs hP hD hS => ?_)
            refine cm_cV1 (q0 := qI) 1 C (k_X0_rowInUse l D cI cZ cJ _ hI hA z (hm1 s0 key) hz) tw_120 tw_121 tw_122 tw_2 tw_123 rfl rfl (hI) rfl (by decide +kernel) ⟨Nat.le_of_ble_eq_true rfl, Nat.le_of_ble_eq_true rfl⟩ ⟨Nat.zero_le _, Nat.zero_le _⟩ hP hD hS hl.1 rfl rfl (Nat.le_of_ble_eq_true rfl) dX3_choose_35 (fun H locs hP hD hS => ?_)
            refine lv_istore (lv' := [(6, _), (5, _), (0, _), (1, _), (2, _), (3, _), (4, _)]) C.1 C.2.1 dX3_choose_38 hl (by decide) rfl (fun ls hl => ?_)
            refine lv_aload_n C.1 C.2.1 dX3_choose_40 rfl (lv_at hl 3 rfl) ?_
            refine lv_iload_n C.1 C.2.1 dX3_choose_41 rfl (lv_at hl 4 rfl) ?_
            refine lv_iload_n C.1 C.2.1 dX3_choose_42 rfl (lv_at hl 5 rfl) ?_
            refine lv_iconst (v := nI 1) C.1 C.2.1 dX3_choose_43 (by decide +kernel) ?_
            refine cm_cS1 3 C (c_homeBy2 l D cI cZ cJ _ s0 key) tw_114 tw_115 tw_1 tw_116 rfl rfl (by decide +kernel) ⟨Nat.le_of_ble_eq_true rfl, Nat.le_of_ble_eq_true rfl⟩ ⟨Nat.zero_le _, Nat.zero_le _⟩ hP hD hS hl.1 rfl rfl (Nat.le_of_ble_eq_true rfl) dX3_choose_44 (fun H locs hP hD hS => ?_)
            refine cm_cV1 (q0 := qI) 1 C (k_X0_rowInUse l D cI cZ cJ _ hI hA z (hm2 s0 key) hz) tw_120 tw_121 tw_122 tw_2 tw_123 rfl rfl (hI) rfl (by decide +kernel) ⟨Nat.le_of_ble_eq_true rfl, Nat.le_of_ble_eq_true rfl⟩ ⟨Nat.zero_le _, Nat.zero_le _⟩ hP hD hS hl.1 rfl rfl (Nat.le_of_ble_eq_true rfl) dX3_choose_47 (fun H locs hP hD hS => ?_)
            refine lv_istore (lv' := [(7, _), (6, _), (5, _), (0, _), (1, _), (2, _), (3, _), (4, _)]) C.1 C.2.1 dX3_choose_50 hl (by decide) rfl (fun ls hl => ?_)
            refine lv_aload_n C.1 C.2.1 dX3_choose_52 rfl (lv_at hl 4 rfl) ?_
            refine lv_iload C.1 C.2.1 dX3_choose_53 (lv_at hl 1 rfl) ?_
            refine cm_cV1 (q0 := qI) 1 C (k_X0_leastEmpty l D cI cZ cJ _ hI hA (z * 9 + hm1 s0 key) (by omega)) tw_155 tw_156 tw_157 tw_2 tw_158 rfl rfl (hI) rfl (by decide +kernel) ⟨Nat.le_of_ble_eq_true rfl, Nat.le_of_ble_eq_true rfl⟩ ⟨Nat.zero_le _, Nat.zero_le _⟩ hP hD hS hl.1 rfl rfl (Nat.le_of_ble_eq_true rfl) dX3_choose_55 (fun H locs hP hD hS => ?_)
            rw [em_abs, e2, optA_none]
            refine lv_istore (lv' := [(8, _), (7, _), (6, _), (5, _), (0, _), (1, _), (2, _), (3, _), (4, _)]) C.1 C.2.1 dX3_choose_58 hl (by decide) rfl (fun ls hl => ?_)
            refine lv_iload C.1 C.2.1 dX3_choose_60 (lv_at hl 0 rfl) ?_
            refine lv_iconst (v := (-1)) C.1 C.2.1 dX3_choose_62 (by decide +kernel) ?_
            refine lv_icmp_ne (tgt := 74) C.1 C.2.1 dX3_choose_63 (by decide) (fun h => absurd (rfl) h) (fun _ => ?_)
            refine lv_aload_n C.1 C.2.1 dX3_choose_66 rfl (lv_at hl 5 rfl) ?_
            refine lv_iload C.1 C.2.1 dX3_choose_67 (lv_at hl 1 rfl) ?_
            refine cm_cV1 (q0 := qI) 1 C (k_X0_leastEmpty l D cI cZ cJ _ hI hA (z * 9 + hm2 s0 key) (by omega)) tw_155 tw_156 tw_157 tw_2 tw_158 rfl rfl (hI) rfl (by decide +kernel) ⟨Nat.le_of_ble_eq_true rfl, Nat.le_of_ble_eq_true rfl⟩ ⟨Nat.zero_le _, Nat.zero_le _⟩ hP hD hS hl.1 rfl rfl (Nat.le_of_ble_eq_true rfl) dX3_choose_69 (fun H locs hP hD hS => ?_)
            rw [em_abs, e3, optA_none]
            refine lv_istore (lv' := [(8, _), (7, _), (6, _), (5, _), (0, _), (1, _), (2, _), (3, _), (4, _)]) C.1 C.2.1 dX3_choose_72 hl (by decide) rfl (fun ls hl => ?_)
            refine lv_iload C.1 C.2.1 dX3_choose_74 (lv_at hl 0 rfl) ?_
            refine lv_iconst (v := (-1)) C.1 C.2.1 dX3_choose_76 (by decide +kernel) ?_
            refine lv_icmp_eq (tgt := 94) C.1 C.2.1 dX3_choose_77 (by decide) (fun _ => ?_) (fun h => absurd (rfl) h)
            refine lv_aload_n C.1 C.2.1 dX3_choose_94 rfl (lv_at hl 4 rfl) ?_
            refine lv_aload_n C.1 C.2.1 dX3_choose_95 rfl (lv_at hl 5 rfl) ?_
            refine lv_iload_n C.1 C.2.1 dX3_choose_96 rfl (lv_at hl 6 rfl) ?_
            refine lv_iload C.1 C.2.1 dX3_choose_97 (lv_at hl 2 rfl) ?_
            refine lv_iload_n C.1 C.2.1 dX3_choose_99 rfl (lv_at hl 7 rfl) ?_
            refine lv_iload C.1 C.2.1 dX3_choose_100 (lv_at hl 8 rfl) ?_
            refine cm_cV1 (q0 := qO) 5 C (k_X3_layPath l D cI cZ cJ _ hO hM hN hI hA hon hmn hin han z (hm1 s0 key) hz0 (by omega) s0 key val) tw_159 tw_161 ts_2 tw_1 tw_162 rfl rfl (hO) rfl (by decide +kernel) ⟨Nat.le_of_ble_eq_true rfl, Nat.le_of_ble_eq_true rfl⟩ ⟨Nat.zero_le _, Nat.zero_le _⟩ hP hD hS hl.1 rfl rfl (Nat.le_of_ble_eq_true rfl) dX3_choose_102 (fun H locs hP hD hS => ?_)
            rw [e4]
            refine lv_if_ne (tgt := 122) C.1 C.2.1 dX3_choose_105 (by decide) (fun h => absurd (by decide) h) (fun _ => ?_)
            refine lv_aload_n C.1 C.2.1 dX3_choose_108 rfl (lv_at hl 4 rfl) ?_
            refine lv_aload_n C.1 C.2.1 dX3_choose_109 rfl (lv_at hl 5 rfl) ?_
            refine lv_iload_n C.1 C.2.1 dX3_choose_110 rfl (lv_at hl 6 rfl) ?_
            refine lv_iload C.1 C.2.1 dX3_choose_111 (lv_at hl 1 rfl) ?_
            refine lv_iload_n C.1 C.2.1 dX3_choose_113 rfl (lv_at hl 7 rfl) ?_
            refine lv_iload C.1 C.2.1 dX3_choose_114 (lv_at hl 8 rfl) ?_
            refine cm_cV1 (q0 := qO) 5 C (k_X3_layPath l D cI cZ cJ _ (ws_ne hon hO) (ws_ne hmn hM) (ws_self hN) (ws_ne hin hI) (ws_ne han hA) hon hmn hin han z (hm2 s0 key) hz0 (by omega) s0 key val) tw_159 tw_161 ts_2 tw_1 tw_162 rfl rfl ((ws_ne hon hO)) rfl (by decide +kernel) ⟨Nat.le_of_ble_eq_true rfl, Nat.le_of_ble_eq_true rfl⟩ ⟨Nat.zero_le _, Nat.zero_le _⟩ hP hD hS hl.1 rfl rfl (Nat.le_of_ble_eq_true rfl) dX3_choose_116 (fun H locs hP hD hS => ?_)
            rw [e5]
            rw [List.set_set] at hP hD
            refine lv_if_eq (tgt := 124) C.1 C.2.1 dX3_choose_119 (by decide) (fun h => absurd h (by decide)) (fun _ => ?_)
            refine lv_iconst (v := nI 2) C.1 C.2.1 dX3_choose_122 (by decide +kernel) ?_
            exact cm_iret C hP hD hS dX3_choose_123 (by simp [chS, e1, e2, e3, e4, e5]) (by simp [chS, e1, e2, e3, e4, e5, encA])
          · have e5 : (pathS (uR f z) (kR f z) s0 6 0 (hm2 s0 key) []).1 = false := by simpa using e5
            cases e6 : emS (uR f z) 8 with
            | some p9 =>
              have q3 := (emS_lt e6 (by omega)).1
              refine ⟨(upd (encA z (upd (encA z (upd fm 0 (nI 0)) 0 (mvS (kR f z) (vR f z) key val (pathS (uR f z) (kR f z) s0 6 0 (hm1 s0 key) []).2)) 0 (nI 0)) 0 (mvS (kR f z) (vR f z) key val (pathS (uR f z) (kR f z) s0 6 0 (hm2 s0 key) []).2)) 0 (nI 0)), pk_us, ?_⟩
              refine CM.of (by decide) (Nat.le_of_ble_eq_true rfl) ?_
              intro p e s m below meth c ls H locs C hl hP hD hS
              refine lv_aload_n C.1 C.2.1 dX3_choose_0 rfl (lv_at hl 1 rfl) ?_
              refine lv_iload_n C.1 C.2.1 dX3_choose_1 rfl (lv_at hl 2 rfl) ?_
              refine lv_iload_n C.1 C.2.1 dX3_choose_2 rfl (lv_at hl 3 rfl) ?_
              refine cm_cS1 3 C (k_X3_find l D cI cZ cJ _ hI hA z hz0 hz s0 key) tw_111 tw_112 tw_1 tw_113 rfl rfl (by decide +kernel) ⟨Nat.le_of_ble_eq_true rfl, Nat.le_of_ble_eq_true rfl⟩ ⟨Nat.zero_le _, Nat.zero_le _⟩ hP hD hS hl.1 rfl rfl (Nat.le_of_ble_eq_true rfl) dX3_choose_3 (fun H locs hP hD hS => ?_)
              rw [e1, optA_none]
              refine lv_istore (lv' := [(5, _), (0, _), (1, _), (2, _), (3, _), (4, _)]) C.1 C.2.1 dX3_choose_6 hl (by decide) rfl (fun ls hl => ?_)
              refine lv_iload C.1 C.2.1 dX3_choose_8 (lv_at hl 0 rfl) ?_
              refine lv_iconst (v := (-1)) C.1 C.2.1 dX3_choose_10 (by decide +kernel) ?_
              refine lv_icmp_eq (tgt := 28) C.1 C.2.1 dX3_choose_11 (by decide) (fun _ => ?_) (fun h => absurd (rfl) h)
              refine lv_aload_n C.1 C.2.1 dX3_choose_28 rfl (lv_at hl 2 rfl) ?_
              refine lv_iload_n C.1 C.2.1 dX3_choose_29 rfl (lv_at hl 3 rfl) ?_
              refine lv_iload_n C.1 C.2.1 dX3_choose_30 rfl (lv_at hl 4 rfl) ?_
              refine lv_iconst (v := nI 0) C.1 C.2.1 dX3_choose_31 (by decide +kernel) ?_
              refine cm_cS1 3 C (c_homeBy1 l D cI cZ cJ _ s0 key) tw_114 tw_115 tw_1 tw_116 rfl rfl (by decide +kernel) ⟨Nat.le_of_ble_eq_true rfl, Nat.le_of_ble_eq_true rfl⟩ ⟨Nat.zero_le _, Nat.zero_le _⟩ hP hD hS hl.1 rfl rfl (Nat.le_of_ble_eq_true rfl) dX3_choose_32 (fun H locs hP hD hS => ?_)
              refine cm_cV1 (q0 := qI) 1 C (k_X0_rowInUse l D cI cZ cJ _ hI hA z (hm1 s0 key) hz) tw_120 tw_121 tw_122 tw_2 tw_123 rfl rfl (hI) rfl (by decide +kernel) ⟨Nat.le_of_ble_eq_true rfl, Nat.le_of_ble_eq_true rfl⟩ ⟨Nat.zero_le _, Nat.zero_le _⟩ hP hD hS hl.1 rfl rfl (Nat.le_of_ble_eq_true rfl) dX3_choose_35 (fun H locs hP hD hS => ?_)
              refine lv_istore (lv' := [(6, _), (5, _), (0, _), (1, _), (2, _), (3, _), (4, _)]) C.1 C.2.1 dX3_choose_38 hl (by decide) rfl (fun ls hl => ?_)
              refine lv_aload_n C.1 C.2.1 dX3_choose_40 rfl (lv_at hl 3 rfl) ?_
              refine lv_iload_n C.1 C.2.1 dX3_choose_41 rfl (lv_at hl 4 rfl) ?_
              refine lv_iload_n C.1 C.2.1 dX3_choose_42 rfl (lv_at hl 5 rfl) ?_
              refine lv_iconst (v := nI 1) C.1 C.2.1 dX3_choose_43 (by decide +kernel) ?_
              refine cm_cS1 3 C (c_homeBy2 l D cI cZ cJ _ s0 key) tw_114 tw_115 tw_1 tw_116 rfl rfl (by decide +kernel) ⟨Nat.le_of_ble_eq_true rfl, Nat.le_of_ble_eq_true rfl⟩ ⟨Nat.zero_le _, Nat.zero_le _⟩ hP hD hS hl.1 rfl rfl (Nat.le_of_ble_eq_true rfl) dX3_choose_44 (fun H locs hP hD hS => ?_)
              refine cm_cV1 (q0 := qI) 1 C (k_X0_rowInUse l D cI cZ cJ _ hI hA z (hm2 s0 key) hz) tw_120 tw_121 tw_122 tw_2 tw_123 rfl rfl (hI) rfl (by decide +kernel) ⟨Nat.le_of_ble_eq_true rfl, Nat.le_of_ble_eq_true rfl⟩ ⟨Nat.zero_le _, Nat.zero_le _⟩ hP hD hS hl.1 rfl rfl (Nat.le_of_ble_eq_true rfl) dX3_choose_47 (fun H locs hP hD hS => ?_)
              refine lv_istore (lv' := [(7, _), (6, _), (5, _), (0, _), (1, _), (2, _), (3, _), (4, _)]) C.1 C.2.1 dX3_choose_50 hl (by decide) rfl (fun ls hl => ?_)
              refine lv_aload_n C.1 C.2.1 dX3_choose_52 rfl (lv_at hl 4 rfl) ?_
              refine lv_iload C.1 C.2.1 dX3_choose_53 (lv_at hl 1 rfl) ?_
              refine cm_cV1 (q0 := qI) 1 C (k_X0_leastEmpty l D cI cZ cJ _ hI hA (z * 9 + hm1 s0 key) (by omega)) tw_155 tw_156 tw_157 tw_2 tw_158 rfl rfl (hI) rfl (by decide +kernel) ⟨Nat.le_of_ble_eq_true rfl, Nat.le_of_ble_eq_true rfl⟩ ⟨Nat.zero_le _, Nat.zero_le _⟩ hP hD hS hl.1 rfl rfl (Nat.le_of_ble_eq_true rfl) dX3_choose_55 (fun H locs hP hD hS => ?_)
              rw [em_abs, e2, optA_none]
              refine lv_istore (lv' := [(8, _), (7, _), (6, _), (5, _), (0, _), (1, _), (2, _), (3, _), (4, _)]) C.1 C.2.1 dX3_choose_58 hl (by decide) rfl (fun ls hl => ?_)
              refine lv_iload C.1 C.2.1 dX3_choose_60 (lv_at hl 0 rfl) ?_
              refine lv_iconst (v := (-1)) C.1 C.2.1 dX3_choose_62 (by decide +kernel) ?_
              refine lv_icmp_ne (tgt := 74) C.1 C.2.1 dX3_choose_63 (by decide) (fun h => absurd (rfl) h) (fun _ => ?_)
              refine lv_aload_n C.1 C.2.1 dX3_choose_66 rfl (lv_at hl 5 rfl) ?_
              refine lv_iload C.1 C.2.1 dX3_choose_67 (lv_at hl 1 rfl) ?_
              refine cm_cV1 (q0 := qI) 1 C (k_X0_leastEmpty l D cI cZ cJ _ hI hA (z * 9 + hm2 s0 key) (by omega)) tw_155 tw_156 tw_157 tw_2 tw_158 rfl rfl (hI) rfl (by decide +kernel) ⟨Nat.le_of_ble_eq_true rfl, Nat.le_of_ble_eq_true rfl⟩ ⟨Nat.zero_le _, Nat.zero_le _⟩ hP hD hS hl.1 rfl rfl (Nat.le_of_ble_eq_true rfl) dX3_choose_69 (fun H locs hP hD hS => ?_)
              rw [em_abs, e3, optA_none]
              refine lv_istore (lv' := [(8, _), (7, _), (6, _), (5, _), (0, _), (1, _), (2, _), (3, _), (4, _)]) C.1 C.2.1 dX3_choose_72 hl (by decide) rfl (fun ls hl => ?_)
              refine lv_iload C.1 C.2.1 dX3_choose_74 (lv_at hl 0 rfl) ?_
              refine lv_iconst (v := (-1)) C.1 C.2.1 dX3_choose_76 (by decide +kernel) ?_
              refine lv_icmp_eq (tgt := 94) C.1 C.2.1 dX3_choose_77 (by decide) (fun _ => ?_) (fun h => absurd (rfl) h)
              refine lv_aload_n C.1 C.2.1 dX3_choose_94 rfl (lv_at hl 4 rfl) ?_
              refine lv_aload_n C.1 C.2.1 dX3_choose_95 rfl (lv_at hl 5 rfl) ?_
              refine lv_iload_n C.1 C.2.1 dX3_choose_96 rfl (lv_at hl 6 rfl) ?_
              refine lv_iload C.1 C.2.1 dX3_choose_97 (lv_at hl 2 rfl) ?_
              refine lv_iload_n C.1 C.2.1 dX3_choose_99 rfl (lv_at hl 7 rfl) ?_
              refine lv_iload C.1 C.2.1 dX3_choose_100 (lv_at hl 8 rfl) ?_
              refine cm_cV1 (q0 := qO) 5 C (k_X3_layPath l D cI cZ cJ _ hO hM hN hI hA hon hmn hin han z (hm1 s0 key) hz0 (by omega) s0 key val) tw_159 tw_161 ts_2 tw_1 tw_162 rfl rfl (hO) rfl (by decide +kernel) ⟨Nat.le_of_ble_eq_true rfl, Nat.le_of_ble_eq_true rfl⟩ ⟨Nat.zero_le _, Nat.zero_le _⟩ hP hD hS hl.1 rfl rfl (Nat.le_of_ble_eq_true rfl) dX3_choose_102 (fun H locs hP hD hS => ?_)
              rw [e4]
              refine lv_if_ne (tgt := 122) C.1 C.2.1 dX3_choose_105 (by decide) (fun h => absurd (by decide) h) (fun _ => ?_)
              refine lv_aload_n C.1 C.2.1 dX3_choose_108 rfl (lv_at hl 4 rfl) ?_
              refine lv_aload_n C.1 C.2.1 dX3_choose_109 rfl (lv_at hl 5 rfl) ?_
              refine lv_iload_n C.1 C.2.1 dX3_choose_110 rfl (lv_at hl 6 rfl) ?_
              refine lv_iload C.1 C.2.1 dX3_choose_111 (lv_at hl 1 rfl) ?_
              refine lv_iload_n C.1 C.2.1 dX3_choose_113 rfl (lv_at hl 7 rfl) ?_
              refine lv_iload C.1 C.2.1 dX3_choose_114 (lv_at hl 8 rfl) ?_
              refine cm_cV1 (q0 := qO) 5 C (k_X3_layPath l D cI cZ cJ _ (ws_ne hon hO) (ws_ne hmn hM) (ws_self hN) (ws_ne hin hI) (ws_ne han hA) hon hmn hin han z (hm2 s0 key) hz0 (by omega) s0 key val) tw_159 tw_161 ts_2 tw_1 tw_162 rfl rfl ((ws_ne hon hO)) rfl (by decide +kernel) ⟨Nat.le_of_ble_eq_true rfl, Nat.le_of_ble_eq_true rfl⟩ ⟨Nat.zero_le _, Nat.zero_le _⟩ hP hD hS hl.1 rfl rfl (Nat.le_of_ble_eq_true rfl) dX3_choose_116 (fun H locs hP hD hS => ?_)
              rw [e5]
              rw [List.set_set] at hP hD
              refine lv_if_eq (tgt := 124) C.1 C.2.1 dX3_choose_119 (by decide) (fun _ => ?_) (fun h => absurd (by decide) h)
              refine lv_aload_n C.1 C.2.1 dX3_choose_124 rfl (lv_at hl 5 rfl) ?_
              refine lv_aload_n C.1 C.2.1 dX3_choose_125 rfl (lv_at hl 5 rfl) ?_
              refine lv_bipush (v := nI 8) C.1 C.2.1 dX3_choose_126 (by decide +kernel) ?_
              refine cm_cV1 (q0 := qI) 1 C (k_X0_rowInUse l D cI cZ cJ _ (ws_ne hin hI) (ws_ne han hA) z (8) hz) tw_120 tw_121 tw_122 tw_2 tw_123 rfl rfl ((ws_ne hin hI)) rfl (by decide +kernel) ⟨Nat.le_of_ble_eq_true rfl, Nat.le_of_ble_eq_true rfl⟩ ⟨Nat.zero_le _, Nat.zero_le _⟩ hP hD hS hl.1 rfl rfl (Nat.le_of_ble_eq_true rfl) dX3_choose_128 (fun H locs hP hD hS => ?_)
              refine cm_cV1 (q0 := qI) 1 C (k_X0_leastEmpty l D cI cZ cJ _ (ws_ne hin hI) (ws_ne han hA) (z * 9 + 8) (by omega)) tw_155 tw_156 tw_157 tw_2 tw_158 rfl rfl ((ws_ne hin hI)) rfl (by decide +kernel) ⟨Nat.le_of_ble_eq_true rfl, Nat.le_of_ble_eq_true rfl⟩ ⟨Nat.zero_le _, Nat.zero_le _⟩ hP hD hS hl.1 rfl rfl (Nat.le_of_ble_eq_true rfl) dX3_choose_131 (fun H locs hP hD hS => ?_)
              rw [em_abs, e6, optA_some]
              refine lv_istore (lv' := [(8, _), (7, _), (6, _), (5, _), (0, _), (1, _), (2, _), (3, _), (4, _)]) C.1 C.2.1 dX3_choose_134 hl (by decide) rfl (fun ls hl => ?_)
              refine lv_iload C.1 C.2.1 dX3_choose_136 (lv_at hl 0 rfl) ?_
              refine lv_iconst (v := (-1)) C.1 C.2.1 dX3_choose_138 (by decide +kernel) ?_
              refine lv_icmp_eq (tgt := 156) C.1 C.2.1 dX3_choose_139 (by decide) (fun h => absurd h (nI_m1 (by omega))) (fun _ => ?_)
              refine lv_aload_n C.1 C.2.1 dX3_choose_142 rfl (lv_at hl 4 rfl) ?_
              refine va_get (ci := 3) (C := RX3) (T := TX3) (N := 10) C.1 C.2.1 C.2.2.2.2.2.1 ui_X3 C.2.2.2.2.1 C.2.2.2.2.2.2.2.1 hP qO (ws_ne hon hO) rfl 5 (by decide) (C.2.2.2.2.2.1 _ tw_66) (fun _ h9 => h9) rfl dX3_choose_143 ?_
              refine lv_iload C.1 C.2.1 dX3_choose_146 (lv_at hl 0 rfl) ?_
              refine lv_iload_n C.1 C.2.1 dX3_choose_148 rfl (lv_at hl 7 rfl) ?_
              refine lv_iload C.1 C.2.1 dX3_choose_149 (lv_at hl 8 rfl) ?_
              refine cm_cV0 (q0 := qM) 3 C (k_X1_tellOne l D cI cZ cJ _ (ws_ne hmn hM) (ws_self hN) hmn (nI (36 * z + p9)) key val) tw_135 tw_136 tw_137 tw_4 tw_138 rfl rfl ((ws_ne hmn hM)) rfl (by decide +kernel) ⟨Nat.le_of_ble_eq_true rfl, Nat.le_of_ble_eq_true rfl⟩ ⟨Nat.zero_le _, Nat.zero_le _⟩ hP hD hS hl.1 rfl rfl (Nat.le_of_ble_eq_true rfl) dX3_choose_151 (fun H locs hP hD hS => ?_)
              rw [List.set_set] at hP hD
              refine lv_iconst (v := nI 3) C.1 C.2.1 dX3_choose_154 (by decide +kernel) ?_
              exact cm_iret C hP hD hS dX3_choose_155 (by simp [chS, e1, e2, e3, e4, e5, e6]) (by simp [chS, e1, e2, e3, e4, e5, e6, encA])
            | none =>
              refine ⟨(upd (encA z (upd fm 0 (nI 0)) 0 (mvS (kR f z) (vR f z) key val (pathS (uR f z) (kR f z) s0 6 0 (hm1 s0 key) []).2)) 0 (nI 0)), pk_us, ?_⟩
              refine CM.of (by decide) (Nat.le_of_ble_eq_true rfl) ?_
              intro p e s m below meth c ls H locs C hl hP hD hS
              refine lv_aload_n C.1 C.2.1 dX3_choose_0 rfl (lv_at hl 1 rfl) ?_
              refine lv_iload_n C.1 C.2.1 dX3_choose_1 rfl (lv_at hl 2 rfl) ?_
              refine lv_iload_n C.1 C.2.1 dX3_choose_2 rfl (lv_at hl 3 rfl) ?_
              refine cm_cS1 3 C (k_X3_find l D cI cZ cJ _ hI hA z hz0 hz s0 key) tw_111 tw_112 tw_1 tw_113 rfl rfl (by decide +kernel) ⟨Nat.le_of_ble_eq_true rfl, Nat.le_of_ble_eq_true rfl⟩ ⟨Nat.zero_le _, Nat.zero_le _⟩ hP hD hS hl.1 rfl rfl (Nat.le_of_ble_eq_true rfl) dX3_choose_3 (fun H locs hP hD hS => ?_)
              rw [e1, optA_none]
              refine lv_istore (lv' := [(5, _), (0, _), (1, _), (2, _), (3, _), (4, _)]) C.1 C.2.1 dX3_choose_6 hl (by decide) rfl (fun ls hl => ?_)
              refine lv_iload C.1 C.2.1 dX3_choose_8 (lv_at hl 0 rfl) ?_
              refine lv_iconst (v := (-1)) C.1 C.2.1 dX3_choose_10 (by decide +kernel) ?_
              refine lv_icmp_eq (tgt := 28) C.1 C.2.1 dX3_choose_11 (by decide) (fun _ => ?_) (fun h => absurd (rfl) h)
              refine lv_aload_n C.1 C.2.1 dX3_choose_28 rfl (lv_at hl 2 rfl) ?_
              refine lv_iload_n C.1 C.2.1 dX3_choose_29 rfl (lv_at hl 3 rfl) ?_
              refine lv_iload_n C.1 C.2.1 dX3_choose_30 rfl (lv_at hl 4 rfl) ?_
              refine lv_iconst (v := nI 0) C.1 C.2.1 dX3_choose_31 (by decide +kernel) ?_
              refine cm_cS1 3 C (c_homeBy1 l D cI cZ cJ _ s0 key) tw_114 tw_115 tw_1 tw_116 rfl rfl (by decide +kernel) ⟨Nat.le_of_ble_eq_true rfl, Nat.le_of_ble_eq_true rfl⟩ ⟨Nat.zero_le _, Nat.zero_le _⟩ hP hD hS hl.1 rfl rfl (Nat.le_of_ble_eq_true rfl) dX3_choose_32 (fun H locs hP hD hS => ?_)
              refine cm_cV1 (q0 := qI) 1 C (k_X0_rowInUse l D cI cZ cJ _ hI hA z (hm1 s0 key) hz) tw_120 tw_121 tw_122 tw_2 tw_123 rfl rfl (hI) rfl (by decide +kernel) ⟨Nat.le_of_ble_eq_true rfl, Nat.le_of_ble_eq_true rfl⟩ ⟨Nat.zero_le _, Nat.zero_le _⟩ hP hD hS hl.1 rfl rfl (Nat.le_of_ble_eq_true rfl) dX3_choose_35 (fun H locs hP hD hS => ?_)
              refine lv_istore (lv' := [(6, _), (5, _), (0, _), (1, _), (2, _), (3, _), (4, _)]) C.1 C.2.1 dX3_choose_38 hl (by decide) rfl (fun ls hl => ?_)
              refine lv_aload_n C.1 C.2.1 dX3_choose_40 rfl (lv_at hl 3 rfl) ?_
              refine lv_iload_n C.1 C.2.1 dX3_choose_41 rfl (lv_at hl 4 rfl) ?_
              refine lv_iload_n C.1 C.2.1 dX3_choose_42 rfl (lv_at hl 5 rfl) ?_
              refine lv_iconst (v := nI 1) C.1 C.2.1 dX3_choose_43 (by decide +kernel) ?_
              refine cm_cS1 3 C (c_homeBy2 l D cI cZ cJ _ s0 key) tw_114 tw_115 tw_1 tw_116 rfl rfl (by decide +kernel) ⟨Nat.le_of_ble_eq_true rfl, Nat.le_of_ble_eq_true rfl⟩ ⟨Nat.zero_le _, Nat.zero_le _⟩ hP hD hS hl.1 rfl rfl (Nat.le_of_ble_eq_true rfl) dX3_choose_44 (fun H locs hP hD hS => ?_)
              refine cm_cV1 (q0 := qI) 1 C (k_X0_rowInUse l D cI cZ cJ _ hI hA z (hm2 s0 key) hz) tw_120 tw_121 tw_122 tw_2 tw_123 rfl rfl (hI) rfl (by decide +kernel) ⟨Nat.le_of_ble_eq_true rfl, Nat.le_of_ble_eq_true rfl⟩ ⟨Nat.zero_le _, Nat.zero_le _⟩ hP hD hS hl.1 rfl rfl (Nat.le_of_ble_eq_true rfl) dX3_choose_47 (fun H locs hP hD hS => ?_)
              refine lv_istore (lv' := [(7, _), (6, _), (5, _), (0, _), (1, _), (2, _), (3, _), (4, _)]) C.1 C.2.1 dX3_choose_50 hl (by decide) rfl (fun ls hl => ?_)
              refine lv_aload_n C.1 C.2.1 dX3_choose_52 rfl (lv_at hl 4 rfl) ?_
              refine lv_iload C.1 C.2.1 dX3_choose_53 (lv_at hl 1 rfl) ?_
              refine cm_cV1 (q0 := qI) 1 C (k_X0_leastEmpty l D cI cZ cJ _ hI hA (z * 9 + hm1 s0 key) (by omega)) tw_155 tw_156 tw_157 tw_2 tw_158 rfl rfl (hI) rfl (by decide +kernel) ⟨Nat.le_of_ble_eq_true rfl, Nat.le_of_ble_eq_true rfl⟩ ⟨Nat.zero_le _, Nat.zero_le _⟩ hP hD hS hl.1 rfl rfl (Nat.le_of_ble_eq_true rfl) dX3_choose_55 (fun H locs hP hD hS => ?_)
              rw [em_abs, e2, optA_none]
              refine lv_istore (lv' := [(8, _), (7, _), (6, _), (5, _), (0, _), (1, _), (2, _), (3, _), (4, _)]) C.1 C.2.1 dX3_choose_58 hl (by decide) rfl (fun ls hl => ?_)
              refine lv_iload C.1 C.2.1 dX3_choose_60 (lv_at hl 0 rfl) ?_
              refine lv_iconst (v := (-1)) C.1 C.2.1 dX3_choose_62 (by decide +kernel) ?_
              refine lv_icmp_ne (tgt := 74) C.1 C.2.1 dX3_choose_63 (by decide) (fun h => absurd (rfl) h) (fun _ => ?_)
              refine lv_aload_n C.1 C.2.1 dX3_choose_66 rfl (lv_at hl 5 rfl) ?_
              refine lv_iload C.1 C.2.1 dX3_choose_67 (lv_at hl 1 rfl) ?_
              refine cm_cV1 (q0 := qI) 1 C (k_X0_leastEmpty l D cI cZ cJ _ hI hA (z * 9 + hm2 s0 key) (by omega)) tw_155 tw_156 tw_157 tw_2 tw_158 rfl rfl (hI) rfl (by decide +kernel) ⟨Nat.le_of_ble_eq_true rfl, Nat.le_of_ble_eq_true rfl⟩ ⟨Nat.zero_le _, Nat.zero_le _⟩ hP hD hS hl.1 rfl rfl (Nat.le_of_ble_eq_true rfl) dX3_choose_69 (fun H locs hP hD hS => ?_)
              rw [em_abs, e3, optA_none]
              refine lv_istore (lv' := [(8, _), (7, _), (6, _), (5, _), (0, _), (1, _), (2, _), (3, _), (4, _)]) C.1 C.2.1 dX3_choose_72 hl (by decide) rfl (fun ls hl => ?_)
              refine lv_iload C.1 C.2.1 dX3_choose_74 (lv_at hl 0 rfl) ?_
              refine lv_iconst (v := (-1)) C.1 C.2.1 dX3_choose_76 (by decide +kernel) ?_
              refine lv_icmp_eq (tgt := 94) C.1 C.2.1 dX3_choose_77 (by decide) (fun _ => ?_) (fun h => absurd (rfl) h)
              refine lv_aload_n C.1 C.2.1 dX3_choose_94 rfl (lv_at hl 4 rfl) ?_
              refine lv_aload_n C.1 C.2.1 dX3_choose_95 rfl (lv_at hl 5 rfl) ?_
              refine lv_iload_n C.1 C.2.1 dX3_choose_96 rfl (lv_at hl 6 rfl) ?_
              refine lv_iload C.1 C.2.1 dX3_choose_97 (lv_at hl 2 rfl) ?_
              refine lv_iload_n C.1 C.2.1 dX3_choose_99 rfl (lv_at hl 7 rfl) ?_
              refine lv_iload C.1 C.2.1 dX3_choose_100 (lv_at hl 8 rfl) ?_
              refine cm_cV1 (q0 := qO) 5 C (k_X3_layPath l D cI cZ cJ _ hO hM hN hI hA hon hmn hin han z (hm1 s0 key) hz0 (by omega) s0 key val) tw_159 tw_161 ts_2 tw_1 tw_162 rfl rfl (hO) rfl (by decide +kernel) ⟨Nat.le_of_ble_eq_true rfl, Nat.le_of_ble_eq_true rfl⟩ ⟨Nat.zero_le _, Nat.zero_le _⟩ hP hD hS hl.1 rfl rfl (Nat.le_of_ble_eq_true rfl) dX3_choose_102 (fun H locs hP hD hS => ?_)
              rw [e4]
              refine lv_if_ne (tgt := 122) C.1 C.2.1 dX3_choose_105 (by decide) (fun h => absurd (by decide) h) (fun _ => ?_)
              refine lv_aload_n C.1 C.2.1 dX3_choose_108 rfl (lv_at hl 4 rfl) ?_
              refine lv_aload_n C.1 C.2.1 dX3_choose_109 rfl (lv_at hl 5 rfl) ?_
              refine lv_iload_n C.1 C.2.1 dX3_choose_110 rfl (lv_at hl 6 rfl) ?_
              refine lv_iload C.1 C.2.1 dX3_choose_111 (lv_at hl 1 rfl) ?_
              refine lv_iload_n C.1 C.2.1 dX3_choose_113 rfl (lv_at hl 7 rfl) ?_
              refine lv_iload C.1 C.2.1 dX3_choose_114 (lv_at hl 8 rfl) ?_
              refine cm_cV1 (q0 := qO) 5 C (k_X3_layPath l D cI cZ cJ _ (ws_ne hon hO) (ws_ne hmn hM) (ws_self hN) (ws_ne hin hI) (ws_ne han hA) hon hmn hin han z (hm2 s0 key) hz0 (by omega) s0 key val) tw_159 tw_161 ts_2 tw_1 tw_162 rfl rfl ((ws_ne hon hO)) rfl (by decide +kernel) ⟨Nat.le_of_ble_eq_true rfl, Nat.le_of_ble_eq_true rfl⟩ ⟨Nat.zero_le _, Nat.zero_le _⟩ hP hD hS hl.1 rfl rfl (Nat.le_of_ble_eq_true rfl) dX3_choose_116 (fun H locs hP hD hS => ?_)
              rw [e5]
              rw [List.set_set] at hP hD
              refine lv_if_eq (tgt := 124) C.1 C.2.1 dX3_choose_119 (by decide) (fun _ => ?_) (fun h => absurd (by decide) h)
              refine lv_aload_n C.1 C.2.1 dX3_choose_124 rfl (lv_at hl 5 rfl) ?_
              refine lv_aload_n C.1 C.2.1 dX3_choose_125 rfl (lv_at hl 5 rfl) ?_
              refine lv_bipush (v := nI 8) C.1 C.2.1 dX3_choose_126 (by decide +kernel) ?_
              refine cm_cV1 (q0 := qI) 1 C (k_X0_rowInUse l D cI cZ cJ _ (ws_ne hin hI) (ws_ne han hA) z (8) hz) tw_120 tw_121 tw_122 tw_2 tw_123 rfl rfl ((ws_ne hin hI)) rfl (by decide +kernel) ⟨Nat.le_of_ble_eq_true rfl, Nat.le_of_ble_eq_true rfl⟩ ⟨Nat.zero_le _, Nat.zero_le _⟩ hP hD hS hl.1 rfl rfl (Nat.le_of_ble_eq_true rfl) dX3_choose_128 (fun H locs hP hD hS => ?_)
              refine cm_cV1 (q0 := qI) 1 C (k_X0_leastEmpty l D cI cZ cJ _ (ws_ne hin hI) (ws_ne han hA) (z * 9 + 8) (by omega)) tw_155 tw_156 tw_157 tw_2 tw_158 rfl rfl ((ws_ne hin hI)) rfl (by decide +kernel) ⟨Nat.le_of_ble_eq_true rfl, Nat.le_of_ble_eq_true rfl⟩ ⟨Nat.zero_le _, Nat.zero_le _⟩ hP hD hS hl.1 rfl rfl (Nat.le_of_ble_eq_true rfl) dX3_choose_131 (fun H locs hP hD hS => ?_)
              rw [em_abs, e6, optA_none]
              refine lv_istore (lv' := [(8, _), (7, _), (6, _), (5, _), (0, _), (1, _), (2, _), (3, _), (4, _)]) C.1 C.2.1 dX3_choose_134 hl (by decide) rfl (fun ls hl => ?_)
              refine lv_iload C.1 C.2.1 dX3_choose_136 (lv_at hl 0 rfl) ?_
              refine lv_iconst (v := (-1)) C.1 C.2.1 dX3_choose_138 (by decide +kernel) ?_
              refine lv_icmp_eq (tgt := 156) C.1 C.2.1 dX3_choose_139 (by decide) (fun _ => ?_) (fun h => absurd (rfl) h)
              refine lv_bipush (v := (-2)) C.1 C.2.1 dX3_choose_156 (by decide +kernel) ?_
              exact cm_iret C hP hD hS dX3_choose_158 (by simp [chS, e1, e2, e3, e4, e5, e6]) (by simp [chS, e1, e2, e3, e4, e5, e6, encA])
