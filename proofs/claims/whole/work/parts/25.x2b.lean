set_option maxRecDepth 100000 in
set_option maxHeartbeats 4000000 in
theorem c_tableAt (g : jG) (w : jW) {z n b k : Nat} (hz : z < NW) (hw : w z = xrow g n b) (hk : k < n) (hn : n < 1000)  : ConR g 0 yX2_tableAt cX2_tableAt 2 (some (.object "TwinPatience$Table")) [.ref (gr g z), .int (nI k)] (w) (fun x w' => x = .ref (gr g (b + 6 * k)) ∧ w' = w) := by
  refine con_of (by decide +kernel) (Nat.le_of_ble_eq_true rfl) [(0, _), (1, _)] rfl (fun K h => ?_)
  refine j_iload_n h (q := 1) 1 dX2_tableAt_0 rfl rfl ?_
  refine j_if_lt h (tgt := 16) (q := 4) dX2_tableAt_1 rfl (by decide) (fun c_1 => ?_) (fun c_1 => ?_)
  · exact absurd c_1 (nI_pos (by omega))
  refine j_iload_n h (q := 5) 1 dX2_tableAt_4 rfl rfl ?_
  refine j_aload_n h (q := 6) 0 dX2_tableAt_5 rfl rfl ?_
  refine j_alen h (q := 7) 2 (nI n) hz hw rfl rfl dX2_tableAt_6 rfl ?_
  refine j_icmp_ge h (tgt := 16) (q := 10) dX2_tableAt_7 rfl (by decide) (fun c_7 => ?_) (fun c_7 => ?_)
  · exact absurd c_7 (by rw [nI_leS (by omega) (by omega)]; omega)
  refine j_aload_n h (q := 11) 0 dX2_tableAt_10 rfl rfl ?_
  refine j_iload_n h (q := 12) 1 dX2_tableAt_11 rfl rfl ?_
  refine j_aald h (q := 13) hz hw (vp_in_nI hk (by omega)) dX2_tableAt_12 rfl ?_
  rw [nI_clamp (by omega)]
  refine j_goto h (tgt := 17) dX2_tableAt_13 (by decide) ?_
  refine j_aret h rfl (Or.inr ⟨_, rfl⟩) dX2_tableAt_17 ?_
  exact ⟨_, rfl, rfl, rfl⟩

set_option maxRecDepth 100000 in
set_option maxHeartbeats 4000000 in
theorem c_remember (g : jG) (w : jW) (X : Xs) (σ : Sg) (S : SI σ) (R : XR X σ)  : ConV g 3 yX2_remember cX2_remember 1 none [.ref (gr g 0)] (xw g w X) (fun w' => ∃ X', w' = xw g w X' ∧ XR X' (recG σ (zg σ)) ∧ X'.1 = X.1 ∧ Xsl X' = Xsl X) := by
  refine con_of (by decide +kernel) (Nat.le_of_ble_eq_true rfl) [(0, _)] rfl (fun K h => ?_)
  refine j_aload_n h (q := 1) 0 dX2_remember_0 rfl rfl ?_
  refine j_get h (q := 4) inX2 (C := RX2) (T := TX2) (N := 9) (ci := 2) rfl 0 (by decide) mF_X2_10 (by decide) (xw_0 _ _ _) rfl dX2_remember_1 rfl ?_
  refine j_aload_n h (q := 5) 0 dX2_remember_4 rfl rfl ?_
  refine j_get h (q := 8) inX2 (C := RX2) (T := TX2) (N := 9) (ci := 2) rfl 2 (by decide) mF_X2_19 (by decide) (xw_0 _ _ _) rfl dX2_remember_5 rfl ?_
  refine j_aload_n h (q := 9) 0 dX2_remember_8 rfl rfl ?_
  refine j_get h (q := 12) inX2 (C := RX2) (T := TX2) (N := 9) (ci := 2) rfl 7 (by decide) mF_X2_41 (by decide) (xw_0 _ _ _) rfl dX2_remember_9 rfl ?_
  obtain ⟨r1, r2, ⟨np, hnp, r3, r4⟩, r5, r6, r7⟩ := R
  rw [r3]
  refine j_cS h (q := 15) mo_X2_tableAt mS_X2_tableAt mL_X2_190 (c_tableAt g _ (z := 2) (n := 6) (b := 19) (k := np) (by decide) (xw_2 _ _ _) hnp (by decide)) (by decide) rfl rfl (Nat.le_of_ble_eq_true rfl) dX2_remember_12 rfl ?_
  rintro _ w12 ⟨x12, rfl, e⟩
  obtain ⟨rfl, rfl⟩ := e
  rw [show 19 + 6 * np = 7 + 6 * (2 + np) by omega, xw_2t g w X (i := 0) (j := 2 + np) (by decide) (by omega)]
  refine j_cS h (q := 18) mo_X2_copyTable mS_X2_copyTable mL_X2_170 (c_copyTable g _ (t := 7 + 6 * 0) (u := 7 + 6 * (2 + np)) (by decide) (nw6 (by omega)) (by omega) _ _ (R_ov r1)) (by decide) rfl rfl (Nat.le_of_ble_eq_true rfl) dX2_remember_15 rfl ?_
  rintro _ w15 ⟨rfl, e⟩
  obtain ⟨U, rfl, hcp⟩ := e
  have hX : yTab (yTab X (2 + np) U) 0 (xtab X (7 + 6 * 0)) = yPa X (fun j => if j = np then U else Xpa X j) := by
    unfold yTab
    rw [if_pos rfl, if_neg (by omega), if_neg (by omega), if_pos (by omega), show 2 + np - 2 = np by omega]
    rfl
  rw [xw_2u g w X (by decide) (by omega), hX]
  refine j_aload_n h (q := 19) 0 dX2_remember_18 rfl rfl ?_
  refine j_aload_n h (q := 20) 0 dX2_remember_19 rfl rfl ?_
  refine j_get h (q := 23) inX2 (C := RX2) (T := TX2) (N := 9) (ci := 2) rfl 7 (by decide) mF_X2_41 (by decide) (xw_0 _ _ _) rfl dX2_remember_20 rfl ?_
  refine j_iconst h (q := 24) (1) dX2_remember_23 rfl (by decide) ?_
  refine j_iadd h (q := 25) dX2_remember_24 rfl ?_
  refine j_bipush h (q := 27) (6) dX2_remember_25 rfl (by decide) ?_
  refine j_cS h (q := 30) mo_J9_floorMod_7cf53 mS_J9_floorMod_7cf53 mL_X2_185 (c_J9_floorMod_7cf53 g _ _ _ (by decide)) (by decide) rfl rfl (Nat.le_of_ble_eq_true rfl) dX2_remember_27 rfl ?_
  rintro _ w27 ⟨x27, rfl, e⟩
  obtain ⟨e1, rfl⟩ := e
  have e2 : x27 = nI ((np + 1) % 6) := e1.trans (by show fmj (Xnp X + 1) 6 = _; rw [r3, nI_1]; exact fm_up np hnp)
  rw [e2]
  refine j_put h (q := 33) inX2 (C := RX2) (T := TX2) (N := 9) (ci := 2) rfl tyX2_ok nmX2 7 (by decide) mF_X2_41 rfl rfl rfl (by first | rfl | decide) (by decide) (xw_0 _ _ _) (Nat.le_of_ble_eq_true rfl) dX2_remember_30 rfl ?_
  refine j_stk rfl xw_u0 ?_
  refine j_aload_n h (q := 34) 0 dX2_remember_33 rfl rfl ?_
  refine j_aload_n h (q := 35) 0 dX2_remember_34 rfl rfl ?_
  refine j_get h (q := 38) inX2 (C := RX2) (T := TX2) (N := 9) (ci := 2) rfl 8 (by decide) mF_X2_45 (by decide) (xw_0 _ _ _) rfl dX2_remember_35 rfl ?_
  refine j_iconst h (q := 39) (1) dX2_remember_38 rfl (by decide) ?_
  refine j_iadd h (q := 40) dX2_remember_39 rfl ?_
  refine j_bipush h (q := 42) (6) dX2_remember_40 rfl (by decide) ?_
  refine j_cS h (q := 45) mo_J9_min_7cf53 mS_J9_min_7cf53 mL_X2_194 (c_J9_min_7cf53 g _ _ _) (by decide) rfl rfl (Nat.le_of_ble_eq_true rfl) dX2_remember_42 rfl ?_
  rintro _ w42 ⟨x42, rfl, e⟩
  obtain ⟨e3, rfl⟩ := e
  have e4 : x42 = nI (min (zn σ + 1) 6) := e3.trans (by show (if (6 : Int32) < Xud X + 1 then 6 else Xud X + 1) = _; rw [r2, nI_1]; exact min_i (by have := S.2.1; omega))
  rw [e4]
  refine j_put h (q := 48) inX2 (C := RX2) (T := TX2) (N := 9) (ci := 2) rfl tyX2_ok nmX2 8 (by decide) mF_X2_45 rfl rfl rfl (by first | rfl | decide) (by decide) (xw_0 _ _ _) (Nat.le_of_ble_eq_true rfl) dX2_remember_45 rfl ?_
  refine j_stk rfl xw_u0 ?_
  refine j_vret h rfl dX2_remember_48 ?_
  refine ⟨rfl, _, rfl, ⟨r1, rfl, ⟨(np + 1) % 6, by omega, rfl, fun i hi => ?_⟩, r5, r6, r7⟩, rfl, rfl⟩
  show TR (if ((np + 1) % 6 + 5 - i) % 6 = np then U else Xpa X (((np + 1) % 6 + 5 - i) % 6)) (if i = 0 then zg σ else zh σ (i - 1))
  have hi2 : i < min (zn σ + 1) 6 := hi
  by_cases z : i = 0
  · rw [if_pos z, if_pos (by omega)]
    exact CPY_TR hcp r1 S.1
  · rw [if_neg z, if_neg (by omega), show ((np + 1) % 6 + 5 - i) % 6 = (np + 5 - (i - 1)) % 6 by omega]
    exact r4 (i - 1) (by omega)

theorem lt_most {p b : Nat} (hp : p ≤ 3) (hb : b ≤ 4) : nI p ≤ nI b - 1 ↔ ¬ b ≤ p := by
  have key : ∀ p, p < 4 → ∀ b, b < 5 → (nI p ≤ nI b - 1 ↔ ¬ b ≤ p) := by decide +kernel
  exact key p (by omega) b (by omega)
theorem LM_len {γ : Gm} (G : GI γ) : (LM γ 308).length < 1000 := by have := list_170 G; omega

set_option maxRecDepth 100000 in
set_option maxHeartbeats 4000000 in
theorem lp_best (g : jG) (w : jW) (X : Xs) {K : jK} {Φ : Option Value → jW → Prop} (h : jH g K RX2 cX2_indexOfBest 7 (some (.int))) {i : Nat} (hi : i < 2) (γ : Gm) (R : TR (xtab X (7 + 6 * i)) γ) (G : GI γ) (f : Nat → Int32) (hf : LF γ 308 f) (k : J g 4 K 7 Φ 74 [(5, .int (nI ((LM γ 308).length))), (4, .int (nI (BL γ ((LM γ 308).take ((LM γ 308).length))).2.2 - 1)), (3, .int (bI (BL γ ((LM γ 308).take ((LM γ 308).length))).2.1)), (2, .int (nI (LM γ 308).length)), (0, .ref (gr g 0)), (1, .ref (gr g (7 + 6 * i)))] [] (xw g w (yMv X f))) : ∀ n j, j + n = (LM γ 308).length → J g 4 K 7 Φ 18 [(5, .int (nI (j))), (4, .int (nI (BL γ ((LM γ 308).take (j))).2.2 - 1)), (3, .int (bI (BL γ ((LM γ 308).take (j))).2.1)), (2, .int (nI (LM γ 308).length)), (0, .ref (gr g 0)), (1, .ref (gr g (7 + 6 * i)))] [] (xw g w (yMv X f)) := by
  have hlen := list_170 G
  intro n
  induction n with
  | zero =>
    intro j hj
    have hjN : j = (LM γ 308).length := by omega
    subst hjN
    refine j_iload h (q := 20) 0 dX2_indexOfBest_18 rfl rfl ?_
    refine j_iload_n h (q := 21) 3 dX2_indexOfBest_20 rfl rfl ?_
    refine j_icmp_ge h (tgt := 74) (q := 24) dX2_indexOfBest_21 rfl (by decide) (fun c_21 => ?_) (fun c_21 => ?_)
    rotate_left
    · exact absurd (Int32.le_refl _) c_21
    exact k
  | succ n ih =>
    intro j hj
    have hjl : j < (LM γ 308).length := by omega
    have hj170 : j < 170 := by omega
    have hm308 := LM_lt hjl
    have hb := BL_ok γ (LM γ 308) j (by omega)
    have hb4 := hb.2.1
    have hb1 := hb.1
    have hp3 := ptM_le γ (LM γ 308)[j]
    refine j_iload h (q := 20) 0 dX2_indexOfBest_18 rfl rfl ?_
    refine j_iload_n h (q := 21) 3 dX2_indexOfBest_20 rfl rfl ?_
    refine j_icmp_ge h (tgt := 74) (q := 24) dX2_indexOfBest_21 rfl (by decide) (fun c_21 => ?_) (fun c_21 => ?_)
    · exact absurd c_21 (by rw [nI_leS (by omega) (by omega)]; omega)
    refine j_aload_n h (q := 25) 5 dX2_indexOfBest_24 rfl rfl ?_
    refine j_aload_n h (q := 26) 4 dX2_indexOfBest_25 rfl rfl ?_
    refine j_get h (q := 29) inX2 (C := RX2) (T := TX2) (N := 9) (ci := 2) rfl 6 (by decide) mF_X2_37 (by decide) (xw_0 _ _ _) rfl dX2_indexOfBest_26 rfl ?_
    refine j_iload h (q := 31) 0 dX2_indexOfBest_29 rfl rfl ?_
    refine j_cS h (q := 34) mo_X2_at mS_X2_at mL_X2_125 (c_X2_at g _ (z := 1) (n := 170) (f := f) (by decide) (xw_1 _ _ _) (by decide) _) (by decide) rfl rfl (Nat.le_of_ble_eq_true rfl) dX2_indexOfBest_31 rfl ?_
    rintro _ w31 ⟨x31, rfl, e⟩
    obtain ⟨rfl, rfl⟩ := e
    rw [ati_n hj170 (by decide), hf j hjl]
    refine j_cS h (q := 37) mo_X2_fromOf mS_X2_fromOf mL_X2_157 (c_X2_fromOf g _ _) (by decide) rfl rfl (Nat.le_of_ble_eq_true rfl) dX2_indexOfBest_34 rfl ?_
    rintro _ w34 ⟨x34, rfl, e⟩
    obtain ⟨rfl, rfl⟩ := e
    rw [show (22 : Int32) = nI 22 from rfl, pk_div (by omega) (by decide) (by decide)]
    refine j_aload_n h (q := 38) 4 dX2_indexOfBest_37 rfl rfl ?_
    refine j_get h (q := 41) inX2 (C := RX2) (T := TX2) (N := 9) (ci := 2) rfl 6 (by decide) mF_X2_37 (by decide) (xw_0 _ _ _) rfl dX2_indexOfBest_38 rfl ?_
    refine j_iload h (q := 43) 0 dX2_indexOfBest_41 rfl rfl ?_
    refine j_cS h (q := 46) mo_X2_at mS_X2_at mL_X2_125 (c_X2_at g _ (z := 1) (n := 170) (f := f) (by decide) (xw_1 _ _ _) (by decide) _) (by decide) rfl rfl (Nat.le_of_ble_eq_true rfl) dX2_indexOfBest_43 rfl ?_
    rintro _ w43 ⟨x43, rfl, e⟩
    obtain ⟨rfl, rfl⟩ := e
    rw [ati_n hj170 (by decide), hf j hjl]
    refine j_cS h (q := 49) mo_X2_toOf mS_X2_toOf mL_X2_160 (c_X2_toOf g _ _) (by decide) rfl rfl (Nat.le_of_ble_eq_true rfl) dX2_indexOfBest_46 rfl ?_
    rintro _ w46 ⟨x46, rfl, e⟩
    obtain ⟨rfl, rfl⟩ := e
    rw [show (22 : Int32) = nI 22 from rfl, pk_rem (by omega) (by decide) (by decide)]
    refine j_cV h (q := 52) (C := RX1) (T := TX1) (N := 9) (ci := 1) mo_X1_pointsFor mI_X1_pointsFor mV_X1_pointsFor mL_X2_163 (xw_con (i := i) (by omega) (c_pointsFor g _ _ (nw6 (by omega)) (xtab (yMv X f) (7 + 6 * i)) γ R G rfl rfl (by omega) (by omega))) (by decide) (nwz (by omega)) (xw_r g _ _ (by omega)) rfl rfl rfl (Nat.le_of_ble_eq_true rfl) dX2_indexOfBest_49 rfl ?_
    rintro _ w49 ⟨x49, rfl, e⟩
    obtain ⟨rfl, rfl⟩ := e
    rw [xw_tab g w _ (show i < 10 by omega), show ptsG γ ((LM γ 308)[j] / 22) ((LM γ 308)[j] % 22) = ptM γ (LM γ 308)[j] from rfl]
    refine j_istore h (q := 54) (loc' := [(6, _), (5, _), (4, _), (3, _), (2, _), (0, _), (1, _)]) dX2_indexOfBest_52 rfl (by decide) rfl ?_
    refine j_iload h (q := 56) 0 dX2_indexOfBest_54 rfl rfl ?_
    refine j_iload h (q := 58) 2 dX2_indexOfBest_56 rfl rfl ?_
    refine j_icmp_le h (tgt := 68) (q := 61) dX2_indexOfBest_58 rfl (by decide) (fun c_58 => ?_) (fun c_58 => ?_)
    · rw [lt_most hp3 hb4] at c_58
      refine j_iinc h (q := 71) (loc' := [(5, _), (6, _), (4, _), (3, _), (2, _), (0, _), (1, _)]) 1 _ dX2_indexOfBest_68 rfl rfl rfl (by decide) rfl ?_
      refine j_goto h (tgt := 18) dX2_indexOfBest_71 (by decide) ?_
      rw [show nI j + Int32.ofInt 1 = nI (j + 1) from nI_1 j]
      have e9 : BL γ ((LM γ 308).take (j + 1)) = bstep γ (BL γ ((LM γ 308).take j)) (LM γ 308)[j] := by rw [List.take_succ_eq_append_getElem hjl, BL_s]
      have a := ih (j + 1) (by omega)
      first
        | (have e10 : bstep γ (BL γ ((LM γ 308).take j)) (LM γ 308)[j] = ((BL γ ((LM γ 308).take j)).1 + 1, (BL γ ((LM γ 308).take j)).2) := if_neg c_58
           rw [e9, e10] at a
           exact j_sub [0, 2, 3, 4, 5, 6] rfl a)
        | (have e10 : bstep γ (BL γ ((LM γ 308).take j)) (LM γ 308)[j] = ((BL γ ((LM γ 308).take j)).1 + 1, some ((BL γ ((LM γ 308).take j)).1, (LM γ 308)[j]), ptM γ (LM γ 308)[j] + 1) := if_pos (Classical.not_not.mp c_58)
           rw [e9, e10, hb1] at a
           have e11 : nI (ptM γ (LM γ 308)[j] + 1) - 1 = nI (ptM γ (LM γ 308)[j]) := nI_pred _
           simp only [e11] at a
           exact j_sub [0, 2, 3, 4, 5, 6] rfl a)
    · rw [lt_most hp3 hb4] at c_58
      refine j_iload h (q := 63) 1 dX2_indexOfBest_61 rfl rfl ?_
      refine j_istore_n h (q := 64) (loc' := [(3, _), (6, _), (5, _), (4, _), (2, _), (0, _), (1, _)]) dX2_indexOfBest_63 rfl (by decide) rfl ?_
      refine j_iload h (q := 66) 1 dX2_indexOfBest_64 rfl rfl ?_
      refine j_istore h (q := 68) (loc' := [(4, _), (3, _), (6, _), (5, _), (2, _), (0, _), (1, _)]) dX2_indexOfBest_66 rfl (by decide) rfl ?_
      refine j_iinc h (q := 71) (loc' := [(5, _), (4, _), (3, _), (6, _), (2, _), (0, _), (1, _)]) 3 _ dX2_indexOfBest_68 rfl rfl rfl (by decide) rfl ?_
      refine j_goto h (tgt := 18) dX2_indexOfBest_71 (by decide) ?_
      rw [show nI j + Int32.ofInt 1 = nI (j + 1) from nI_1 j]
      have e9 : BL γ ((LM γ 308).take (j + 1)) = bstep γ (BL γ ((LM γ 308).take j)) (LM γ 308)[j] := by rw [List.take_succ_eq_append_getElem hjl, BL_s]
      have a := ih (j + 1) (by omega)
      first
        | (have e10 : bstep γ (BL γ ((LM γ 308).take j)) (LM γ 308)[j] = ((BL γ ((LM γ 308).take j)).1 + 1, (BL γ ((LM γ 308).take j)).2) := if_neg c_58
           rw [e9, e10] at a
           exact j_sub [0, 1, 2, 4, 5, 6] rfl a)
        | (have e10 : bstep γ (BL γ ((LM γ 308).take j)) (LM γ 308)[j] = ((BL γ ((LM γ 308).take j)).1 + 1, some ((BL γ ((LM γ 308).take j)).1, (LM γ 308)[j]), ptM γ (LM γ 308)[j] + 1) := if_pos (Classical.not_not.mp c_58)
           rw [e9, e10, hb1] at a
           have e11 : nI (ptM γ (LM γ 308)[j] + 1) - 1 = nI (ptM γ (LM γ 308)[j]) := nI_pred _
           simp only [e11] at a
           exact j_sub [0, 1, 2, 4, 5, 6] rfl a)

set_option maxRecDepth 100000 in
set_option maxHeartbeats 4000000 in
theorem c_indexOfBest (g : jG) (w : jW) (X : Xs) {i : Nat} (hi : i < 2) (γ : Gm) (R : TR (xtab X (7 + 6 * i)) γ) (G : GI γ)  : ConI g 4 yX2_indexOfBest cX2_indexOfBest 7 (some (.int)) [.ref (gr g 0), .ref (gr g (7 + 6 * i))] (xw g w X) (fun x w' => x = bestI γ ∧ ∃ f, w' = xw g w (yMv X f) ∧ LF γ 308 f) := by
  refine con_of (by decide +kernel) (Nat.le_of_ble_eq_true rfl) [(0, _), (1, _)] rfl (fun K h => ?_)
  refine j_aload_n h (q := 1) 1 dX2_indexOfBest_0 rfl rfl ?_
  refine j_aload_n h (q := 2) 0 dX2_indexOfBest_1 rfl rfl ?_
  refine j_get h (q := 5) inX2 (C := RX2) (T := TX2) (N := 9) (ci := 2) rfl 6 (by decide) mF_X2_37 (by decide) (xw_0 _ _ _) rfl dX2_indexOfBest_2 rfl ?_
  refine j_cV h (q := 8) (C := RX1) (T := TX1) (N := 9) (ci := 1) mo_X1_listMoves mI_X1_listMoves mV_X1_listMoves mL_X2_150 (xw_con (i := i) (by omega) (c_listMoves g _ _ (nw6 (by omega)) _ γ R G (z := 1) (by decide) (by omega) (f := Xmv X) (xw_1 _ _ _))) (by decide) (nwz (by omega)) (xw_r g _ _ (by omega)) rfl rfl rfl (Nat.le_of_ble_eq_true rfl) dX2_indexOfBest_5 rfl ?_
  rintro _ w5 ⟨x5, rfl, e⟩
  obtain ⟨rfl, f, rfl, hf⟩ := e
  rw [xw_u1, show xtab X (7 + 6 * i) = xtab (yMv X f) (7 + 6 * i) from rfl, xw_tab g w _ (show i < 10 by omega)]
  refine j_istore_n h (q := 9) (loc' := [(2, _), (0, _), (1, _)]) dX2_indexOfBest_8 rfl (by decide) rfl ?_
  refine j_bipush h (q := 11) (-6) dX2_indexOfBest_9 rfl (by decide) ?_
  refine j_istore_n h (q := 12) (loc' := [(3, _), (2, _), (0, _), (1, _)]) dX2_indexOfBest_11 rfl (by decide) rfl ?_
  refine j_iconst h (q := 13) (-1) dX2_indexOfBest_12 rfl (by decide) ?_
  refine j_istore h (q := 15) (loc' := [(4, _), (3, _), (2, _), (0, _), (1, _)]) dX2_indexOfBest_13 rfl (by decide) rfl ?_
  refine j_iconst h (q := 16) (0) dX2_indexOfBest_15 rfl (by decide) ?_
  refine j_istore h (q := 18) (loc' := [(5, _), (4, _), (3, _), (2, _), (0, _), (1, _)]) dX2_indexOfBest_16 rfl (by decide) rfl ?_
  refine j_sub [0, 1, 2, 3, 4, 5] rfl ?_
  refine lp_best g w X h hi γ R G f hf ?_ (LM γ 308).length 0 (by omega)
  refine j_iload_n h (q := 75) 2 dX2_indexOfBest_74 rfl rfl ?_
  refine j_iret h rfl dX2_indexOfBest_75 ?_
  refine ⟨_, rfl, ?_, f, rfl, hf⟩
  rw [List.take_length]; rfl

theorem best_i (γ : Gm) : bestI γ = bI (bestG γ) := rfl
theorem rule_none {γ : Gm} (h : bestG γ = none) : ruleG γ = drawG γ := by unfold ruleG; rw [h]
theorem rule_lo {γ : Gm} {b : Nat × Nat} (h : bestG γ = some b) (hp : ¬ 1 ≤ ptM γ b.2) : ruleG γ = drawG γ := by
  unfold ruleG; rw [h]; exact if_neg hp
theorem rule_mv {γ : Gm} {b : Nat × Nat} (h : bestG γ = some b) (hp : 1 ≤ ptM γ b.2) : ruleG γ = moveG γ (b.2 / 22) (b.2 % 22) := by
  unfold ruleG; rw [h]; exact if_pos hp
theorem best_some {γ : Gm} {b : Nat × Nat} (h : bestG γ = some b) : b.2 < 308 ∧ okG γ (b.2 / 22) (b.2 % 22) = true := by
  obtain ⟨h1, h2⟩ := best_ok h
  exact ⟨by rw [← h2]; exact LM_lt h1, by have a := LM_ok h1; rw [h2] at a; exact a⟩
theorem GI_rule {γ : Gm} (G : GI γ) (ho : qo γ = false) : GI (ruleG γ) := by
  cases h : bestG γ with
  | none => rw [rule_none h]; exact GI_draw G ho
  | some b =>
    by_cases hp : 1 ≤ ptM γ b.2
    · rw [rule_mv h hp]; obtain ⟨h1, h2⟩ := best_some h; exact GI_move G h2 (by omega)
    · rw [rule_lo h hp]; exact GI_draw G ho
theorem play_b : ∀ n γ, playN n γ ≤ n
  | 0, _ => Nat.le_refl _
  | n + 1, γ => by
    unfold playN
    cases qo γ
    · have := play_b n (ruleG γ); show playN n (ruleG γ) + 1 ≤ n + 1; omega
    · exact Nat.zero_le _
theorem GI_play : ∀ n γ, GI γ → GI (playG n γ)
  | 0, _, G => G
  | n + 1, γ, G => by
    unfold playG
    cases h : qo γ
    · exact GI_play n _ (GI_rule G h)
    · exact G

set_option maxRecDepth 100000 in
set_option maxHeartbeats 4000000 in
theorem lp_play (g : jG) (w : jW) (X : Xs) {K : jK} {Φ : Option Value → jW → Prop} (h : jH g K RX2 cX2_playByRule 5 (some (.int))) {i steps : Nat} (hi : i < 2) (hst : steps < 1000) : ∀ n j γ f T, j + n = steps → TR T γ → GI γ → (∀ f' T' l, TR T' (playG n γ) → J g 5 K 5 Φ 82 ((3, .int (nI (j + playN n γ))) :: l) [] (xw g w (yTab (yMv X f') i T'))) → J g 5 K 5 Φ 2 [(3, .int (nI (j))), (0, .ref (gr g 0)), (1, .ref (gr g (7 + 6 * i))), (2, .int (nI steps))] [] (xw g w (yTab (yMv X f) i T)) := by
  intro n
  induction n with
  | zero =>
    intro j γ f T hj R G kk
    have hjN : j = steps := by omega
    subst hjN
    refine j_iload_n h (q := 3) 0 dX2_playByRule_2 rfl rfl ?_
    refine j_iload_n h (q := 4) 3 dX2_playByRule_3 rfl rfl ?_
    refine j_icmp_ge h (tgt := 82) (q := 7) dX2_playByRule_4 rfl (by decide) (fun c_4 => ?_) (fun c_4 => ?_)
    rotate_left
    · exact absurd (Int32.le_refl _) c_4
    exact kk f T _ R
  | succ n ih =>
    intro j γ f T hj R G kk
    cases ho : qo γ with
    | true =>
      have hpn : playN (n + 1) γ = 0 := by unfold playN; rw [ho]; rfl
      have hpg : playG (n + 1) γ = γ := by unfold playG; rw [ho]; rfl
      refine j_iload_n h (q := 3) 0 dX2_playByRule_2 rfl rfl ?_
      refine j_iload_n h (q := 4) 3 dX2_playByRule_3 rfl rfl ?_
      refine j_icmp_ge h (tgt := 82) (q := 7) dX2_playByRule_4 rfl (by decide) (fun c_4 => ?_) (fun c_4 => ?_)
      · exact absurd c_4 (by rw [nI_leS (by omega) (by omega)]; omega)
      refine j_aload_n h (q := 8) 2 dX2_playByRule_7 rfl rfl ?_
      refine j_get h (q := 11) inX1 (C := RX1) (T := TX1) (N := 9) (ci := 1) rfl 8 (by decide) mF_X2_71 (nwz (by omega)) (xw_r g _ _ (by omega)) rfl dX2_playByRule_8 rfl ?_
      rw [xt_y _ (show i < 10 by omega), R_ov R, ho]
      refine j_if_ne h (tgt := 82) (q := 14) dX2_playByRule_11 rfl (by decide) (fun c_11 => ?_) (fun c_11 => ?_)
      rotate_left
      · exact absurd (show b2i true = 0 from c_11) (by decide)
      have h8 := kk f T [(0, .ref (gr g 0)), (1, .ref (gr g (7 + 6 * i))), (2, .int (nI steps))] (by rw [hpg]; exact R)
      rw [hpn] at h8
      exact h8
    | false =>
      have hpn : playN (n + 1) γ = playN n (ruleG γ) + 1 := by rw [playN]; rw [ho]; rfl
      have hpg : playG (n + 1) γ = playG n (ruleG γ) := by rw [playG]; rw [ho]; rfl
      cases hbst : bestG γ with
      | none =>
        refine j_iload_n h (q := 3) 0 dX2_playByRule_2 rfl rfl ?_
        refine j_iload_n h (q := 4) 3 dX2_playByRule_3 rfl rfl ?_
        refine j_icmp_ge h (tgt := 82) (q := 7) dX2_playByRule_4 rfl (by decide) (fun c_4 => ?_) (fun c_4 => ?_)
        · exact absurd c_4 (by rw [nI_leS (by omega) (by omega)]; omega)
        refine j_aload_n h (q := 8) 2 dX2_playByRule_7 rfl rfl ?_
        refine j_get h (q := 11) inX1 (C := RX1) (T := TX1) (N := 9) (ci := 1) rfl 8 (by decide) mF_X2_71 (nwz (by omega)) (xw_r g _ _ (by omega)) rfl dX2_playByRule_8 rfl ?_
        rw [xt_y _ (show i < 10 by omega), R_ov R, ho]
        refine j_if_ne h (tgt := 82) (q := 14) dX2_playByRule_11 rfl (by decide) (fun c_11 => ?_) (fun c_11 => ?_)
        · exact absurd (show b2i false = 0 from rfl) c_11
        refine j_aload_n h (q := 15) 1 dX2_playByRule_14 rfl rfl ?_
        refine j_get h (q := 18) inX2 (C := RX2) (T := TX2) (N := 9) (ci := 2) rfl 6 (by decide) mF_X2_37 (by decide) (xw_0 _ _ _) rfl dX2_playByRule_15 rfl ?_
        refine j_aload_n h (q := 19) 1 dX2_playByRule_18 rfl rfl ?_
        refine j_aload_n h (q := 20) 2 dX2_playByRule_19 rfl rfl ?_
        refine j_cV h (q := 23) (C := RX2) (T := TX2) (N := 9) (ci := 2) mo_X2_indexOfBest mI_X2_indexOfBest mV_X2_indexOfBest mL_X2_166 (c_indexOfBest g _ _ (i := i) hi γ (show TR (xtab (yTab (yMv X f) i T) (7 + 6 * i)) γ by rw [xt_y _ (by omega)]; exact R) G) (by decide) (by decide) (xw_0 _ _ _) rfl rfl rfl (Nat.le_of_ble_eq_true rfl) dX2_playByRule_20 rfl ?_
        rintro _ w20 ⟨x20, rfl, e⟩
        obtain ⟨rfl, f2, rfl, hf2⟩ := e
        rw [best_i, y_m X hi, hbst]
        refine j_cS h (q := 26) mo_X2_at mS_X2_at mL_X2_125 (c_X2_at g _ (z := 1) (n := 170) (f := f2) (by decide) (by rw [xw_1]; exact congrArg (fun q => (.inl (gI g, 170, .inl q) : va_E)) (xmv_y X hi f2 T)) (by decide) _) (by decide) rfl rfl (Nat.le_of_ble_eq_true rfl) dX2_playByRule_23 rfl ?_
        rintro _ w23 ⟨x23, rfl, e⟩
        obtain ⟨rfl, rfl⟩ := e
        rw [show bI none = -6 from rfl, ati_out (vp_nin_c (by decide) (Or.inl (by decide)))]
        refine j_istore h (q := 28) (loc' := [(4, _), (3, _), (0, _), (1, _), (2, _)]) dX2_playByRule_26 rfl (by decide) rfl ?_
        refine j_iload h (q := 30) 0 dX2_playByRule_28 rfl rfl ?_
        refine j_bipush h (q := 32) (-6) dX2_playByRule_30 rfl (by decide) ?_
        refine j_icmp_eq h (tgt := 71) (q := 35) dX2_playByRule_32 rfl (by decide) (fun c_32 => ?_) (fun c_32 => ?_)
        rotate_left
        · exact absurd rfl c_32
        refine j_aload_n h (q := 72) 3 dX2_playByRule_71 rfl rfl ?_
        refine j_cV h (q := 75) (C := RX1) (T := TX1) (N := 9) (ci := 1) mo_X1_drawCard mI_X1_drawCard mV_X1_drawCard mL_X2_75 (xw_con (i := i) (by omega) (c_drawCard g _ _ (nw6 (by omega)) (xtab (yTab (yMv X f2) i T) (7 + 6 * i)) γ (show TR (xtab (yTab (yMv X f2) i T) (7 + 6 * i)) γ by rw [xt_y _ (by omega)]; exact R) G ho)) (by decide) (nwz (by omega)) (xw_r g _ _ (by omega)) rfl rfl rfl (Nat.le_of_ble_eq_true rfl) dX2_playByRule_72 rfl ?_
        rintro _ w72 ⟨x72, rfl, e⟩
        obtain ⟨rfl, T2, rfl, R2⟩ := e
        rw [xw_ut g w _ (show i < 10 by omega), y_tt _ hi]
        refine j_pop h (q := 76) dX2_playByRule_75 rfl rfl ?_
        refine j_iinc h (q := 79) (loc' := [(3, _), (4, _), (0, _), (1, _), (2, _)]) 1 _ dX2_playByRule_76 rfl rfl rfl (by decide) rfl ?_
        refine j_goto h (tgt := 2) dX2_playByRule_79 (by decide) ?_
        rw [show nI j + Int32.ofInt 1 = nI (j + 1) from nI_1 j]
        refine j_sub [0, 2, 3, 4] rfl ?_
        refine ih (j + 1) (ruleG γ) f2 T2 (by omega) (by rw [rule_none hbst]; exact R2) (GI_rule G ho) (fun f' T' l h9 => ?_)
        have h8 := kk f' T' l (by rw [hpg]; exact h9)
        rw [hpn, show j + (playN n (ruleG γ) + 1) = j + 1 + playN n (ruleG γ) by omega] at h8
        exact h8
      | some b =>
        obtain ⟨hb1, hb2⟩ := best_ok hbst
        have hb3 := list_170 G
        obtain ⟨hb4, hok⟩ := best_some hbst
        have hpm := ptM_le γ b.2
        by_cases hpt : 1 ≤ ptM γ b.2
        · refine j_iload_n h (q := 3) 0 dX2_playByRule_2 rfl rfl ?_
          refine j_iload_n h (q := 4) 3 dX2_playByRule_3 rfl rfl ?_
          refine j_icmp_ge h (tgt := 82) (q := 7) dX2_playByRule_4 rfl (by decide) (fun c_4 => ?_) (fun c_4 => ?_)
          · exact absurd c_4 (by rw [nI_leS (by omega) (by omega)]; omega)
          refine j_aload_n h (q := 8) 2 dX2_playByRule_7 rfl rfl ?_
          refine j_get h (q := 11) inX1 (C := RX1) (T := TX1) (N := 9) (ci := 1) rfl 8 (by decide) mF_X2_71 (nwz (by omega)) (xw_r g _ _ (by omega)) rfl dX2_playByRule_8 rfl ?_
          rw [xt_y _ (show i < 10 by omega), R_ov R, ho]
          refine j_if_ne h (tgt := 82) (q := 14) dX2_playByRule_11 rfl (by decide) (fun c_11 => ?_) (fun c_11 => ?_)
          · exact absurd (show b2i false = 0 from rfl) c_11
          refine j_aload_n h (q := 15) 1 dX2_playByRule_14 rfl rfl ?_
          refine j_get h (q := 18) inX2 (C := RX2) (T := TX2) (N := 9) (ci := 2) rfl 6 (by decide) mF_X2_37 (by decide) (xw_0 _ _ _) rfl dX2_playByRule_15 rfl ?_
          refine j_aload_n h (q := 19) 1 dX2_playByRule_18 rfl rfl ?_
          refine j_aload_n h (q := 20) 2 dX2_playByRule_19 rfl rfl ?_
          refine j_cV h (q := 23) (C := RX2) (T := TX2) (N := 9) (ci := 2) mo_X2_indexOfBest mI_X2_indexOfBest mV_X2_indexOfBest mL_X2_166 (c_indexOfBest g _ _ (i := i) hi γ (show TR (xtab (yTab (yMv X f) i T) (7 + 6 * i)) γ by rw [xt_y _ (by omega)]; exact R) G) (by decide) (by decide) (xw_0 _ _ _) rfl rfl rfl (Nat.le_of_ble_eq_true rfl) dX2_playByRule_20 rfl ?_
          rintro _ w20 ⟨x20, rfl, e⟩
          obtain ⟨rfl, f2, rfl, hf2⟩ := e
          rw [best_i, y_m X hi, hbst]
          refine j_cS h (q := 26) mo_X2_at mS_X2_at mL_X2_125 (c_X2_at g _ (z := 1) (n := 170) (f := f2) (by decide) (by rw [xw_1]; exact congrArg (fun q => (.inl (gI g, 170, .inl q) : va_E)) (xmv_y X hi f2 T)) (by decide) _) (by decide) rfl rfl (Nat.le_of_ble_eq_true rfl) dX2_playByRule_23 rfl ?_
          rintro _ w23 ⟨x23, rfl, e⟩
          obtain ⟨rfl, rfl⟩ := e
          rw [show bI (some b) = nI b.1 from rfl, ati_n (by omega) (by decide), hf2 b.1 hb1, hb2]
          refine j_istore h (q := 28) (loc' := [(4, _), (3, _), (0, _), (1, _), (2, _)]) dX2_playByRule_26 rfl (by decide) rfl ?_
          refine j_iload h (q := 30) 0 dX2_playByRule_28 rfl rfl ?_
          refine j_bipush h (q := 32) (-6) dX2_playByRule_30 rfl (by decide) ?_
          refine j_icmp_eq h (tgt := 71) (q := 35) dX2_playByRule_32 rfl (by decide) (fun c_32 => ?_) (fun c_32 => ?_)
          · exact absurd c_32 (nI_ne6 (by omega))
          refine j_aload_n h (q := 36) 3 dX2_playByRule_35 rfl rfl ?_
          refine j_iload h (q := 38) 0 dX2_playByRule_36 rfl rfl ?_
          refine j_cS h (q := 41) mo_X2_fromOf mS_X2_fromOf mL_X2_157 (c_X2_fromOf g _ _) (by decide) rfl rfl (Nat.le_of_ble_eq_true rfl) dX2_playByRule_38 rfl ?_
          rintro _ w38 ⟨x38, rfl, e⟩
          obtain ⟨rfl, rfl⟩ := e
          rw [show (22 : Int32) = nI 22 from rfl, pk_div (by omega) (by decide) (by decide)]
          refine j_iload h (q := 43) 0 dX2_playByRule_41 rfl rfl ?_
          refine j_cS h (q := 46) mo_X2_toOf mS_X2_toOf mL_X2_160 (c_X2_toOf g _ _) (by decide) rfl rfl (Nat.le_of_ble_eq_true rfl) dX2_playByRule_43 rfl ?_
          rintro _ w43 ⟨x43, rfl, e⟩
          obtain ⟨rfl, rfl⟩ := e
          rw [show (22 : Int32) = nI 22 from rfl, pk_rem (by omega) (by decide) (by decide)]
          refine j_cV h (q := 49) (C := RX1) (T := TX1) (N := 9) (ci := 1) mo_X1_pointsFor mI_X1_pointsFor mV_X1_pointsFor mL_X2_163 (xw_con (i := i) (by omega) (c_pointsFor g _ _ (nw6 (by omega)) (xtab (yTab (yMv X f2) i T) (7 + 6 * i)) γ (show TR (xtab (yTab (yMv X f2) i T) (7 + 6 * i)) γ by rw [xt_y _ (by omega)]; exact R) G rfl rfl (by omega) (by omega))) (by decide) (nwz (by omega)) (xw_r g _ _ (by omega)) rfl rfl rfl (Nat.le_of_ble_eq_true rfl) dX2_playByRule_46 rfl ?_
          rintro _ w46 ⟨x46, rfl, e⟩
          obtain ⟨rfl, rfl⟩ := e
          rw [xw_tab g w _ (show i < 10 by omega), show ptsG γ (b.2 / 22) (b.2 % 22) = ptM γ b.2 from rfl]
          refine j_iconst h (q := 50) (1) dX2_playByRule_49 rfl (by decide) ?_
          refine j_icmp_lt h (tgt := 71) (q := 53) dX2_playByRule_50 rfl (by decide) (fun c_50 => ?_) (fun c_50 => ?_)
          · rw [i_ltL (by omega) (by decide)] at c_50; omega
          refine j_aload_n h (q := 54) 3 dX2_playByRule_53 rfl rfl ?_
          refine j_iload h (q := 56) 0 dX2_playByRule_54 rfl rfl ?_
          refine j_cS h (q := 59) mo_X2_fromOf mS_X2_fromOf mL_X2_157 (c_X2_fromOf g _ _) (by decide) rfl rfl (Nat.le_of_ble_eq_true rfl) dX2_playByRule_56 rfl ?_
          rintro _ w56 ⟨x56, rfl, e⟩
          obtain ⟨rfl, rfl⟩ := e
          rw [show (22 : Int32) = nI 22 from rfl, pk_div (by omega) (by decide) (by decide)]
          refine j_iload h (q := 61) 0 dX2_playByRule_59 rfl rfl ?_
          refine j_cS h (q := 64) mo_X2_toOf mS_X2_toOf mL_X2_160 (c_X2_toOf g _ _) (by decide) rfl rfl (Nat.le_of_ble_eq_true rfl) dX2_playByRule_61 rfl ?_
          rintro _ w61 ⟨x61, rfl, e⟩
          obtain ⟨rfl, rfl⟩ := e
          rw [show (22 : Int32) = nI 22 from rfl, pk_rem (by omega) (by decide) (by decide)]
          refine j_cV h (q := 67) (C := RX1) (T := TX1) (N := 9) (ci := 1) mo_X1_moveCard mI_X1_moveCard mV_X1_moveCard mL_X2_67 (xw_con (i := i) (by omega) (c_moveCard g _ _ (nw6 (by omega)) (xtab (yTab (yMv X f2) i T) (7 + 6 * i)) γ (show TR (xtab (yTab (yMv X f2) i T) (7 + 6 * i)) γ by rw [xt_y _ (by omega)]; exact R) G rfl rfl (by omega) (by omega) hok)) (by decide) (nwz (by omega)) (xw_r g _ _ (by omega)) rfl rfl rfl (Nat.le_of_ble_eq_true rfl) dX2_playByRule_64 rfl ?_
          rintro _ w64 ⟨x64, rfl, e⟩
          obtain ⟨rfl, T2, rfl, R2⟩ := e
          rw [xw_ut g w _ (show i < 10 by omega), y_tt _ hi]
          refine j_pop h (q := 68) dX2_playByRule_67 rfl rfl ?_
          refine j_goto h (tgt := 76) dX2_playByRule_68 (by decide) ?_
          refine j_iinc h (q := 79) (loc' := [(3, _), (4, _), (0, _), (1, _), (2, _)]) 1 _ dX2_playByRule_76 rfl rfl rfl (by decide) rfl ?_
          refine j_goto h (tgt := 2) dX2_playByRule_79 (by decide) ?_
          rw [show nI j + Int32.ofInt 1 = nI (j + 1) from nI_1 j]
          refine j_sub [0, 2, 3, 4] rfl ?_
          refine ih (j + 1) (ruleG γ) f2 T2 (by omega) (by rw [rule_mv hbst hpt]; exact R2) (GI_rule G ho) (fun f' T' l h9 => ?_)
          have h8 := kk f' T' l (by rw [hpg]; exact h9)
          rw [hpn, show j + (playN n (ruleG γ) + 1) = j + 1 + playN n (ruleG γ) by omega] at h8
          exact h8
        · refine j_iload_n h (q := 3) 0 dX2_playByRule_2 rfl rfl ?_
          refine j_iload_n h (q := 4) 3 dX2_playByRule_3 rfl rfl ?_
          refine j_icmp_ge h (tgt := 82) (q := 7) dX2_playByRule_4 rfl (by decide) (fun c_4 => ?_) (fun c_4 => ?_)
          · exact absurd c_4 (by rw [nI_leS (by omega) (by omega)]; omega)
          refine j_aload_n h (q := 8) 2 dX2_playByRule_7 rfl rfl ?_
          refine j_get h (q := 11) inX1 (C := RX1) (T := TX1) (N := 9) (ci := 1) rfl 8 (by decide) mF_X2_71 (nwz (by omega)) (xw_r g _ _ (by omega)) rfl dX2_playByRule_8 rfl ?_
          rw [xt_y _ (show i < 10 by omega), R_ov R, ho]
          refine j_if_ne h (tgt := 82) (q := 14) dX2_playByRule_11 rfl (by decide) (fun c_11 => ?_) (fun c_11 => ?_)
          · exact absurd (show b2i false = 0 from rfl) c_11
          refine j_aload_n h (q := 15) 1 dX2_playByRule_14 rfl rfl ?_
          refine j_get h (q := 18) inX2 (C := RX2) (T := TX2) (N := 9) (ci := 2) rfl 6 (by decide) mF_X2_37 (by decide) (xw_0 _ _ _) rfl dX2_playByRule_15 rfl ?_
          refine j_aload_n h (q := 19) 1 dX2_playByRule_18 rfl rfl ?_
          refine j_aload_n h (q := 20) 2 dX2_playByRule_19 rfl rfl ?_
          refine j_cV h (q := 23) (C := RX2) (T := TX2) (N := 9) (ci := 2) mo_X2_indexOfBest mI_X2_indexOfBest mV_X2_indexOfBest mL_X2_166 (c_indexOfBest g _ _ (i := i) hi γ (show TR (xtab (yTab (yMv X f) i T) (7 + 6 * i)) γ by rw [xt_y _ (by omega)]; exact R) G) (by decide) (by decide) (xw_0 _ _ _) rfl rfl rfl (Nat.le_of_ble_eq_true rfl) dX2_playByRule_20 rfl ?_
          rintro _ w20 ⟨x20, rfl, e⟩
          obtain ⟨rfl, f2, rfl, hf2⟩ := e
          rw [best_i, y_m X hi, hbst]
          refine j_cS h (q := 26) mo_X2_at mS_X2_at mL_X2_125 (c_X2_at g _ (z := 1) (n := 170) (f := f2) (by decide) (by rw [xw_1]; exact congrArg (fun q => (.inl (gI g, 170, .inl q) : va_E)) (xmv_y X hi f2 T)) (by decide) _) (by decide) rfl rfl (Nat.le_of_ble_eq_true rfl) dX2_playByRule_23 rfl ?_
          rintro _ w23 ⟨x23, rfl, e⟩
          obtain ⟨rfl, rfl⟩ := e
          rw [show bI (some b) = nI b.1 from rfl, ati_n (by omega) (by decide), hf2 b.1 hb1, hb2]
          refine j_istore h (q := 28) (loc' := [(4, _), (3, _), (0, _), (1, _), (2, _)]) dX2_playByRule_26 rfl (by decide) rfl ?_
          refine j_iload h (q := 30) 0 dX2_playByRule_28 rfl rfl ?_
          refine j_bipush h (q := 32) (-6) dX2_playByRule_30 rfl (by decide) ?_
          refine j_icmp_eq h (tgt := 71) (q := 35) dX2_playByRule_32 rfl (by decide) (fun c_32 => ?_) (fun c_32 => ?_)
          · exact absurd c_32 (nI_ne6 (by omega))
          refine j_aload_n h (q := 36) 3 dX2_playByRule_35 rfl rfl ?_
          refine j_iload h (q := 38) 0 dX2_playByRule_36 rfl rfl ?_
          refine j_cS h (q := 41) mo_X2_fromOf mS_X2_fromOf mL_X2_157 (c_X2_fromOf g _ _) (by decide) rfl rfl (Nat.le_of_ble_eq_true rfl) dX2_playByRule_38 rfl ?_
          rintro _ w38 ⟨x38, rfl, e⟩
          obtain ⟨rfl, rfl⟩ := e
          rw [show (22 : Int32) = nI 22 from rfl, pk_div (by omega) (by decide) (by decide)]
          refine j_iload h (q := 43) 0 dX2_playByRule_41 rfl rfl ?_
          refine j_cS h (q := 46) mo_X2_toOf mS_X2_toOf mL_X2_160 (c_X2_toOf g _ _) (by decide) rfl rfl (Nat.le_of_ble_eq_true rfl) dX2_playByRule_43 rfl ?_
          rintro _ w43 ⟨x43, rfl, e⟩
          obtain ⟨rfl, rfl⟩ := e
          rw [show (22 : Int32) = nI 22 from rfl, pk_rem (by omega) (by decide) (by decide)]
          refine j_cV h (q := 49) (C := RX1) (T := TX1) (N := 9) (ci := 1) mo_X1_pointsFor mI_X1_pointsFor mV_X1_pointsFor mL_X2_163 (xw_con (i := i) (by omega) (c_pointsFor g _ _ (nw6 (by omega)) (xtab (yTab (yMv X f2) i T) (7 + 6 * i)) γ (show TR (xtab (yTab (yMv X f2) i T) (7 + 6 * i)) γ by rw [xt_y _ (by omega)]; exact R) G rfl rfl (by omega) (by omega))) (by decide) (nwz (by omega)) (xw_r g _ _ (by omega)) rfl rfl rfl (Nat.le_of_ble_eq_true rfl) dX2_playByRule_46 rfl ?_
          rintro _ w46 ⟨x46, rfl, e⟩
          obtain ⟨rfl, rfl⟩ := e
          rw [xw_tab g w _ (show i < 10 by omega), show ptsG γ (b.2 / 22) (b.2 % 22) = ptM γ b.2 from rfl]
          refine j_iconst h (q := 50) (1) dX2_playByRule_49 rfl (by decide) ?_
          refine j_icmp_lt h (tgt := 71) (q := 53) dX2_playByRule_50 rfl (by decide) (fun c_50 => ?_) (fun c_50 => ?_)
          rotate_left
          · rw [i_ltL (by omega) (by decide)] at c_50; omega
          refine j_aload_n h (q := 72) 3 dX2_playByRule_71 rfl rfl ?_
          refine j_cV h (q := 75) (C := RX1) (T := TX1) (N := 9) (ci := 1) mo_X1_drawCard mI_X1_drawCard mV_X1_drawCard mL_X2_75 (xw_con (i := i) (by omega) (c_drawCard g _ _ (nw6 (by omega)) (xtab (yTab (yMv X f2) i T) (7 + 6 * i)) γ (show TR (xtab (yTab (yMv X f2) i T) (7 + 6 * i)) γ by rw [xt_y _ (by omega)]; exact R) G ho)) (by decide) (nwz (by omega)) (xw_r g _ _ (by omega)) rfl rfl rfl (Nat.le_of_ble_eq_true rfl) dX2_playByRule_72 rfl ?_
          rintro _ w72 ⟨x72, rfl, e⟩
          obtain ⟨rfl, T2, rfl, R2⟩ := e
          rw [xw_ut g w _ (show i < 10 by omega), y_tt _ hi]
          refine j_pop h (q := 76) dX2_playByRule_75 rfl rfl ?_
          refine j_iinc h (q := 79) (loc' := [(3, _), (4, _), (0, _), (1, _), (2, _)]) 1 _ dX2_playByRule_76 rfl rfl rfl (by decide) rfl ?_
          refine j_goto h (tgt := 2) dX2_playByRule_79 (by decide) ?_
          rw [show nI j + Int32.ofInt 1 = nI (j + 1) from nI_1 j]
          refine j_sub [0, 2, 3, 4] rfl ?_
          refine ih (j + 1) (ruleG γ) f2 T2 (by omega) (by rw [rule_lo hbst hpt]; exact R2) (GI_rule G ho) (fun f' T' l h9 => ?_)
          have h8 := kk f' T' l (by rw [hpg]; exact h9)
          rw [hpn, show j + (playN n (ruleG γ) + 1) = j + 1 + playN n (ruleG γ) by omega] at h8
          exact h8

set_option maxRecDepth 100000 in
set_option maxHeartbeats 4000000 in
theorem c_playByRule (g : jG) (w : jW) (X : Xs) {i steps : Nat} (hi : i < 2) (hst : steps < 1000) (γ : Gm) (R : TR (xtab X (7 + 6 * i)) γ) (G : GI γ)  : ConI g 5 yX2_playByRule cX2_playByRule 5 (some (.int)) [.ref (gr g 0), .ref (gr g (7 + 6 * i)), .int (nI steps)] (xw g w X) (fun x w' => x = nI (playN steps γ) ∧ ∃ f T', w' = xw g w (yTab (yMv X f) i T') ∧ TR T' (playG steps γ)) := by
  refine con_of (by decide +kernel) (Nat.le_of_ble_eq_true rfl) [(0, _), (1, _), (2, _)] rfl (fun K h => ?_)
  refine j_iconst h (q := 1) (0) dX2_playByRule_0 rfl (by decide) ?_
  refine j_istore_n h (q := 2) (loc' := [(3, _), (0, _), (1, _), (2, _)]) dX2_playByRule_1 rfl (by decide) rfl ?_
  refine j_stk rfl (show xw g w X = xw g w (yTab (yMv X (Xmv X)) i (xtab X (7 + 6 * i))) by rcases (show i = 0 ∨ i = 1 by omega) with rfl | rfl <;> rfl) ?_
  refine lp_play g w X h hi hst steps 0 γ (Xmv X) _ (Nat.zero_add _) R G (fun f T' l h9 => ?_)
  rw [Nat.zero_add]
  refine j_iload_n h (q := 83) 0 dX2_playByRule_82 rfl rfl ?_
  refine j_iret h rfl dX2_playByRule_83 ?_
  exact ⟨_, rfl, rfl, f, T', rfl, h9⟩
