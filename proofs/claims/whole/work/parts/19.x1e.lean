set_option maxRecDepth 100000 in
set_option maxHeartbeats 4000000 in
theorem c_allowsFreeze (g : jG) (w : jW) (t : Nat) (ht : t + 6 ≤ NW) (T : Ts) (γ : Gm) (R : TR T γ) (G : GI γ) {a : Int32} {k : Nat} (ha : a = nI k) (hk : k < 8)  : ConI g 2 yX1_allowsFreeze cX1_allowsFreeze 2 (some (.boolean)) [.ref (gr g t), .int a] (tab g w t T) (fun x w' => x = b2i (okF γ k) ∧ w' = tab g w t T) := by
  refine con_of (by decide +kernel) (Nat.le_of_ble_eq_true rfl) [(0, _), (1, _)] rfl (fun K h => ?_)
  subst ha
  refine j_aload_n h (q := 1) 0 dX1_allowsFreeze_0 rfl rfl ?_
  refine j_get h (q := 4) inX1 (C := RX1) (T := TX1) (N := 9) (ci := 1) rfl 8 (by decide) mF_X1_55 (by omega) (tab_0 _ _ _ _) rfl dX1_allowsFreeze_1 rfl ?_
  have e2 := G_t G
  rw [R_ov R]
  refine j_if_ne h (tgt := 36) (q := 7) dX1_allowsFreeze_4 rfl (by decide) (fun c_4 => ?_) (fun c_4 => ?_)
  · refine j_iconst h (q := 37) (0) dX1_allowsFreeze_36 rfl (by decide) ?_
    refine j_zret h rfl (by first | rfl | decide) dX1_allowsFreeze_37 ?_
    simp (disch := omega) only [nI_add, i_addL, i_Ladd, i_subL, i_Lsub, nI_ltS, nI_leS, nI_eqS, i_ltL, i_Llt, i_leL, i_Lle, i_eqL, i_Leq, b2i_0, Bool.not_eq_false] at c_4
    unfold okF
    first
      | exact ⟨_, rfl, b2i_t (by rw [c_4, c_15, decide_eq_true (show 0 < qf γ (qt γ) by omega)]; rfl), rfl⟩
      | exact ⟨_, rfl, b2i_f (by rw [decide_eq_false (show ¬ 0 < qf γ (qt γ) by omega), Bool.and_false, Bool.and_false]), rfl⟩
      | exact ⟨_, rfl, b2i_f (by rw [show (qz γ k == 0) = false by rw [beq_eq_false_iff_ne]; exact c_15]; simp), rfl⟩
      | exact ⟨_, rfl, b2i_f (by rw [c_4]; rfl), rfl⟩
  · refine j_aload_n h (q := 8) 0 dX1_allowsFreeze_7 rfl rfl ?_
    refine j_bipush h (q := 10) (6) dX1_allowsFreeze_8 rfl (by decide) ?_
    refine j_iload_n h (q := 11) 1 dX1_allowsFreeze_10 rfl rfl ?_
    refine j_iadd h (q := 12) dX1_allowsFreeze_11 rfl ?_
    refine j_cV h (q := 15) (C := RX1) (T := TX1) (N := 9) (ci := 1) mo_X1_frozenFor mI_X1_frozenFor mV_X1_frozenFor mL_X1_104 (c_frozenFor g _ _ ht _ γ R G (p := 6 + k) (i_Ladd k 6) (by omega)) (by decide) (by omega) (tab_0 _ _ _ _) rfl rfl rfl (Nat.le_of_ble_eq_true rfl) dX1_allowsFreeze_12 rfl ?_
    rintro _ w12 ⟨x12, rfl, e⟩
    obtain ⟨rfl, rfl⟩ := e
    have hz : frzG γ (6 + k) = qz γ k := by rw [frz_H (by simp only [isH, decide_eq_true_eq]; omega), show 6 + k - 6 = k by omega]
    have hzb := G.2.2.2.1 k hk
    rw [hz]
    refine j_if_ne h (tgt := 36) (q := 18) dX1_allowsFreeze_15 rfl (by decide) (fun c_15 => ?_) (fun c_15 => ?_)
    · refine j_iconst h (q := 37) (0) dX1_allowsFreeze_36 rfl (by decide) ?_
      refine j_zret h rfl (by first | rfl | decide) dX1_allowsFreeze_37 ?_
      simp (disch := omega) only [nI_add, i_addL, i_Ladd, i_subL, i_Lsub, nI_ltS, nI_leS, nI_eqS, i_ltL, i_Llt, i_leL, i_Lle, i_eqL, i_Leq, b2i_0, Bool.not_eq_false] at c_4 c_15
      unfold okF
      first
        | exact ⟨_, rfl, b2i_t (by rw [c_4, c_15, decide_eq_true (show 0 < qf γ (qt γ) by omega)]; rfl), rfl⟩
        | exact ⟨_, rfl, b2i_f (by rw [decide_eq_false (show ¬ 0 < qf γ (qt γ) by omega), Bool.and_false, Bool.and_false]), rfl⟩
        | exact ⟨_, rfl, b2i_f (by rw [show (qz γ k == 0) = false by rw [beq_eq_false_iff_ne]; exact c_15]; simp), rfl⟩
        | exact ⟨_, rfl, b2i_f (by rw [c_4]; rfl), rfl⟩
    · refine j_aload_n h (q := 19) 0 dX1_allowsFreeze_18 rfl rfl ?_
      refine j_get h (q := 22) inX1 (C := RX1) (T := TX1) (N := 9) (ci := 1) rfl 3 (by decide) mF_X1_21 (by omega) (tab_0 _ _ _ _) rfl dX1_allowsFreeze_19 rfl ?_
      refine j_aload_n h (q := 23) 0 dX1_allowsFreeze_22 rfl rfl ?_
      refine j_get h (q := 26) inX1 (C := RX1) (T := TX1) (N := 9) (ci := 1) rfl 5 (by decide) mF_X1_45 (by omega) (tab_0 _ _ _ _) rfl dX1_allowsFreeze_23 rfl ?_
      refine j_cSN h (q := 29) mo_X2_at mS_X2_at mL_X1_75 (c_X2_at g _ (by omega) (tab_4 _ _ _ _) (by decide) _) (by decide) rfl rfl (Nat.le_of_ble_eq_true rfl) dX1_allowsFreeze_26 rfl ?_
      rintro _ w26 ⟨x26, rfl, e⟩
      obtain ⟨rfl, rfl⟩ := e
      have hfb := G.2.2.1 (qt γ) e2
      rw [R_tp R, ati_n e2 (by decide), R_fz R e2]
      refine j_if_le h (tgt := 36) (q := 32) dX1_allowsFreeze_29 rfl (by decide) (fun c_29 => ?_) (fun c_29 => ?_)
      · refine j_iconst h (q := 37) (0) dX1_allowsFreeze_36 rfl (by decide) ?_
        refine j_zret h rfl (by first | rfl | decide) dX1_allowsFreeze_37 ?_
        simp (disch := omega) only [nI_add, i_addL, i_Ladd, i_subL, i_Lsub, nI_ltS, nI_leS, nI_eqS, i_ltL, i_Llt, i_leL, i_Lle, i_eqL, i_Leq, b2i_0, Bool.not_eq_false] at c_4 c_15 c_29
        unfold okF
        first
          | exact ⟨_, rfl, b2i_t (by rw [c_4, c_15, decide_eq_true (show 0 < qf γ (qt γ) by omega)]; rfl), rfl⟩
          | exact ⟨_, rfl, b2i_f (by rw [decide_eq_false (show ¬ 0 < qf γ (qt γ) by omega), Bool.and_false, Bool.and_false]), rfl⟩
          | exact ⟨_, rfl, b2i_f (by rw [show (qz γ k == 0) = false by rw [beq_eq_false_iff_ne]; exact c_15]; simp), rfl⟩
          | exact ⟨_, rfl, b2i_f (by rw [c_4]; rfl), rfl⟩
      · refine j_iconst h (q := 33) (1) dX1_allowsFreeze_32 rfl (by decide) ?_
        refine j_goto h (tgt := 37) dX1_allowsFreeze_33 (by decide) ?_
        refine j_zret h rfl (by first | rfl | decide) dX1_allowsFreeze_37 ?_
        simp (disch := omega) only [nI_add, i_addL, i_Ladd, i_subL, i_Lsub, nI_ltS, nI_leS, nI_eqS, i_ltL, i_Llt, i_leL, i_Lle, i_eqL, i_Leq, b2i_0, Bool.not_eq_false] at c_4 c_15 c_29
        unfold okF
        first
          | exact ⟨_, rfl, b2i_t (by rw [c_4, c_15, decide_eq_true (show 0 < qf γ (qt γ) by omega)]; rfl), rfl⟩
          | exact ⟨_, rfl, b2i_f (by rw [decide_eq_false (show ¬ 0 < qf γ (qt γ) by omega), Bool.and_false, Bool.and_false]), rfl⟩
          | exact ⟨_, rfl, b2i_f (by rw [show (qz γ k == 0) = false by rw [beq_eq_false_iff_ne]; exact c_15]; simp), rfl⟩
          | exact ⟨_, rfl, b2i_f (by rw [c_4]; rfl), rfl⟩

set_option maxRecDepth 100000 in
set_option maxHeartbeats 4000000 in
theorem c_freezeHouse (g : jG) (w : jW) (t : Nat) (ht : t + 6 ≤ NW) (T : Ts) (γ : Gm) (R : TR T γ) (G : GI γ) {a : Int32} {k : Nat} (ha : a = nI k) (hk : k < 8) (ho : okF γ k = true)  : ConI g 2 yX1_freezeHouse cX1_freezeHouse 2 (some (.int)) [.ref (gr g t), .int a] (tab g w t T) (fun x w' => x = nI (qf γ (qt γ) - 1) ∧ ∃ T', w' = tab g w t T' ∧ TR T' (freezeG γ k)) := by
  refine con_of (by decide +kernel) (Nat.le_of_ble_eq_true rfl) [(0, _), (1, _)] rfl (fun K h => ?_)
  subst ha
  refine j_aload_n h (q := 1) 0 dX1_freezeHouse_0 rfl rfl ?_
  refine j_get h (q := 4) inX1 (C := RX1) (T := TX1) (N := 9) (ci := 1) rfl 4 (by decide) mF_X1_24 (by omega) (tab_0 _ _ _ _) rfl dX1_freezeHouse_1 rfl ?_
  refine j_iload_n h (q := 5) 1 dX1_freezeHouse_4 rfl rfl ?_
  refine j_aload_n h (q := 6) 0 dX1_freezeHouse_5 rfl rfl ?_
  refine j_get h (q := 9) inX1 (C := RX1) (T := TX1) (N := 9) (ci := 1) rfl 6 (by decide) mF_X1_49 (by omega) (tab_0 _ _ _ _) rfl dX1_freezeHouse_6 rfl ?_
  refine j_iconst h (q := 10) (3) dX1_freezeHouse_9 rfl (by decide) ?_
  refine j_iadd h (q := 11) dX1_freezeHouse_10 rfl ?_
  refine j_cSN h (q := 14) mo_X2_setAt mS_X2_setAt mL_X1_41 (c_X2_setAt g _ (by omega) (tab_5 _ _ _ _) (by decide) _ _) (by decide) rfl rfl (Nat.le_of_ble_eq_true rfl) dX1_freezeHouse_11 rfl ?_
  rintro _ w11 ⟨rfl, e⟩
  rw [sti_n hk (by decide), tab_u5] at e
  subst e
  have e2 := G_t G
  have hdb : qd γ ≤ 200 := G.2.2.2.2.1
  have hq : 0 < qf γ (qt γ) := by unfold okF at ho; simp only [Bool.and_eq_true, decide_eq_true_eq] at ho; exact ho.2.2
  refine j_aload_n h (q := 15) 0 dX1_freezeHouse_14 rfl rfl ?_
  refine j_get h (q := 18) inX1 (C := RX1) (T := TX1) (N := 9) (ci := 1) rfl 3 (by decide) mF_X1_21 (by omega) (tab_0 _ _ _ _) rfl dX1_freezeHouse_15 rfl ?_
  refine j_aload_n h (q := 19) 0 dX1_freezeHouse_18 rfl rfl ?_
  refine j_get h (q := 22) inX1 (C := RX1) (T := TX1) (N := 9) (ci := 1) rfl 5 (by decide) mF_X1_45 (by omega) (tab_0 _ _ _ _) rfl dX1_freezeHouse_19 rfl ?_
  refine j_iconst h (q := 23) (-1) dX1_freezeHouse_22 rfl (by decide) ?_
  refine j_cSN h (q := 26) mo_X2_addAt mS_X2_addAt mL_X1_82 (c_X2_addAt g _ (by omega) (tab_4 _ _ _ _) (by decide) _ _) (by decide) rfl rfl (Nat.le_of_ble_eq_true rfl) dX1_freezeHouse_23 rfl ?_
  rintro _ w23 ⟨rfl, e⟩
  have q1 : Ttp T = nI (qt γ) := R_tp R
  have q2 : Tfz T (qt γ) = nI (qf γ (qt γ)) := R_fz R e2
  rw [show Ttp (sTh T (upd (Tth T) k (Tdr T + 3))) = nI (qt γ) from q1, sti_n e2 (by decide), ati_n e2 (by decide), show Tfz (sTh T (upd (Tth T) k (Tdr T + 3))) (qt γ) = nI (qf γ (qt γ)) from q2, nI_m1 hq, tab_u4] at e
  subst e
  refine j_aload_n h (q := 27) 0 dX1_freezeHouse_26 rfl rfl ?_
  refine j_get h (q := 30) inX1 (C := RX1) (T := TX1) (N := 9) (ci := 1) rfl 3 (by decide) mF_X1_21 (by omega) (tab_0 _ _ _ _) rfl dX1_freezeHouse_27 rfl ?_
  refine j_aload_n h (q := 31) 0 dX1_freezeHouse_30 rfl rfl ?_
  refine j_get h (q := 34) inX1 (C := RX1) (T := TX1) (N := 9) (ci := 1) rfl 5 (by decide) mF_X1_45 (by omega) (tab_0 _ _ _ _) rfl dX1_freezeHouse_31 rfl ?_
  refine j_cSN h (q := 37) mo_X2_at mS_X2_at mL_X1_75 (c_X2_at g _ (by omega) (tab_4 _ _ _ _) (by decide) _) (by decide) rfl rfl (Nat.le_of_ble_eq_true rfl) dX1_freezeHouse_34 rfl ?_
  rintro _ w34 ⟨x34, rfl, e⟩
  obtain ⟨rfl, rfl⟩ := e
  refine j_iret h rfl dX1_freezeHouse_37 ?_
  refine ⟨_, rfl, ?_, _, rfl, ?_⟩
  · show ati 2 (upd (Tfz T) (qt γ) (nI (qf γ (qt γ) - 1))) (Ttp T) = _
    rw [R_tp R, ati_n e2 (by decide)]
    unfold upd; rw [if_pos rfl]
  · refine TR_put R rfl rfl (fun s hs => R_pt R hs) (fun s hs => ?_) (fun j hj => ?_) (R_tp R) (R_dr R) (R_mv R) (R_ov R)
    · show upd (Tfz T) (qt γ) (nI (qf γ (qt γ) - 1)) s = nI (if s = qt γ then qf γ s - 1 else qf γ s)
      unfold upd
      by_cases z : s = qt γ
      · rw [if_pos z, if_pos z, z]
      · rw [if_neg z, if_neg z]; exact R_fz R hs
    · show ∃ th, upd (Tth T) k (Tdr T + 3) j = nI th ∧ th ≤ 203 ∧ (if j = k then 3 else qz γ j) = th - qd γ
      unfold upd
      by_cases z : j = k
      · rw [if_pos z, if_pos z]
        exact ⟨qd γ + 3, by rw [R_dr R, i_addL], by omega, by omega⟩
      · rw [if_neg z, if_neg z]; exact R_th R hj

set_option maxRecDepth 100000 in
set_option maxHeartbeats 4000000 in
theorem lp_fitsAces (g : jG) (w : jW) (t : Nat) (ht : t + 6 ≤ NW) (T : Ts) (γ : Gm) (R : TR T γ) (G : GI γ) {K : jK} {Φ : Option Value → jW → Prop} (h : jH g K RX1 cX1_fitsAnAcesPile 3 (some (.boolean))) {k : Nat} (hk : k < 104) (kt : qo γ = false → someA γ k 8 = true → ∀ l, J g 2 K 3 Φ 28 l [] (tab g w t T)) (kf : (qo γ = true ∨ someA γ k 8 = false) → ∀ l, J g 2 K 3 Φ 36 l [] (tab g w t T)) : ∀ n i, i + n = 22 → 14 ≤ i → someA γ k (i - 14) = false → J g 2 K 3 Φ 3 [(2, .int (nI i)), (0, .ref (gr g t)), (1, .int (nI k))] [] (tab g w t T) := by
  intro n
  induction n with
  | zero =>
    intro i hi hge hsf
    have hiN : i = 22 := by omega
    subst hiN
    refine j_iload_n h (q := 4) 0 dX1_fitsAnAcesPile_3 rfl rfl ?_
    refine j_bipush h (q := 6) (22) dX1_fitsAnAcesPile_4 rfl (by decide) ?_
    refine j_icmp_ge h (tgt := 36) (q := 9) dX1_fitsAnAcesPile_6 rfl (by decide) (fun c_6 => ?_) (fun c_6 => ?_)
    rotate_left
    · exact absurd (show (22 : Int32) ≤ nI 22 by decide) c_6
    exact kf (Or.inr hsf) _
  | succ n ih =>
    intro i hi hge hsf
    have hs1 : someA γ k (i + 1 - 14) = (someA γ k (i - 14) || fA k (topO γ i)) := by
      rw [show i + 1 - 14 = (i - 14) + 1 by omega]; simp only [someA]; rw [show 14 + (i - 14) = i by omega]
    refine j_iload_n h (q := 4) 0 dX1_fitsAnAcesPile_3 rfl rfl ?_
    refine j_bipush h (q := 6) (22) dX1_fitsAnAcesPile_4 rfl (by decide) ?_
    refine j_icmp_ge h (tgt := 36) (q := 9) dX1_fitsAnAcesPile_6 rfl (by decide) (fun c_6 => ?_) (fun c_6 => ?_)
    · exact absurd c_6 (by rw [i_Lle (by omega) (by omega)]; omega)
    refine j_aload_n h (q := 10) 1 dX1_fitsAnAcesPile_9 rfl rfl ?_
    refine j_get h (q := 13) inX1 (C := RX1) (T := TX1) (N := 9) (ci := 1) rfl 8 (by decide) mF_X1_55 (by omega) (tab_0 _ _ _ _) rfl dX1_fitsAnAcesPile_10 rfl ?_
    rw [R_ov R]
    refine j_if_ne h (tgt := 36) (q := 16) dX1_fitsAnAcesPile_13 rfl (by decide) (fun c_13 => ?_) (fun c_13 => ?_)
    · exact kf (Or.inl (by rw [b2i_0, Bool.not_eq_false] at c_13; exact c_13)) _
    · refine j_iload_n h (q := 17) 2 dX1_fitsAnAcesPile_16 rfl rfl ?_
      refine j_aload_n h (q := 18) 1 dX1_fitsAnAcesPile_17 rfl rfl ?_
      refine j_iload_n h (q := 19) 0 dX1_fitsAnAcesPile_18 rfl rfl ?_
      refine j_cV h (q := 22) (C := RX1) (T := TX1) (N := 9) (ci := 1) mo_X1_topOf mI_X1_topOf mV_X1_topOf mL_X1_85 (c_top g _ _ ht _ γ R G (p := i) rfl (by omega)) (by decide) (by omega) (tab_0 _ _ _ _) rfl rfl rfl (Nat.le_of_ble_eq_true rfl) dX1_fitsAnAcesPile_19 rfl ?_
      rintro _ w19 ⟨x19, rfl, e⟩
      obtain ⟨rfl, rfl⟩ := e
      refine j_cSN h (q := 25) mo_X2_fitsAces mS_X2_fitsAces mL_X1_111 (c_X2_fitsAces g _ hk (G_o G (by omega))) (by decide) rfl rfl (Nat.le_of_ble_eq_true rfl) dX1_fitsAnAcesPile_22 rfl ?_
      rintro _ w22 ⟨x22, rfl, e⟩
      obtain ⟨rfl, rfl⟩ := e
      refine j_if_eq h (tgt := 30) (q := 28) dX1_fitsAnAcesPile_25 rfl (by decide) (fun c_25 => ?_) (fun c_25 => ?_)
      · refine j_iinc h (q := 33) (loc' := [(2, _), (0, _), (1, _)]) 0 _ dX1_fitsAnAcesPile_30 rfl rfl rfl (by decide) rfl ?_
        refine j_goto h (tgt := 3) dX1_fitsAnAcesPile_33 (by decide) ?_
        rw [show nI i + Int32.ofInt 1 = nI (i + 1) from nI_1 i]
        exact ih (i + 1) (by omega) (by omega) (by rw [hs1, hsf, b2i_0.mp c_25]; rfl)
      · rw [b2i_0, Bool.not_eq_false] at c_25
        refine kt (by rw [b2i_0] at c_13; exact c_13) ?_ _
        have a := someA_mono (γ := γ) (k := k) (n := i + 1 - 14) (by rw [hs1, c_25, Bool.or_true]) (22 - (i + 1))
        rw [show i + 1 - 14 + (22 - (i + 1)) = 8 by omega] at a
        exact a


set_option maxRecDepth 100000 in
set_option maxHeartbeats 4000000 in
theorem c_fitsAnAcesPile (g : jG) (w : jW) (t : Nat) (ht : t + 6 ≤ NW) (T : Ts) (γ : Gm) (R : TR T γ) (G : GI γ) {k : Nat} (hk : k < 104)  : ConI g 2 yX1_fitsAnAcesPile cX1_fitsAnAcesPile 3 (some (.boolean)) [.ref (gr g t), .int (nI k)] (tab g w t T) (fun x w' => x = b2i (!qo γ && someA γ k 8) ∧ w' = tab g w t T) := by
  refine con_of (by decide +kernel) (Nat.le_of_ble_eq_true rfl) [(0, _), (1, _)] rfl (fun K h => ?_)
  refine j_bipush h (q := 2) (14) dX1_fitsAnAcesPile_0 rfl (by decide) ?_
  refine j_istore_n h (q := 3) (loc' := [(2, _), (0, _), (1, _)]) dX1_fitsAnAcesPile_2 rfl (by decide) rfl ?_
  refine lp_fitsAces g w t ht T γ R G h hk (fun h1 h2 l => ?_) (fun h1 l => ?_) 8 14 rfl (Nat.le_refl _) rfl
  · refine j_iconst h (q := 29) (1) dX1_fitsAnAcesPile_28 rfl (by decide) ?_
    refine j_zret h rfl (by first | rfl | decide) dX1_fitsAnAcesPile_29 ?_
    exact ⟨_, rfl, b2i_t (by rw [h1, h2]; rfl), rfl⟩
  · refine j_iconst h (q := 37) (0) dX1_fitsAnAcesPile_36 rfl (by decide) ?_
    refine j_zret h rfl (by first | rfl | decide) dX1_fitsAnAcesPile_37 ?_
    exact ⟨_, rfl, b2i_f (by rcases h1 with z | z; rw [z]; rfl; rw [z, Bool.and_false]), rfl⟩

def atI (γ : Gm) (p k : Nat) (r : Option Nat) : Prop := match r with
  | some i => i < qn γ p ∧ qc γ p i = k
  | none => ∀ i, i < qn γ p → qc γ p i ≠ k

set_option maxRecDepth 100000 in
set_option maxHeartbeats 4000000 in
theorem lp_placeIn (g : jG) (w : jW) (t : Nat) (ht : t + 6 ≤ NW) (T : Ts) (γ : Gm) (R : TR T γ) (G : GI γ) {K : jK} {Φ : Option Value → jW → Prop} (h : jH g K RX1 cX1_placeIn 5 (some (.int))) {p : Nat} (hp : p < 22) {k : Nat} (hk : k < 104) {r : Option Nat} (hr : atI γ p k r) (kr : ∀ {i : Nat}, ov r = nI i → J g 2 K 5 Φ 26 [(4, .int (nI (i))), (3, .int (nI (qn γ p))), (0, .ref (gr g t)), (1, .int (nI p)), (2, .int (nI k))] [] (tab g w t T)) (kf : ov r = -6 → J g 2 K 5 Φ 35 [(4, .int (nI (qn γ p))), (3, .int (nI (qn γ p))), (0, .ref (gr g t)), (1, .int (nI p)), (2, .int (nI k))] [] (tab g w t T)) : ∀ n i, i + n = qn γ p → (∀ j, j < i → qc γ p j ≠ k) → J g 2 K 5 Φ 9 [(4, .int (nI (i))), (3, .int (nI (qn γ p))), (0, .ref (gr g t)), (1, .int (nI p)), (2, .int (nI k))] [] (tab g w t T) := by
  intro n
  induction n with
  | zero =>
    intro i hi hlt
    have hiN : i = qn γ p := by omega
    subst hiN
    refine j_iload h (q := 11) 0 dX1_placeIn_9 rfl rfl ?_
    refine j_iload_n h (q := 12) 1 dX1_placeIn_11 rfl rfl ?_
    refine j_icmp_ge h (tgt := 35) (q := 15) dX1_placeIn_12 rfl (by decide) (fun c_12 => ?_) (fun c_12 => ?_)
    rotate_left
    · exact absurd (Int32.le_refl _) c_12
    refine kf ?_
    cases r with
    | none => rfl
    | some j => exact absurd hr.2 (hlt j hr.1)
  | succ n ih =>
    intro i hi hlt
    have hb1 := G_n2 G hp
    have hcc := G_c G hp (show i < qn γ p by omega)
    refine j_iload h (q := 11) 0 dX1_placeIn_9 rfl rfl ?_
    refine j_iload_n h (q := 12) 1 dX1_placeIn_11 rfl rfl ?_
    refine j_icmp_ge h (tgt := 35) (q := 15) dX1_placeIn_12 rfl (by decide) (fun c_12 => ?_) (fun c_12 => ?_)
    · exact absurd c_12 (by rw [nI_leS (by omega) (by omega)]; omega)
    refine j_aload_n h (q := 16) 2 dX1_placeIn_15 rfl rfl ?_
    refine j_iload_n h (q := 17) 3 dX1_placeIn_16 rfl rfl ?_
    refine j_iload h (q := 19) 0 dX1_placeIn_17 rfl rfl ?_
    refine j_cV h (q := 22) (C := RX1) (T := TX1) (N := 9) (ci := 1) mo_X1_cardIn mI_X1_cardIn mV_X1_cardIn mL_X1_67 (c_X1_cardIn g _ _ ht _ rfl hp rfl (by have := G_f G hp; omega)) (by decide) (by omega) (tab_0 _ _ _ _) rfl rfl rfl (Nat.le_of_ble_eq_true rfl) dX1_placeIn_19 rfl ?_
    rintro _ w19 ⟨x19, rfl, e⟩
    obtain ⟨rfl, rfl⟩ := e
    rw [R_cd R hp (by omega)]
    refine j_iload_n h (q := 23) 4 dX1_placeIn_22 rfl rfl ?_
    refine j_icmp_ne h (tgt := 29) (q := 26) dX1_placeIn_23 rfl (by decide) (fun c_23 => ?_) (fun c_23 => ?_)
    · refine j_iinc h (q := 32) (loc' := [(4, _), (3, _), (0, _), (1, _), (2, _)]) 0 _ dX1_placeIn_29 rfl rfl rfl (by decide) rfl ?_
      refine j_goto h (tgt := 9) dX1_placeIn_32 (by decide) ?_
      rw [show nI i + Int32.ofInt 1 = nI (i + 1) from nI_1 i]
      refine j_sub [0, 1, 2, 3, 4] rfl ?_
      exact ih (i + 1) (by omega) (fun j hj => by
        rcases Nat.lt_or_ge j i with z | z
        · exact hlt j z
        · have z2 : j = i := by omega
          rw [z2]; intro z3; exact c_23 (by rw [z3]))
    · rw [nI_eqS (by omega) (by omega)] at c_23
      refine kr ?_
      cases r with
      | none => exact absurd c_23 (hr i (by omega))
      | some j => rw [show j = i from (G.1.2.1 p p j i hp hp hr.1 (by omega) (hr.2.trans c_23.symm)).2]; rfl


set_option maxRecDepth 100000 in
set_option maxHeartbeats 4000000 in
theorem c_placeIn (g : jG) (w : jW) (t : Nat) (ht : t + 6 ≤ NW) (T : Ts) (γ : Gm) (R : TR T γ) (G : GI γ) {p : Nat} (hp : p < 22) {k : Nat} (hk : k < 104) {r : Option Nat} (hr : atI γ p k r) {a : Int32} (ha : a = nI p)  : ConI g 2 yX1_placeIn cX1_placeIn 5 (some (.int)) [.ref (gr g t), .int a, .int (nI k)] (tab g w t T) (fun x w' => x = ov r ∧ w' = tab g w t T) := by
  refine con_of (by decide +kernel) (Nat.le_of_ble_eq_true rfl) [(0, _), (1, _), (2, _)] rfl (fun K h => ?_)
  subst ha
  refine j_aload_n h (q := 1) 0 dX1_placeIn_0 rfl rfl ?_
  refine j_iload_n h (q := 2) 1 dX1_placeIn_1 rfl rfl ?_
  refine j_cV h (q := 5) (C := RX1) (T := TX1) (N := 9) (ci := 1) mo_X1_sizeOf mI_X1_sizeOf mV_X1_sizeOf mL_X1_89 (c_size g _ _ ht _ γ R rfl hp) (by decide) (by omega) (tab_0 _ _ _ _) rfl rfl rfl (Nat.le_of_ble_eq_true rfl) dX1_placeIn_2 rfl ?_
  rintro _ w2 ⟨x2, rfl, e⟩
  obtain ⟨rfl, rfl⟩ := e
  refine j_istore_n h (q := 6) (loc' := [(3, _), (0, _), (1, _), (2, _)]) dX1_placeIn_5 rfl (by decide) rfl ?_
  refine j_iconst h (q := 7) (0) dX1_placeIn_6 rfl (by decide) ?_
  refine j_istore h (q := 9) (loc' := [(4, _), (3, _), (0, _), (1, _), (2, _)]) dX1_placeIn_7 rfl (by decide) rfl ?_
  refine lp_placeIn g w t ht T γ R G h hp hk hr (fun {i} h1 => ?_) (fun h1 => ?_) (qn γ p) 0 (by omega) (fun j hj => by omega)
  · refine j_iload h (q := 28) 0 dX1_placeIn_26 rfl rfl ?_
    refine j_iret h rfl dX1_placeIn_28 ?_
    exact ⟨_, rfl, h1.symm, rfl⟩
  · refine j_bipush h (q := 37) (-6) dX1_placeIn_35 rfl (by decide) ?_
    refine j_iret h rfl dX1_placeIn_37 ?_
    exact ⟨_, rfl, h1.symm, rfl⟩

set_option maxRecDepth 100000 in
set_option maxHeartbeats 4000000 in
theorem lp_pileWith (g : jG) (w : jW) (t : Nat) (ht : t + 6 ≤ NW) (T : Ts) (γ : Gm) (R : TR T γ) (G : GI γ) {K : jK} {Φ : Option Value → jW → Prop} (h : jH g K RX1 cX1_pileWith 3 (some (.int))) {k p0 i0 : Nat} (hp0 : p0 < 22) (hi0 : i0 < qn γ p0) (hk0 : qc γ p0 i0 = k) (kr : J g 3 K 3 Φ 19 [(2, .int (nI (p0))), (0, .ref (gr g t)), (1, .int (nI k))] [] (tab g w t T)) : ∀ n i, i + n = 22 → i ≤ p0 → J g 3 K 3 Φ 2 [(2, .int (nI (i))), (0, .ref (gr g t)), (1, .int (nI k))] [] (tab g w t T) := by
  intro n
  induction n with
  | zero => intro i hi hlt; omega
  | succ n ih =>
    intro i hi hle
    have hk : k < 104 := by rw [← hk0]; exact G_c G hp0 hi0
    have hi104 := G_n2 G hp0
    by_cases hz : i = p0
    · subst hz
      refine j_iload_n h (q := 3) 0 dX1_pileWith_2 rfl rfl ?_
      refine j_bipush h (q := 5) (22) dX1_pileWith_3 rfl (by decide) ?_
      refine j_icmp_ge h (tgt := 27) (q := 8) dX1_pileWith_5 rfl (by decide) (fun c_5 => ?_) (fun c_5 => ?_)
      · exact absurd c_5 (by rw [i_Lle (by omega) (by omega)]; omega)
      refine j_aload_n h (q := 9) 1 dX1_pileWith_8 rfl rfl ?_
      refine j_iload_n h (q := 10) 0 dX1_pileWith_9 rfl rfl ?_
      refine j_iload_n h (q := 11) 2 dX1_pileWith_10 rfl rfl ?_
      refine j_cV h (q := 14) (C := RX1) (T := TX1) (N := 9) (ci := 1) mo_X1_placeIn mI_X1_placeIn mV_X1_placeIn mL_X1_92 (c_placeIn g _ _ ht _ γ R G hp0 hk (r := some i0) ⟨hi0, hk0⟩ rfl) (by decide) (by omega) (tab_0 _ _ _ _) rfl rfl rfl (Nat.le_of_ble_eq_true rfl) dX1_pileWith_11 rfl ?_
      rintro _ w11 ⟨x11, rfl, e⟩
      obtain ⟨rfl, rfl⟩ := e
      refine j_bipush h (q := 16) (-6) dX1_pileWith_14 rfl (by decide) ?_
      refine j_icmp_eq h (tgt := 21) (q := 19) dX1_pileWith_16 rfl (by decide) (fun c_16 => ?_) (fun c_16 => ?_)
      · exact absurd c_16 (ov_ne (by omega))
      exact kr
    · have hn : atI γ i k none := fun j hj e => hz ((G.1.2.1 i p0 j i0 (by omega) hp0 hj hi0 (e.trans hk0.symm)).1)
      refine j_iload_n h (q := 3) 0 dX1_pileWith_2 rfl rfl ?_
      refine j_bipush h (q := 5) (22) dX1_pileWith_3 rfl (by decide) ?_
      refine j_icmp_ge h (tgt := 27) (q := 8) dX1_pileWith_5 rfl (by decide) (fun c_5 => ?_) (fun c_5 => ?_)
      · exact absurd c_5 (by rw [i_Lle (by omega) (by omega)]; omega)
      refine j_aload_n h (q := 9) 1 dX1_pileWith_8 rfl rfl ?_
      refine j_iload_n h (q := 10) 0 dX1_pileWith_9 rfl rfl ?_
      refine j_iload_n h (q := 11) 2 dX1_pileWith_10 rfl rfl ?_
      refine j_cV h (q := 14) (C := RX1) (T := TX1) (N := 9) (ci := 1) mo_X1_placeIn mI_X1_placeIn mV_X1_placeIn mL_X1_92 (c_placeIn g _ _ ht _ γ R G (p := i) (by omega) hk (r := none) hn rfl) (by decide) (by omega) (tab_0 _ _ _ _) rfl rfl rfl (Nat.le_of_ble_eq_true rfl) dX1_pileWith_11 rfl ?_
      rintro _ w11 ⟨x11, rfl, e⟩
      obtain ⟨rfl, rfl⟩ := e
      refine j_bipush h (q := 16) (-6) dX1_pileWith_14 rfl (by decide) ?_
      refine j_icmp_eq h (tgt := 21) (q := 19) dX1_pileWith_16 rfl (by decide) (fun c_16 => ?_) (fun c_16 => ?_)
      rotate_left
      · exact absurd rfl c_16
      refine j_iinc h (q := 24) (loc' := [(2, _), (0, _), (1, _)]) 0 _ dX1_pileWith_21 rfl rfl rfl (by decide) rfl ?_
      refine j_goto h (tgt := 2) dX1_pileWith_24 (by decide) ?_
      rw [show nI i + Int32.ofInt 1 = nI (i + 1) from nI_1 i]
      exact ih (i + 1) (by omega) (by omega)

set_option maxRecDepth 100000 in
set_option maxHeartbeats 4000000 in
theorem c_pileWith (g : jG) (w : jW) (t : Nat) (ht : t + 6 ≤ NW) (T : Ts) (γ : Gm) (R : TR T γ) (G : GI γ) {k p0 i0 : Nat} (hp0 : p0 < 22) (hi0 : i0 < qn γ p0) (hk0 : qc γ p0 i0 = k)  : ConI g 3 yX1_pileWith cX1_pileWith 3 (some (.int)) [.ref (gr g t), .int (nI k)] (tab g w t T) (fun x w' => x = nI p0 ∧ w' = tab g w t T) := by
  refine con_of (by decide +kernel) (Nat.le_of_ble_eq_true rfl) [(0, _), (1, _)] rfl (fun K h => ?_)
  refine j_iconst h (q := 1) (0) dX1_pileWith_0 rfl (by decide) ?_
  refine j_istore_n h (q := 2) (loc' := [(2, _), (0, _), (1, _)]) dX1_pileWith_1 rfl (by decide) rfl ?_
  refine lp_pileWith g w t ht T γ R G h hp0 hi0 hk0 ?_ 22 0 rfl (Nat.zero_le _)
  refine j_iload_n h (q := 20) 0 dX1_pileWith_19 rfl rfl ?_
  refine j_iret h rfl dX1_pileWith_20 ?_
  exact ⟨_, rfl, rfl, rfl⟩

set_option maxRecDepth 100000 in
set_option maxHeartbeats 4000000 in
theorem lp_listIn (g : jG) (w : jW) (t : Nat) (ht : t + 6 ≤ NW) (T : Ts) (γ : Gm) (R : TR T γ) (G : GI γ) {K : jK} {Φ : Option Value → jW → Prop} (h : jH g K RX1 cX1_listMoves 6 (some (.int))) {z : Nat} (hz : z < NW) (hzt : z < t ∨ t + 6 ≤ z) {i : Nat} (hi : i < 14) (hg : mayGiveG γ i = true) (k : ∀ f, LF γ (22 * i + 22) f → J g 3 K 6 Φ 69 [(5, .int (nI 22)), (4, .int (nI (topK γ i))), (3, .int (nI i)), (2, .int (nI (LM γ (22 * i + 22)).length)), (0, .ref (gr g t)), (1, .ref (gr g z))] [] (tab g (va_up w z (.inl (gI g, 170, .inl f))) t T)) : ∀ n j f, j + n = 22 → 2 ≤ j → LF γ (22 * i + j) f → J g 3 K 6 Φ 31 [(5, .int (nI j)), (4, .int (nI (topK γ i))), (3, .int (nI i)), (2, .int (nI (LM γ (22 * i + j)).length)), (0, .ref (gr g t)), (1, .ref (gr g z))] [] (tab g (va_up w z (.inl (gI g, 170, .inl f))) t T) := by
  have hkk : topK γ i < 104 := G_k G (by omega) (mayGive_iff.mp hg).2.1
  intro n
  induction n with
  | zero =>
    intro j f hj h2 hf
    have hjN : j = 22 := by omega
    subst hjN
    refine j_iload h (q := 33) 0 dX1_listMoves_31 rfl rfl ?_
    refine j_bipush h (q := 35) (22) dX1_listMoves_33 rfl (by decide) ?_
    refine j_icmp_ge h (tgt := 69) (q := 38) dX1_listMoves_35 rfl (by decide) (fun c_35 => ?_) (fun c_35 => ?_)
    rotate_left
    · exact absurd (show (22 : Int32) ≤ nI 22 by decide) c_35
    exact k f hf
  | succ n ih =>
    intro j f hj h2 hf
    refine j_iload h (q := 33) 0 dX1_listMoves_31 rfl rfl ?_
    refine j_bipush h (q := 35) (22) dX1_listMoves_33 rfl (by decide) ?_
    refine j_icmp_ge h (tgt := 69) (q := 38) dX1_listMoves_35 rfl (by decide) (fun c_35 => ?_) (fun c_35 => ?_)
    · exact absurd c_35 (by rw [i_Lle (by omega) (by omega)]; omega)
    refine j_aload_n h (q := 39) 4 dX1_listMoves_38 rfl rfl ?_
    refine j_iload h (q := 41) 0 dX1_listMoves_39 rfl rfl ?_
    refine j_iload h (q := 43) 1 dX1_listMoves_41 rfl rfl ?_
    refine j_cV h (q := 46) (C := RX1) (T := TX1) (N := 9) (ci := 1) mo_X1_mayTake mI_X1_mayTake mV_X1_mayTake mL_X1_127 (c_mayTake g _ _ ht _ γ R G (p := j) rfl (by omega) hkk) (by decide) (by omega) (tab_0 _ _ _ _) rfl rfl rfl (Nat.le_of_ble_eq_true rfl) dX1_listMoves_43 rfl ?_
    rintro _ w43 ⟨x43, rfl, e⟩
    obtain ⟨rfl, rfl⟩ := e
    refine j_if_eq h (tgt := 63) (q := 49) dX1_listMoves_46 rfl (by decide) (fun c_46 => ?_) (fun c_46 => ?_)
    · have hok : okM γ (22 * i + j) = false := by rw [okM_e γ (by omega)]; unfold okG; rw [b2i_0.mp c_46, Bool.and_false]
      refine j_iinc h (q := 66) (loc' := [(5, _), (4, _), (3, _), (2, _), (0, _), (1, _)]) 0 _ dX1_listMoves_63 rfl rfl rfl (by decide) rfl ?_
      refine j_goto h (tgt := 31) dX1_listMoves_66 (by decide) ?_
      rw [show nI j + Int32.ofInt 1 = nI (j + 1) from nI_1 j]
      have e5 : LM γ (22 * i + (j + 1)) = if okM γ (22 * i + j) = true then LM γ (22 * i + j) ++ [22 * i + j] else LM γ (22 * i + j) := LM_s γ (22 * i + j)
      first
        | (have a := ih (j + 1) _ (by omega) (by omega) (LF_n hf hok)
           rw [e5, if_neg (by rw [hok]; decide)] at a
           exact j_sub [0, 1, 2, 3, 4, 5] rfl a)
        | (have a := ih (j + 1) _ (by omega) (by omega) (LF_s hf hok)
           rw [e5, if_pos hok, List.length_append] at a
           rw [show nI (LM γ (22 * i + j)).length + Int32.ofInt 1 = nI ((LM γ (22 * i + j)).length + 1) from nI_1 _]
           exact j_sub [0, 2, 3, 1, 4, 5] rfl a)
    · have hok : okM γ (22 * i + j) = true := by rw [b2i_0, Bool.not_eq_false] at c_46; rw [okM_e γ (by omega)]; unfold okG; rw [hg, c_46]; rfl
      have hll : (LM γ (22 * i + j)).length < 170 := by
        have a := LM_le (γ := γ) (k := 22 * i + j + 1) (by omega)
        rw [LM_s, if_pos hok, List.length_append] at a
        have b := list_170 G
        have c2 : [22 * i + j].length = 1 := rfl
        omega
      refine j_aload_n h (q := 50) 5 dX1_listMoves_49 rfl rfl ?_
      refine j_iload_n h (q := 51) 3 dX1_listMoves_50 rfl rfl ?_
      refine j_iload_n h (q := 52) 2 dX1_listMoves_51 rfl rfl ?_
      refine j_iload h (q := 54) 0 dX1_listMoves_52 rfl rfl ?_
      refine j_cSN h (q := 57) mo_X2_moveOf mS_X2_moveOf mL_X1_130 (c_X2_moveOf g _ _ _) (by decide) rfl rfl (Nat.le_of_ble_eq_true rfl) dX1_listMoves_54 rfl ?_
      rintro _ w54 ⟨x54, rfl, e⟩
      obtain ⟨rfl, rfl⟩ := e
      rw [i_mulL, nI_add, show i * 22 + j = 22 * i + j by omega]
      refine j_cSN h (q := 60) mo_X2_setAt mS_X2_setAt mL_X1_41 (c_X2_setAt g _ (z := z) (n := 170) (f := f) hz (by rw [tab_ne _ _ _ _ hzt, up_at]) (by decide) _ _) (by decide) rfl rfl (Nat.le_of_ble_eq_true rfl) dX1_listMoves_57 rfl ?_
      rintro _ w57 ⟨rfl, e⟩
      rw [sti_n hll (by decide), tab_up _ _ _ _ _ hzt, up_up] at e
      subst e
      refine j_iinc h (q := 63) (loc' := [(2, _), (5, _), (4, _), (3, _), (0, _), (1, _)]) 3 _ dX1_listMoves_60 rfl rfl rfl (by decide) rfl ?_
      refine j_iinc h (q := 66) (loc' := [(5, _), (2, _), (4, _), (3, _), (0, _), (1, _)]) 1 _ dX1_listMoves_63 rfl rfl rfl (by decide) rfl ?_
      refine j_goto h (tgt := 31) dX1_listMoves_66 (by decide) ?_
      rw [show nI j + Int32.ofInt 1 = nI (j + 1) from nI_1 j]
      have e5 : LM γ (22 * i + (j + 1)) = if okM γ (22 * i + j) = true then LM γ (22 * i + j) ++ [22 * i + j] else LM γ (22 * i + j) := LM_s γ (22 * i + j)
      first
        | (have a := ih (j + 1) _ (by omega) (by omega) (LF_n hf hok)
           rw [e5, if_neg (by rw [hok]; decide)] at a
           exact j_sub [0, 1, 2, 3, 4, 5] rfl a)
        | (have a := ih (j + 1) _ (by omega) (by omega) (LF_s hf hok)
           rw [e5, if_pos hok, List.length_append] at a
           rw [show nI (LM γ (22 * i + j)).length + Int32.ofInt 1 = nI ((LM γ (22 * i + j)).length + 1) from nI_1 _]
           exact j_sub [0, 2, 3, 1, 4, 5] rfl a)

set_option maxRecDepth 100000 in
set_option maxHeartbeats 4000000 in
theorem lp_listOut (g : jG) (w : jW) (t : Nat) (ht : t + 6 ≤ NW) (T : Ts) (γ : Gm) (R : TR T γ) (G : GI γ) {K : jK} {Φ : Option Value → jW → Prop} (h : jH g K RX1 cX1_listMoves 6 (some (.int))) {z : Nat} (hz : z < NW) (hzt : z < t ∨ t + 6 ≤ z) (k : ∀ f, LF γ 308 f → J g 3 K 6 Φ 75 [(3, .int (nI 14)), (2, .int (nI (LM γ (22 * 14)).length)), (0, .ref (gr g t)), (1, .ref (gr g z))] [] (tab g (va_up w z (.inl (gI g, 170, .inl f))) t T)) : ∀ n i f, i + n = 14 → LF γ (22 * i) f → J g 3 K 6 Φ 4 [(3, .int (nI i)), (2, .int (nI (LM γ (22 * i)).length)), (0, .ref (gr g t)), (1, .ref (gr g z))] [] (tab g (va_up w z (.inl (gI g, 170, .inl f))) t T) := by
  intro n
  induction n with
  | zero =>
    intro i f hi hf
    have hiN : i = 14 := by omega
    subst hiN
    refine j_iload_n h (q := 5) 0 dX1_listMoves_4 rfl rfl ?_
    refine j_bipush h (q := 7) (14) dX1_listMoves_5 rfl (by decide) ?_
    refine j_icmp_ge h (tgt := 75) (q := 10) dX1_listMoves_7 rfl (by decide) (fun c_7 => ?_) (fun c_7 => ?_)
    rotate_left
    · exact absurd (show (14 : Int32) ≤ nI 14 by decide) c_7
    exact k f hf
  | succ n ih =>
    intro i f hi hf
    refine j_iload_n h (q := 5) 0 dX1_listMoves_4 rfl rfl ?_
    refine j_bipush h (q := 7) (14) dX1_listMoves_5 rfl (by decide) ?_
    refine j_icmp_ge h (tgt := 75) (q := 10) dX1_listMoves_7 rfl (by decide) (fun c_7 => ?_) (fun c_7 => ?_)
    · exact absurd c_7 (by rw [i_Lle (by omega) (by omega)]; omega)
    refine j_aload_n h (q := 11) 2 dX1_listMoves_10 rfl rfl ?_
    refine j_iload_n h (q := 12) 0 dX1_listMoves_11 rfl rfl ?_
    refine j_cV h (q := 15) (C := RX1) (T := TX1) (N := 9) (ci := 1) mo_X1_mayGive mI_X1_mayGive mV_X1_mayGive mL_X1_124 (c_mayGive g _ _ ht _ γ R G (p := i) rfl (by omega)) (by decide) (by omega) (tab_0 _ _ _ _) rfl rfl rfl (Nat.le_of_ble_eq_true rfl) dX1_listMoves_12 rfl ?_
    rintro _ w12 ⟨x12, rfl, e⟩
    obtain ⟨rfl, rfl⟩ := e
    refine j_if_ne h (tgt := 21) (q := 18) dX1_listMoves_15 rfl (by decide) (fun c_15 => ?_) (fun c_15 => ?_)
    · have hg : mayGiveG γ i = true := by rw [b2i_0, Bool.not_eq_false] at c_15; exact c_15
      refine j_aload_n h (q := 22) 2 dX1_listMoves_21 rfl rfl ?_
      refine j_iload_n h (q := 23) 0 dX1_listMoves_22 rfl rfl ?_
      refine j_cV h (q := 26) (C := RX1) (T := TX1) (N := 9) (ci := 1) mo_X1_topOf mI_X1_topOf mV_X1_topOf mL_X1_85 (c_top g _ _ ht _ γ R G (p := i) rfl (by omega)) (by decide) (by omega) (tab_0 _ _ _ _) rfl rfl rfl (Nat.le_of_ble_eq_true rfl) dX1_listMoves_23 rfl ?_
      rintro _ w23 ⟨x23, rfl, e⟩
      obtain ⟨rfl, rfl⟩ := e
      rw [topO_k (mayGive_iff.mp hg).2.1]
      refine j_istore h (q := 28) (loc' := [(4, _), (3, _), (2, _), (0, _), (1, _)]) dX1_listMoves_26 rfl (by decide) rfl ?_
      refine j_iconst h (q := 29) (2) dX1_listMoves_28 rfl (by decide) ?_
      refine j_istore h (q := 31) (loc' := [(5, _), (4, _), (3, _), (2, _), (0, _), (1, _)]) dX1_listMoves_29 rfl (by decide) rfl ?_
      have e7 : LM γ (22 * i + 2) = LM γ (22 * i) := LM_2 (G_t G) i
      have a := lp_listIn g w t ht T γ R G h hz hzt (i := i) (by omega) hg (Φ := Φ) (fun f2 hf2 => ?_) 20 2 f rfl (Nat.le_refl _) (by unfold LF; rw [e7]; exact hf)
      · rw [e7] at a
        exact j_sub [0, 1, 2, 3, 4, 5] rfl a
      · refine j_iinc h (q := 72) (loc' := [(3, _), (5, _), (4, _), (2, _), (0, _), (1, _)]) 2 _ dX1_listMoves_69 rfl rfl rfl (by decide) rfl ?_
        refine j_goto h (tgt := 4) dX1_listMoves_72 (by decide) ?_
        rw [show nI i + Int32.ofInt 1 = nI (i + 1) from nI_1 i]
        refine j_sub [0, 3, 4, 5] rfl ?_
        exact ih (i + 1) f2 (by omega) hf2
    · have hg := b2i_0.mp c_15
      refine j_goto h (tgt := 69) dX1_listMoves_18 (by decide) ?_
      refine j_iinc h (q := 72) (loc' := [(3, _), (2, _), (0, _), (1, _)]) 0 _ dX1_listMoves_69 rfl rfl rfl (by decide) rfl ?_
      refine j_goto h (tgt := 4) dX1_listMoves_72 (by decide) ?_
      rw [show nI i + Int32.ofInt 1 = nI (i + 1) from nI_1 i]
      have e6 : LM γ (22 * (i + 1)) = LM γ (22 * i) := by rw [show 22 * (i + 1) = 22 * i + 22 by omega, row_0 hg 22 (by omega)]
      have a := ih (i + 1) f (by omega) (by unfold LF; rw [e6]; exact hf)
      rw [e6] at a
      exact a

set_option maxRecDepth 100000 in
set_option maxHeartbeats 4000000 in
theorem c_listMoves (g : jG) (w : jW) (t : Nat) (ht : t + 6 ≤ NW) (T : Ts) (γ : Gm) (R : TR T γ) (G : GI γ) {z : Nat} (hz : z < NW) (hzt : z < t ∨ t + 6 ≤ z) {f : Nat → Int32} (hw : w z = .inl (gI g, 170, .inl f))  : ConI g 3 yX1_listMoves cX1_listMoves 6 (some (.int)) [.ref (gr g t), .ref (gr g z)] (tab g w t T) (fun x w' => x = nI (LM γ 308).length ∧ ∃ f', w' = tab g (va_up w z (.inl (gI g, 170, .inl f'))) t T ∧ LF γ 308 f') := by
  refine con_of (by decide +kernel) (Nat.le_of_ble_eq_true rfl) [(0, _), (1, _)] rfl (fun K h => ?_)
  refine j_iconst h (q := 1) (0) dX1_listMoves_0 rfl (by decide) ?_
  refine j_istore_n h (q := 2) (loc' := [(2, _), (0, _), (1, _)]) dX1_listMoves_1 rfl (by decide) rfl ?_
  refine j_iconst h (q := 3) (0) dX1_listMoves_2 rfl (by decide) ?_
  refine j_istore_n h (q := 4) (loc' := [(3, _), (2, _), (0, _), (1, _)]) dX1_listMoves_3 rfl (by decide) rfl ?_
  refine j_stk (w' := tab g (va_up w z (.inl (gI g, 170, .inl f))) t T) rfl (by rw [up_id hw]) ?_
  refine lp_listOut g w t ht T γ R G h hz hzt (fun f2 hf2 => ?_) 14 0 f rfl (fun j hj => absurd hj (Nat.not_lt_zero _))
  refine j_iload_n h (q := 76) 1 dX1_listMoves_75 rfl rfl ?_
  refine j_iret h rfl dX1_listMoves_76 ?_
  exact ⟨_, rfl, rfl, f2, rfl, hf2⟩
