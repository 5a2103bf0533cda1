set_option maxRecDepth 100000 in
set_option maxHeartbeats 4000000 in
theorem c_isHouse (g : jG) (w : jW) {a : Int32} {p : Nat} (ha : a = nI p) (hp : p < 22)  : ConI g 0 yX1_isHouse cX1_isHouse 1 (some (.boolean)) [.int a] (w) (fun x w' => x = b2i (isH p) ∧ w' = w) := by
  refine con_of (by decide +kernel) (Nat.le_of_ble_eq_true rfl) [(0, _)] rfl (fun K h => ?_)
  subst ha
  refine j_iload_n h (q := 1) 0 dX1_isHouse_0 rfl rfl ?_
  refine j_bipush h (q := 3) (6) dX1_isHouse_1 rfl (by decide) ?_
  refine j_icmp_lt h (tgt := 16) (q := 6) dX1_isHouse_3 rfl (by decide) (fun c_3 => ?_) (fun c_3 => ?_)
  · refine j_iconst h (q := 17) (0) dX1_isHouse_16 rfl (by decide) ?_
    refine j_zret h rfl (by first | rfl | decide) dX1_isHouse_17 ?_
    simp (disch := omega) only [nI_add, i_addL, i_Ladd, i_subL, i_Lsub, nI_ltS, nI_leS, nI_eqS, i_ltL, i_Llt, i_leL, i_Lle, i_eqL, i_Leq, b2i_0, Bool.not_eq_false] at c_3
    first | exact ⟨_, rfl, b2i_dt (by omega), rfl⟩ | exact ⟨_, rfl, b2i_df (by omega), rfl⟩
  · refine j_iload_n h (q := 7) 0 dX1_isHouse_6 rfl rfl ?_
    refine j_bipush h (q := 9) (14) dX1_isHouse_7 rfl (by decide) ?_
    refine j_icmp_ge h (tgt := 16) (q := 12) dX1_isHouse_9 rfl (by decide) (fun c_9 => ?_) (fun c_9 => ?_)
    · refine j_iconst h (q := 17) (0) dX1_isHouse_16 rfl (by decide) ?_
      refine j_zret h rfl (by first | rfl | decide) dX1_isHouse_17 ?_
      simp (disch := omega) only [nI_add, i_addL, i_Ladd, i_subL, i_Lsub, nI_ltS, nI_leS, nI_eqS, i_ltL, i_Llt, i_leL, i_Lle, i_eqL, i_Leq, b2i_0, Bool.not_eq_false] at c_3 c_9
      first | exact ⟨_, rfl, b2i_dt (by omega), rfl⟩ | exact ⟨_, rfl, b2i_df (by omega), rfl⟩
    · refine j_iconst h (q := 13) (1) dX1_isHouse_12 rfl (by decide) ?_
      refine j_goto h (tgt := 17) dX1_isHouse_13 (by decide) ?_
      refine j_zret h rfl (by first | rfl | decide) dX1_isHouse_17 ?_
      simp (disch := omega) only [nI_add, i_addL, i_Ladd, i_subL, i_Lsub, nI_ltS, nI_leS, nI_eqS, i_ltL, i_Llt, i_leL, i_Lle, i_eqL, i_Leq, b2i_0, Bool.not_eq_false] at c_3 c_9
      first | exact ⟨_, rfl, b2i_dt (by omega), rfl⟩ | exact ⟨_, rfl, b2i_df (by omega), rfl⟩

set_option maxRecDepth 100000 in
set_option maxHeartbeats 4000000 in
theorem c_frozenFor (g : jG) (w : jW) (t : Nat) (ht : t + 6 ≤ NW) (T : Ts) (γ : Gm) (R : TR T γ) (G : GI γ) {a : Int32} {p : Nat} (ha : a = nI p) (hp : p < 22)  : ConI g 1 yX1_frozenFor cX1_frozenFor 2 (some (.int)) [.ref (gr g t), .int a] (tab g w t T) (fun x w' => x = nI (frzG γ p) ∧ w' = tab g w t T) := by
  refine con_of (by decide +kernel) (Nat.le_of_ble_eq_true rfl) [(0, _), (1, _)] rfl (fun K h => ?_)
  subst ha
  refine j_iload_n h (q := 1) 1 dX1_frozenFor_0 rfl rfl ?_
  refine j_cS h (q := 4) mo_X1_isHouse mS_X1_isHouse mL_X1_100 (c_isHouse g _ rfl hp) (by decide) rfl rfl (Nat.le_of_ble_eq_true rfl) dX1_frozenFor_1 rfl ?_
  rintro _ w1 ⟨x1, rfl, e⟩
  obtain ⟨rfl, rfl⟩ := e
  have hd : qd γ ≤ 200 := G.2.2.2.2.1
  refine j_if_eq h (tgt := 30) (q := 7) dX1_frozenFor_4 rfl (by decide) (fun c_4 => ?_) (fun c_4 => ?_)
  · refine j_iconst h (q := 31) (0) dX1_frozenFor_30 rfl (by decide) ?_
    refine j_iret h rfl dX1_frozenFor_31 ?_
    first | exact ⟨_, rfl, by unfold frzG; rw [hh, q3]; rfl, rfl⟩ | exact ⟨_, rfl, by unfold frzG; rw [b2i_0.mp c_4]; rfl, rfl⟩
  · refine j_iconst h (q := 8) (0) dX1_frozenFor_7 rfl (by decide) ?_
    refine j_aload_n h (q := 9) 0 dX1_frozenFor_8 rfl rfl ?_
    refine j_get h (q := 12) inX1 (C := RX1) (T := TX1) (N := 9) (ci := 1) rfl 4 (by decide) mF_X1_24 (by omega) (tab_0 _ _ _ _) rfl dX1_frozenFor_9 rfl ?_
    refine j_iload_n h (q := 13) 1 dX1_frozenFor_12 rfl rfl ?_
    refine j_bipush h (q := 15) (6) dX1_frozenFor_13 rfl (by decide) ?_
    refine j_isub h (q := 16) dX1_frozenFor_15 rfl ?_
    refine j_cSN h (q := 19) mo_X2_at mS_X2_at mL_X1_75 (c_X2_at g _ (by omega) (tab_5 _ _ _ _) (by decide) _) (by decide) rfl rfl (Nat.le_of_ble_eq_true rfl) dX1_frozenFor_16 rfl ?_
    rintro _ w16 ⟨x16, rfl, e⟩
    obtain ⟨rfl, rfl⟩ := e
    have hh : isH p = true := b2i_1.mp c_4
    have hh2 := hh
    simp only [isH, decide_eq_true_eq] at hh2
    obtain ⟨th, q1, q2, q3⟩ := R_th R (h := p - 6) (by omega)
    rw [show nI p - 6 = nI (p - 6) from i_subL (by omega), ati_n (by omega) (by decide), q1]
    refine j_aload_n h (q := 20) 0 dX1_frozenFor_19 rfl rfl ?_
    refine j_get h (q := 23) inX1 (C := RX1) (T := TX1) (N := 9) (ci := 1) rfl 6 (by decide) mF_X1_49 (by omega) (tab_0 _ _ _ _) rfl dX1_frozenFor_20 rfl ?_
    refine j_isub h (q := 24) dX1_frozenFor_23 rfl ?_
    refine j_cS h (q := 27) mo_J9_max_7cf53 mS_J9_max_7cf53 mL_X1_95 (c_J9_max_7cf53 g _ _ _) (by decide) rfl rfl (Nat.le_of_ble_eq_true rfl) dX1_frozenFor_24 rfl ?_
    rintro _ w24 ⟨x24, rfl, e⟩
    obtain ⟨rfl, rfl⟩ := e
    rw [R_dr R, max_i (by omega) (by omega)]
    refine j_goto h (tgt := 31) dX1_frozenFor_27 (by decide) ?_
    refine j_iret h rfl dX1_frozenFor_31 ?_
    first | exact ⟨_, rfl, by unfold frzG; rw [hh, q3]; rfl, rfl⟩ | exact ⟨_, rfl, by unfold frzG; rw [b2i_0.mp c_4]; rfl, rfl⟩

set_option maxRecDepth 100000 in
set_option maxHeartbeats 4000000 in
theorem c_isOwnHouse (g : jG) (w : jW) (t : Nat) (ht : t + 6 ≤ NW) (T : Ts) (γ : Gm) (R : TR T γ) (G : GI γ) {a : Int32} {p : Nat} (ha : a = nI p) (hp : p < 22)  : ConI g 1 yX1_isOwnHouse cX1_isOwnHouse 2 (some (.boolean)) [.ref (gr g t), .int a] (tab g w t T) (fun x w' => x = b2i (ownG γ p) ∧ w' = tab g w t T) := by
  refine con_of (by decide +kernel) (Nat.le_of_ble_eq_true rfl) [(0, _), (1, _)] rfl (fun K h => ?_)
  subst ha
  refine j_iload_n h (q := 1) 1 dX1_isOwnHouse_0 rfl rfl ?_
  refine j_cS h (q := 4) mo_X1_isHouse mS_X1_isHouse mL_X1_100 (c_isHouse g _ rfl hp) (by decide) rfl rfl (Nat.le_of_ble_eq_true rfl) dX1_isOwnHouse_1 rfl ?_
  rintro _ w1 ⟨x1, rfl, e⟩
  obtain ⟨rfl, rfl⟩ := e
  have ht2 := G_t G
  refine j_if_eq h (tgt := 24) (q := 7) dX1_isOwnHouse_4 rfl (by decide) (fun c_4 => ?_) (fun c_4 => ?_)
  · refine j_iconst h (q := 25) (0) dX1_isOwnHouse_24 rfl (by decide) ?_
    refine j_zret h rfl (by first | rfl | decide) dX1_isOwnHouse_25 ?_
    unfold ownG
    try rw [nI_eqS (by omega) (by omega)] at c_17
    first | exact ⟨_, rfl, b2i_t (by rw [b2i_1.mp c_4, c_17]; simp), rfl⟩ | exact ⟨_, rfl, b2i_f (by rw [b2i_1.mp c_4]; simp [c_17]), rfl⟩ | exact ⟨_, rfl, b2i_f (by rw [b2i_0.mp c_4]; rfl), rfl⟩
  · refine j_iload_n h (q := 8) 1 dX1_isOwnHouse_7 rfl rfl ?_
    refine j_bipush h (q := 10) (6) dX1_isOwnHouse_8 rfl (by decide) ?_
    refine j_isub h (q := 11) dX1_isOwnHouse_10 rfl ?_
    refine j_iconst h (q := 12) (4) dX1_isOwnHouse_11 rfl (by decide) ?_
    refine j_idiv h (q := 13) dX1_isOwnHouse_12 rfl (by decide) ?_
    refine j_aload_n h (q := 14) 0 dX1_isOwnHouse_13 rfl rfl ?_
    refine j_get h (q := 17) inX1 (C := RX1) (T := TX1) (N := 9) (ci := 1) rfl 5 (by decide) mF_X1_45 (by omega) (tab_0 _ _ _ _) rfl dX1_isOwnHouse_14 rfl ?_
    have hh : isH p = true := b2i_1.mp c_4
    have hh2 := hh
    simp only [isH, decide_eq_true_eq] at hh2
    rw [R_tp R, show nI p - 6 = nI (p - 6) from i_subL (by omega), show (4 : Int32) = nI 4 from rfl, pk_div (by omega) (by decide) (by decide)]
    refine j_icmp_ne h (tgt := 24) (q := 20) dX1_isOwnHouse_17 rfl (by decide) (fun c_17 => ?_) (fun c_17 => ?_)
    · refine j_iconst h (q := 25) (0) dX1_isOwnHouse_24 rfl (by decide) ?_
      refine j_zret h rfl (by first | rfl | decide) dX1_isOwnHouse_25 ?_
      unfold ownG
      try rw [nI_eqS (by omega) (by omega)] at c_17
      first | exact ⟨_, rfl, b2i_t (by rw [b2i_1.mp c_4, c_17]; simp), rfl⟩ | exact ⟨_, rfl, b2i_f (by rw [b2i_1.mp c_4]; simp [c_17]), rfl⟩ | exact ⟨_, rfl, b2i_f (by rw [b2i_0.mp c_4]; rfl), rfl⟩
    · refine j_iconst h (q := 21) (1) dX1_isOwnHouse_20 rfl (by decide) ?_
      refine j_goto h (tgt := 25) dX1_isOwnHouse_21 (by decide) ?_
      refine j_zret h rfl (by first | rfl | decide) dX1_isOwnHouse_25 ?_
      unfold ownG
      try rw [nI_eqS (by omega) (by omega)] at c_17
      first | exact ⟨_, rfl, b2i_t (by rw [b2i_1.mp c_4, c_17]; simp), rfl⟩ | exact ⟨_, rfl, b2i_f (by rw [b2i_1.mp c_4]; simp [c_17]), rfl⟩ | exact ⟨_, rfl, b2i_f (by rw [b2i_0.mp c_4]; rfl), rfl⟩

set_option maxRecDepth 100000 in
set_option maxHeartbeats 4000000 in
theorem c_otherWaste (g : jG) (w : jW) (t : Nat) (ht : t + 6 ≤ NW) (T : Ts) (γ : Gm) (R : TR T γ) (G : GI γ)  : ConI g 0 yX1_otherWaste cX1_otherWaste 1 (some (.int)) [.ref (gr g t)] (tab g w t T) (fun x w' => x = nI (3 - qt γ) ∧ w' = tab g w t T) := by
  refine con_of (by decide +kernel) (Nat.le_of_ble_eq_true rfl) [(0, _)] rfl (fun K h => ?_)
  refine j_iconst h (q := 1) (3) dX1_otherWaste_0 rfl (by decide) ?_
  refine j_aload_n h (q := 2) 0 dX1_otherWaste_1 rfl rfl ?_
  refine j_get h (q := 5) inX1 (C := RX1) (T := TX1) (N := 9) (ci := 1) rfl 5 (by decide) mF_X1_45 (by omega) (tab_0 _ _ _ _) rfl dX1_otherWaste_2 rfl ?_
  refine j_isub h (q := 6) dX1_otherWaste_5 rfl ?_
  refine j_iret h rfl dX1_otherWaste_6 ?_
  have ht2 := G_t G
  exact ⟨_, rfl, by rw [R_tp R]; exact i_Lsub (by omega), rfl⟩

theorem mayGive_iff {γ : Gm} {f : Nat} : mayGiveG γ f = true ↔ (qo γ = false ∧ 0 < qn γ f ∧ (f = qt γ ∨ f = 2 + qt γ ∨ (isH f = true ∧ qz γ (f - 6) = 0))) := by
  unfold mayGiveG
  simp only [Bool.and_eq_true, Bool.not_eq_true', decide_eq_true_eq, Bool.or_eq_true, beq_iff_eq]
theorem frz_H {γ : Gm} {p : Nat} (h : isH p = true) : frzG γ p = qz γ (p - 6) := by unfold frzG; rw [h]; rfl
theorem frz_b {γ : Gm} (G : GI γ) (p : Nat) : frzG γ p ≤ 3 := by
  unfold frzG
  cases h : isH p
  · exact Nat.zero_le _
  · simp only [isH, decide_eq_true_eq] at h
    exact G.2.2.2.1 (p - 6) (by omega)

set_option maxRecDepth 100000 in
set_option maxHeartbeats 4000000 in
theorem c_mayGive (g : jG) (w : jW) (t : Nat) (ht : t + 6 ≤ NW) (T : Ts) (γ : Gm) (R : TR T γ) (G : GI γ) {a : Int32} {p : Nat} (ha : a = nI p) (hp : p < 22)  : ConI g 2 yX1_mayGive cX1_mayGive 2 (some (.boolean)) [.ref (gr g t), .int a] (tab g w t T) (fun x w' => x = b2i (mayGiveG γ p) ∧ w' = tab g w t T) := by
  refine con_of (by decide +kernel) (Nat.le_of_ble_eq_true rfl) [(0, _), (1, _)] rfl (fun K h => ?_)
  subst ha
  refine j_aload_n h (q := 1) 0 dX1_mayGive_0 rfl rfl ?_
  refine j_get h (q := 4) inX1 (C := RX1) (T := TX1) (N := 9) (ci := 1) rfl 8 (by decide) mF_X1_55 (by omega) (tab_0 _ _ _ _) rfl dX1_mayGive_1 rfl ?_
  refine j_if_ne h (tgt := 16) (q := 7) dX1_mayGive_4 rfl (by decide) (fun c_4 => ?_) (fun c_4 => ?_)
  · refine j_iconst h (q := 17) (0) dX1_mayGive_16 rfl (by decide) ?_
    refine j_zret h rfl (by first | rfl | decide) dX1_mayGive_17 ?_
    have e1 := R_ov R
    have e2 := R_tp R
    have e3 := G_t G
    have e4 := G_n2 G hp
    have e5 := frz_b G p
    try rw [e1] at c_4
    try rw [e2] at c_25
    try rw [e2] at c_35
    simp (disch := omega) only [nI_add, i_addL, i_Ladd, i_subL, i_Lsub, nI_ltS, nI_leS, nI_eqS, i_ltL, i_Llt, i_leL, i_Lle, i_eqL, i_Leq, b2i_0, Bool.not_eq_false] at c_4
    first
      | exact ⟨_, rfl, b2i_t (mayGive_iff.mpr ⟨c_4, by omega, by first | exact Or.inl (by omega) | exact Or.inr (Or.inl (by omega)) | exact Or.inr (Or.inr ⟨c_42, by rw [← frz_H c_42]; omega⟩)⟩), rfl⟩
      | exact ⟨_, rfl, b2i_f (Bool.eq_false_iff.mpr (fun z => by
          obtain ⟨z1, z2, z3⟩ := mayGive_iff.mp z
          first
            | exact absurd (z1.symm.trans c_4) (by decide)
            | omega
            | (rcases z3 with z3 | z3 | ⟨z3, z4⟩
               · omega
               · omega
               · first | (rw [← frz_H z3] at z4; omega) | exact absurd (z3.symm.trans c_42) (by decide)))), rfl⟩
  · refine j_aload_n h (q := 8) 0 dX1_mayGive_7 rfl rfl ?_
    refine j_iload_n h (q := 9) 1 dX1_mayGive_8 rfl rfl ?_
    refine j_cV h (q := 12) (C := RX1) (T := TX1) (N := 9) (ci := 1) mo_X1_sizeOf mI_X1_sizeOf mV_X1_sizeOf mL_X1_89 (c_size g _ _ ht _ γ R rfl hp) (by decide) (by omega) (tab_0 _ _ _ _) rfl rfl rfl (Nat.le_of_ble_eq_true rfl) dX1_mayGive_9 rfl ?_
    rintro _ w9 ⟨x9, rfl, e⟩
    obtain ⟨rfl, rfl⟩ := e
    refine j_iconst h (q := 13) (1) dX1_mayGive_12 rfl (by decide) ?_
    refine j_icmp_ge h (tgt := 18) (q := 16) dX1_mayGive_13 rfl (by decide) (fun c_13 => ?_) (fun c_13 => ?_)
    · refine j_iload_n h (q := 19) 1 dX1_mayGive_18 rfl rfl ?_
      refine j_iconst h (q := 20) (0) dX1_mayGive_19 rfl (by decide) ?_
      refine j_aload_n h (q := 21) 0 dX1_mayGive_20 rfl rfl ?_
      refine j_get h (q := 24) inX1 (C := RX1) (T := TX1) (N := 9) (ci := 1) rfl 5 (by decide) mF_X1_45 (by omega) (tab_0 _ _ _ _) rfl dX1_mayGive_21 rfl ?_
      refine j_iadd h (q := 25) dX1_mayGive_24 rfl ?_
      refine j_icmp_eq h (tgt := 53) (q := 28) dX1_mayGive_25 rfl (by decide) (fun c_25 => ?_) (fun c_25 => ?_)
      · refine j_iconst h (q := 54) (1) dX1_mayGive_53 rfl (by decide) ?_
        refine j_goto h (tgt := 58) dX1_mayGive_54 (by decide) ?_
        refine j_zret h rfl (by first | rfl | decide) dX1_mayGive_58 ?_
        have e1 := R_ov R
        have e2 := R_tp R
        have e3 := G_t G
        have e4 := G_n2 G hp
        have e5 := frz_b G p
        try rw [e1] at c_4
        try rw [e2] at c_25
        try rw [e2] at c_35
        simp (disch := omega) only [nI_add, i_addL, i_Ladd, i_subL, i_Lsub, nI_ltS, nI_leS, nI_eqS, i_ltL, i_Llt, i_leL, i_Lle, i_eqL, i_Leq, b2i_0, Bool.not_eq_false] at c_4 c_13 c_25
        first
          | exact ⟨_, rfl, b2i_t (mayGive_iff.mpr ⟨c_4, by omega, by first | exact Or.inl (by omega) | exact Or.inr (Or.inl (by omega)) | exact Or.inr (Or.inr ⟨c_42, by rw [← frz_H c_42]; omega⟩)⟩), rfl⟩
          | exact ⟨_, rfl, b2i_f (Bool.eq_false_iff.mpr (fun z => by
              obtain ⟨z1, z2, z3⟩ := mayGive_iff.mp z
              first
                | exact absurd (z1.symm.trans c_4) (by decide)
                | omega
                | (rcases z3 with z3 | z3 | ⟨z3, z4⟩
                   · omega
                   · omega
                   · first | (rw [← frz_H z3] at z4; omega) | exact absurd (z3.symm.trans c_42) (by decide)))), rfl⟩
      · refine j_iload_n h (q := 29) 1 dX1_mayGive_28 rfl rfl ?_
        refine j_iconst h (q := 30) (2) dX1_mayGive_29 rfl (by decide) ?_
        refine j_aload_n h (q := 31) 0 dX1_mayGive_30 rfl rfl ?_
        refine j_get h (q := 34) inX1 (C := RX1) (T := TX1) (N := 9) (ci := 1) rfl 5 (by decide) mF_X1_45 (by omega) (tab_0 _ _ _ _) rfl dX1_mayGive_31 rfl ?_
        refine j_iadd h (q := 35) dX1_mayGive_34 rfl ?_
        refine j_icmp_eq h (tgt := 53) (q := 38) dX1_mayGive_35 rfl (by decide) (fun c_35 => ?_) (fun c_35 => ?_)
        · refine j_iconst h (q := 54) (1) dX1_mayGive_53 rfl (by decide) ?_
          refine j_goto h (tgt := 58) dX1_mayGive_54 (by decide) ?_
          refine j_zret h rfl (by first | rfl | decide) dX1_mayGive_58 ?_
          have e1 := R_ov R
          have e2 := R_tp R
          have e3 := G_t G
          have e4 := G_n2 G hp
          have e5 := frz_b G p
          try rw [e1] at c_4
          try rw [e2] at c_25
          try rw [e2] at c_35
          simp (disch := omega) only [nI_add, i_addL, i_Ladd, i_subL, i_Lsub, nI_ltS, nI_leS, nI_eqS, i_ltL, i_Llt, i_leL, i_Lle, i_eqL, i_Leq, b2i_0, Bool.not_eq_false] at c_4 c_13 c_25 c_35
          first
            | exact ⟨_, rfl, b2i_t (mayGive_iff.mpr ⟨c_4, by omega, by first | exact Or.inl (by omega) | exact Or.inr (Or.inl (by omega)) | exact Or.inr (Or.inr ⟨c_42, by rw [← frz_H c_42]; omega⟩)⟩), rfl⟩
            | exact ⟨_, rfl, b2i_f (Bool.eq_false_iff.mpr (fun z => by
                obtain ⟨z1, z2, z3⟩ := mayGive_iff.mp z
                first
                  | exact absurd (z1.symm.trans c_4) (by decide)
                  | omega
                  | (rcases z3 with z3 | z3 | ⟨z3, z4⟩
                     · omega
                     · omega
                     · first | (rw [← frz_H z3] at z4; omega) | exact absurd (z3.symm.trans c_42) (by decide)))), rfl⟩
        · refine j_iload_n h (q := 39) 1 dX1_mayGive_38 rfl rfl ?_
          refine j_cS h (q := 42) mo_X1_isHouse mS_X1_isHouse mL_X1_100 (c_isHouse g _ rfl hp) (by decide) rfl rfl (Nat.le_of_ble_eq_true rfl) dX1_mayGive_39 rfl ?_
          rintro _ w39 ⟨x39, rfl, e⟩
          obtain ⟨rfl, rfl⟩ := e
          refine j_if_eq h (tgt := 57) (q := 45) dX1_mayGive_42 rfl (by decide) (fun c_42 => ?_) (fun c_42 => ?_)
          · refine j_iconst h (q := 58) (0) dX1_mayGive_57 rfl (by decide) ?_
            refine j_zret h rfl (by first | rfl | decide) dX1_mayGive_58 ?_
            have e1 := R_ov R
            have e2 := R_tp R
            have e3 := G_t G
            have e4 := G_n2 G hp
            have e5 := frz_b G p
            try rw [e1] at c_4
            try rw [e2] at c_25
            try rw [e2] at c_35
            simp (disch := omega) only [nI_add, i_addL, i_Ladd, i_subL, i_Lsub, nI_ltS, nI_leS, nI_eqS, i_ltL, i_Llt, i_leL, i_Lle, i_eqL, i_Leq, b2i_0, Bool.not_eq_false] at c_4 c_13 c_25 c_35 c_42
            first
              | exact ⟨_, rfl, b2i_t (mayGive_iff.mpr ⟨c_4, by omega, by first | exact Or.inl (by omega) | exact Or.inr (Or.inl (by omega)) | exact Or.inr (Or.inr ⟨c_42, by rw [← frz_H c_42]; omega⟩)⟩), rfl⟩
              | exact ⟨_, rfl, b2i_f (Bool.eq_false_iff.mpr (fun z => by
                  obtain ⟨z1, z2, z3⟩ := mayGive_iff.mp z
                  first
                    | exact absurd (z1.symm.trans c_4) (by decide)
                    | omega
                    | (rcases z3 with z3 | z3 | ⟨z3, z4⟩
                       · omega
                       · omega
                       · first | (rw [← frz_H z3] at z4; omega) | exact absurd (z3.symm.trans c_42) (by decide)))), rfl⟩
          · refine j_aload_n h (q := 46) 0 dX1_mayGive_45 rfl rfl ?_
            refine j_iload_n h (q := 47) 1 dX1_mayGive_46 rfl rfl ?_
            refine j_cV h (q := 50) (C := RX1) (T := TX1) (N := 9) (ci := 1) mo_X1_frozenFor mI_X1_frozenFor mV_X1_frozenFor mL_X1_104 (c_frozenFor g _ _ ht _ γ R G rfl hp) (by decide) (by omega) (tab_0 _ _ _ _) rfl rfl rfl (Nat.le_of_ble_eq_true rfl) dX1_mayGive_47 rfl ?_
            rintro _ w47 ⟨x47, rfl, e⟩
            obtain ⟨rfl, rfl⟩ := e
            refine j_if_ne h (tgt := 57) (q := 53) dX1_mayGive_50 rfl (by decide) (fun c_50 => ?_) (fun c_50 => ?_)
            · refine j_iconst h (q := 58) (0) dX1_mayGive_57 rfl (by decide) ?_
              refine j_zret h rfl (by first | rfl | decide) dX1_mayGive_58 ?_
              have e1 := R_ov R
              have e2 := R_tp R
              have e3 := G_t G
              have e4 := G_n2 G hp
              have e5 := frz_b G p
              try rw [e1] at c_4
              try rw [e2] at c_25
              try rw [e2] at c_35
              simp (disch := omega) only [nI_add, i_addL, i_Ladd, i_subL, i_Lsub, nI_ltS, nI_leS, nI_eqS, i_ltL, i_Llt, i_leL, i_Lle, i_eqL, i_Leq, b2i_0, Bool.not_eq_false] at c_4 c_13 c_25 c_35 c_42 c_50
              first
                | exact ⟨_, rfl, b2i_t (mayGive_iff.mpr ⟨c_4, by omega, by first | exact Or.inl (by omega) | exact Or.inr (Or.inl (by omega)) | exact Or.inr (Or.inr ⟨c_42, by rw [← frz_H c_42]; omega⟩)⟩), rfl⟩
                | exact ⟨_, rfl, b2i_f (Bool.eq_false_iff.mpr (fun z => by
                    obtain ⟨z1, z2, z3⟩ := mayGive_iff.mp z
                    first
                      | exact absurd (z1.symm.trans c_4) (by decide)
                      | omega
                      | (rcases z3 with z3 | z3 | ⟨z3, z4⟩
                         · omega
                         · omega
                         · first | (rw [← frz_H z3] at z4; omega) | exact absurd (z3.symm.trans c_42) (by decide)))), rfl⟩
            · refine j_iconst h (q := 54) (1) dX1_mayGive_53 rfl (by decide) ?_
              refine j_goto h (tgt := 58) dX1_mayGive_54 (by decide) ?_
              refine j_zret h rfl (by first | rfl | decide) dX1_mayGive_58 ?_
              have e1 := R_ov R
              have e2 := R_tp R
              have e3 := G_t G
              have e4 := G_n2 G hp
              have e5 := frz_b G p
              try rw [e1] at c_4
              try rw [e2] at c_25
              try rw [e2] at c_35
              simp (disch := omega) only [nI_add, i_addL, i_Ladd, i_subL, i_Lsub, nI_ltS, nI_leS, nI_eqS, i_ltL, i_Llt, i_leL, i_Lle, i_eqL, i_Leq, b2i_0, Bool.not_eq_false] at c_4 c_13 c_25 c_35 c_42 c_50
              first
                | exact ⟨_, rfl, b2i_t (mayGive_iff.mpr ⟨c_4, by omega, by first | exact Or.inl (by omega) | exact Or.inr (Or.inl (by omega)) | exact Or.inr (Or.inr ⟨c_42, by rw [← frz_H c_42]; omega⟩)⟩), rfl⟩
                | exact ⟨_, rfl, b2i_f (Bool.eq_false_iff.mpr (fun z => by
                    obtain ⟨z1, z2, z3⟩ := mayGive_iff.mp z
                    first
                      | exact absurd (z1.symm.trans c_4) (by decide)
                      | omega
                      | (rcases z3 with z3 | z3 | ⟨z3, z4⟩
                         · omega
                         · omega
                         · first | (rw [← frz_H z3] at z4; omega) | exact absurd (z3.symm.trans c_42) (by decide)))), rfl⟩
    · refine j_iconst h (q := 17) (0) dX1_mayGive_16 rfl (by decide) ?_
      refine j_zret h rfl (by first | rfl | decide) dX1_mayGive_17 ?_
      have e1 := R_ov R
      have e2 := R_tp R
      have e3 := G_t G
      have e4 := G_n2 G hp
      have e5 := frz_b G p
      try rw [e1] at c_4
      try rw [e2] at c_25
      try rw [e2] at c_35
      simp (disch := omega) only [nI_add, i_addL, i_Ladd, i_subL, i_Lsub, nI_ltS, nI_leS, nI_eqS, i_ltL, i_Llt, i_leL, i_Lle, i_eqL, i_Leq, b2i_0, Bool.not_eq_false] at c_4 c_13
      first
        | exact ⟨_, rfl, b2i_t (mayGive_iff.mpr ⟨c_4, by omega, by first | exact Or.inl (by omega) | exact Or.inr (Or.inl (by omega)) | exact Or.inr (Or.inr ⟨c_42, by rw [← frz_H c_42]; omega⟩)⟩), rfl⟩
        | exact ⟨_, rfl, b2i_f (Bool.eq_false_iff.mpr (fun z => by
            obtain ⟨z1, z2, z3⟩ := mayGive_iff.mp z
            first
              | exact absurd (z1.symm.trans c_4) (by decide)
              | omega
              | (rcases z3 with z3 | z3 | ⟨z3, z4⟩
                 · omega
                 · omega
                 · first | (rw [← frz_H z3] at z4; omega) | exact absurd (z3.symm.trans c_42) (by decide)))), rfl⟩

theorem mayTake_H {γ : Gm} {t k : Nat} (h : isH t = true) : mayTakeG γ t k = (qz γ (t - 6) == 0 && fH k (topO γ t)) := by unfold mayTakeG; rw [h]; rfl
theorem mayTake_A {γ : Gm} {t k : Nat} (h : 14 ≤ t) : mayTakeG γ t k = fA k (topO γ t) := by unfold mayTakeG isH; rw [decide_eq_false (by omega), decide_eq_true h]; rfl
theorem mayTake_W {γ : Gm} {t k : Nat} (h : t < 6) : mayTakeG γ t k = (t == 3 - qt γ && fW k (topO γ t)) := by unfold mayTakeG isH; rw [decide_eq_false (by omega), decide_eq_false (by omega)]; rfl
theorem isH_f {p : Nat} (h : isH p = false) : p < 6 ∨ 14 ≤ p := by
  simp only [isH, decide_eq_false_iff_not] at h; omega

set_option maxRecDepth 100000 in
set_option maxHeartbeats 4000000 in
theorem c_mayTake (g : jG) (w : jW) (t : Nat) (ht : t + 6 ≤ NW) (T : Ts) (γ : Gm) (R : TR T γ) (G : GI γ) {a : Int32} {p : Nat} (ha : a = nI p) (hp : p < 22) {k : Nat} (hk : k < 104)  : ConI g 2 yX1_mayTake cX1_mayTake 3 (some (.boolean)) [.ref (gr g t), .int a, .int (nI k)] (tab g w t T) (fun x w' => x = b2i (mayTakeG γ p k) ∧ w' = tab g w t T) := by
  refine con_of (by decide +kernel) (Nat.le_of_ble_eq_true rfl) [(0, _), (1, _), (2, _)] rfl (fun K h => ?_)
  subst ha
  refine j_iload_n h (q := 1) 1 dX1_mayTake_0 rfl rfl ?_
  refine j_cS h (q := 4) mo_X1_isHouse mS_X1_isHouse mL_X1_100 (c_isHouse g _ rfl hp) (by decide) rfl rfl (Nat.le_of_ble_eq_true rfl) dX1_mayTake_1 rfl ?_
  rintro _ w1 ⟨x1, rfl, e⟩
  obtain ⟨rfl, rfl⟩ := e
  refine j_if_eq h (tgt := 33) (q := 7) dX1_mayTake_4 rfl (by decide) (fun c_4 => ?_) (fun c_4 => ?_)
  · refine j_iload_n h (q := 34) 1 dX1_mayTake_33 rfl rfl ?_
    refine j_bipush h (q := 36) (14) dX1_mayTake_34 rfl (by decide) ?_
    refine j_icmp_lt h (tgt := 49) (q := 39) dX1_mayTake_36 rfl (by decide) (fun c_36 => ?_) (fun c_36 => ?_)
    · refine j_iload_n h (q := 50) 1 dX1_mayTake_49 rfl rfl ?_
      refine j_aload_n h (q := 51) 0 dX1_mayTake_50 rfl rfl ?_
      refine j_cV h (q := 54) (C := RX1) (T := TX1) (N := 9) (ci := 1) mo_X1_otherWaste mI_X1_otherWaste mV_X1_otherWaste mL_X1_114 (c_otherWaste g _ _ ht _ γ R G) (by decide) (by omega) (tab_0 _ _ _ _) rfl rfl rfl (Nat.le_of_ble_eq_true rfl) dX1_mayTake_51 rfl ?_
      rintro _ w51 ⟨x51, rfl, e⟩
      obtain ⟨rfl, rfl⟩ := e
      refine j_icmp_ne h (tgt := 73) (q := 57) dX1_mayTake_54 rfl (by decide) (fun c_54 => ?_) (fun c_54 => ?_)
      · refine j_iconst h (q := 74) (0) dX1_mayTake_73 rfl (by decide) ?_
        refine j_zret h rfl (by first | exact b2i_n _ | rfl) dX1_mayTake_74 ?_
        have e3 := G_t G
        have e5 := frz_b G p
        simp (disch := omega) only [nI_add, i_addL, i_Ladd, i_subL, i_Lsub, nI_ltS, nI_leS, nI_eqS, i_ltL, i_Llt, i_leL, i_Lle, i_eqL, i_Leq, b2i_0, Bool.not_eq_false] at c_4 c_36 c_54
        first
          | exact ⟨_, rfl, b2i_t (by rw [mayTake_H c_4, c_24, ← frz_H c_4, show (frzG γ p == 0) = true by rw [beq_iff_eq]; omega]; rfl), rfl⟩
          | exact ⟨_, rfl, b2i_f (by rw [mayTake_H c_4, c_24, Bool.and_false]), rfl⟩
          | exact ⟨_, rfl, b2i_f (by rw [mayTake_H c_4, ← frz_H c_4, show (frzG γ p == 0) = false by rw [beq_eq_false_iff_ne]; omega]; rfl), rfl⟩
          | exact ⟨_, rfl, by rw [mayTake_A (by omega)], rfl⟩
          | exact ⟨_, rfl, b2i_t (by
              rw [mayTake_W (by have := isH_f c_4; omega), c_66, Bool.and_true, beq_iff_eq]; omega), rfl⟩
          | exact ⟨_, rfl, b2i_f (by
              rw [mayTake_W (by have := isH_f c_4; omega), c_66, Bool.and_false]), rfl⟩
          | exact ⟨_, rfl, b2i_f (by
              rw [mayTake_W (by have := isH_f c_4; omega), show (p == 3 - qt γ) = false by rw [beq_eq_false_iff_ne]; omega]; rfl), rfl⟩
      · refine j_iload_n h (q := 58) 2 dX1_mayTake_57 rfl rfl ?_
        refine j_aload_n h (q := 59) 0 dX1_mayTake_58 rfl rfl ?_
        refine j_iload_n h (q := 60) 1 dX1_mayTake_59 rfl rfl ?_
        refine j_cV h (q := 63) (C := RX1) (T := TX1) (N := 9) (ci := 1) mo_X1_topOf mI_X1_topOf mV_X1_topOf mL_X1_85 (c_top g _ _ ht _ γ R G rfl hp) (by decide) (by omega) (tab_0 _ _ _ _) rfl rfl rfl (Nat.le_of_ble_eq_true rfl) dX1_mayTake_60 rfl ?_
        rintro _ w60 ⟨x60, rfl, e⟩
        obtain ⟨rfl, rfl⟩ := e
        refine j_cSN h (q := 66) mo_X2_fitsWaste mS_X2_fitsWaste mL_X1_118 (c_X2_fitsWaste g _ hk (G_o G hp)) (by decide) rfl rfl (Nat.le_of_ble_eq_true rfl) dX1_mayTake_63 rfl ?_
        rintro _ w63 ⟨x63, rfl, e⟩
        obtain ⟨rfl, rfl⟩ := e
        refine j_if_eq h (tgt := 73) (q := 69) dX1_mayTake_66 rfl (by decide) (fun c_66 => ?_) (fun c_66 => ?_)
        · refine j_iconst h (q := 74) (0) dX1_mayTake_73 rfl (by decide) ?_
          refine j_zret h rfl (by first | exact b2i_n _ | rfl) dX1_mayTake_74 ?_
          have e3 := G_t G
          have e5 := frz_b G p
          simp (disch := omega) only [nI_add, i_addL, i_Ladd, i_subL, i_Lsub, nI_ltS, nI_leS, nI_eqS, i_ltL, i_Llt, i_leL, i_Lle, i_eqL, i_Leq, b2i_0, Bool.not_eq_false] at c_4 c_36 c_54 c_66
          first
            | exact ⟨_, rfl, b2i_t (by rw [mayTake_H c_4, c_24, ← frz_H c_4, show (frzG γ p == 0) = true by rw [beq_iff_eq]; omega]; rfl), rfl⟩
            | exact ⟨_, rfl, b2i_f (by rw [mayTake_H c_4, c_24, Bool.and_false]), rfl⟩
            | exact ⟨_, rfl, b2i_f (by rw [mayTake_H c_4, ← frz_H c_4, show (frzG γ p == 0) = false by rw [beq_eq_false_iff_ne]; omega]; rfl), rfl⟩
            | exact ⟨_, rfl, by rw [mayTake_A (by omega)], rfl⟩
            | exact ⟨_, rfl, b2i_t (by
                rw [mayTake_W (by have := isH_f c_4; omega), c_66, Bool.and_true, beq_iff_eq]; omega), rfl⟩
            | exact ⟨_, rfl, b2i_f (by
                rw [mayTake_W (by have := isH_f c_4; omega), c_66, Bool.and_false]), rfl⟩
            | exact ⟨_, rfl, b2i_f (by
                rw [mayTake_W (by have := isH_f c_4; omega), show (p == 3 - qt γ) = false by rw [beq_eq_false_iff_ne]; omega]; rfl), rfl⟩
        · refine j_iconst h (q := 70) (1) dX1_mayTake_69 rfl (by decide) ?_
          refine j_goto h (tgt := 74) dX1_mayTake_70 (by decide) ?_
          refine j_zret h rfl (by first | exact b2i_n _ | rfl) dX1_mayTake_74 ?_
          have e3 := G_t G
          have e5 := frz_b G p
          simp (disch := omega) only [nI_add, i_addL, i_Ladd, i_subL, i_Lsub, nI_ltS, nI_leS, nI_eqS, i_ltL, i_Llt, i_leL, i_Lle, i_eqL, i_Leq, b2i_0, Bool.not_eq_false] at c_4 c_36 c_54 c_66
          first
            | exact ⟨_, rfl, b2i_t (by rw [mayTake_H c_4, c_24, ← frz_H c_4, show (frzG γ p == 0) = true by rw [beq_iff_eq]; omega]; rfl), rfl⟩
            | exact ⟨_, rfl, b2i_f (by rw [mayTake_H c_4, c_24, Bool.and_false]), rfl⟩
            | exact ⟨_, rfl, b2i_f (by rw [mayTake_H c_4, ← frz_H c_4, show (frzG γ p == 0) = false by rw [beq_eq_false_iff_ne]; omega]; rfl), rfl⟩
            | exact ⟨_, rfl, by rw [mayTake_A (by omega)], rfl⟩
            | exact ⟨_, rfl, b2i_t (by
                rw [mayTake_W (by have := isH_f c_4; omega), c_66, Bool.and_true, beq_iff_eq]; omega), rfl⟩
            | exact ⟨_, rfl, b2i_f (by
                rw [mayTake_W (by have := isH_f c_4; omega), c_66, Bool.and_false]), rfl⟩
            | exact ⟨_, rfl, b2i_f (by
                rw [mayTake_W (by have := isH_f c_4; omega), show (p == 3 - qt γ) = false by rw [beq_eq_false_iff_ne]; omega]; rfl), rfl⟩
    · refine j_iload_n h (q := 40) 2 dX1_mayTake_39 rfl rfl ?_
      refine j_aload_n h (q := 41) 0 dX1_mayTake_40 rfl rfl ?_
      refine j_iload_n h (q := 42) 1 dX1_mayTake_41 rfl rfl ?_
      refine j_cV h (q := 45) (C := RX1) (T := TX1) (N := 9) (ci := 1) mo_X1_topOf mI_X1_topOf mV_X1_topOf mL_X1_85 (c_top g _ _ ht _ γ R G rfl hp) (by decide) (by omega) (tab_0 _ _ _ _) rfl rfl rfl (Nat.le_of_ble_eq_true rfl) dX1_mayTake_42 rfl ?_
      rintro _ w42 ⟨x42, rfl, e⟩
      obtain ⟨rfl, rfl⟩ := e
      refine j_cSN h (q := 48) mo_X2_fitsAces mS_X2_fitsAces mL_X1_111 (c_X2_fitsAces g _ hk (G_o G hp)) (by decide) rfl rfl (Nat.le_of_ble_eq_true rfl) dX1_mayTake_45 rfl ?_
      rintro _ w45 ⟨x45, rfl, e⟩
      obtain ⟨rfl, rfl⟩ := e
      refine j_zret h rfl (by first | exact b2i_n _ | rfl) dX1_mayTake_48 ?_
      have e3 := G_t G
      have e5 := frz_b G p
      simp (disch := omega) only [nI_add, i_addL, i_Ladd, i_subL, i_Lsub, nI_ltS, nI_leS, nI_eqS, i_ltL, i_Llt, i_leL, i_Lle, i_eqL, i_Leq, b2i_0, Bool.not_eq_false] at c_4 c_36
      first
        | exact ⟨_, rfl, b2i_t (by rw [mayTake_H c_4, c_24, ← frz_H c_4, show (frzG γ p == 0) = true by rw [beq_iff_eq]; omega]; rfl), rfl⟩
        | exact ⟨_, rfl, b2i_f (by rw [mayTake_H c_4, c_24, Bool.and_false]), rfl⟩
        | exact ⟨_, rfl, b2i_f (by rw [mayTake_H c_4, ← frz_H c_4, show (frzG γ p == 0) = false by rw [beq_eq_false_iff_ne]; omega]; rfl), rfl⟩
        | exact ⟨_, rfl, by rw [mayTake_A (by omega)], rfl⟩
        | exact ⟨_, rfl, b2i_t (by
            rw [mayTake_W (by have := isH_f c_4; omega), c_66, Bool.and_true, beq_iff_eq]; omega), rfl⟩
        | exact ⟨_, rfl, b2i_f (by
            rw [mayTake_W (by have := isH_f c_4; omega), c_66, Bool.and_false]), rfl⟩
        | exact ⟨_, rfl, b2i_f (by
            rw [mayTake_W (by have := isH_f c_4; omega), show (p == 3 - qt γ) = false by rw [beq_eq_false_iff_ne]; omega]; rfl), rfl⟩
  · refine j_aload_n h (q := 8) 0 dX1_mayTake_7 rfl rfl ?_
    refine j_iload_n h (q := 9) 1 dX1_mayTake_8 rfl rfl ?_
    refine j_cV h (q := 12) (C := RX1) (T := TX1) (N := 9) (ci := 1) mo_X1_frozenFor mI_X1_frozenFor mV_X1_frozenFor mL_X1_104 (c_frozenFor g _ _ ht _ γ R G rfl hp) (by decide) (by omega) (tab_0 _ _ _ _) rfl rfl rfl (Nat.le_of_ble_eq_true rfl) dX1_mayTake_9 rfl ?_
    rintro _ w9 ⟨x9, rfl, e⟩
    obtain ⟨rfl, rfl⟩ := e
    refine j_if_ne h (tgt := 31) (q := 15) dX1_mayTake_12 rfl (by decide) (fun c_12 => ?_) (fun c_12 => ?_)
    · refine j_iconst h (q := 32) (0) dX1_mayTake_31 rfl (by decide) ?_
      refine j_zret h rfl (by first | exact b2i_n _ | rfl) dX1_mayTake_32 ?_
      have e3 := G_t G
      have e5 := frz_b G p
      simp (disch := omega) only [nI_add, i_addL, i_Ladd, i_subL, i_Lsub, nI_ltS, nI_leS, nI_eqS, i_ltL, i_Llt, i_leL, i_Lle, i_eqL, i_Leq, b2i_0, Bool.not_eq_false] at c_4 c_12
      first
        | exact ⟨_, rfl, b2i_t (by rw [mayTake_H c_4, c_24, ← frz_H c_4, show (frzG γ p == 0) = true by rw [beq_iff_eq]; omega]; rfl), rfl⟩
        | exact ⟨_, rfl, b2i_f (by rw [mayTake_H c_4, c_24, Bool.and_false]), rfl⟩
        | exact ⟨_, rfl, b2i_f (by rw [mayTake_H c_4, ← frz_H c_4, show (frzG γ p == 0) = false by rw [beq_eq_false_iff_ne]; omega]; rfl), rfl⟩
        | exact ⟨_, rfl, by rw [mayTake_A (by omega)], rfl⟩
        | exact ⟨_, rfl, b2i_t (by
            rw [mayTake_W (by have := isH_f c_4; omega), c_66, Bool.and_true, beq_iff_eq]; omega), rfl⟩
        | exact ⟨_, rfl, b2i_f (by
            rw [mayTake_W (by have := isH_f c_4; omega), c_66, Bool.and_false]), rfl⟩
        | exact ⟨_, rfl, b2i_f (by
            rw [mayTake_W (by have := isH_f c_4; omega), show (p == 3 - qt γ) = false by rw [beq_eq_false_iff_ne]; omega]; rfl), rfl⟩
    · refine j_iload_n h (q := 16) 2 dX1_mayTake_15 rfl rfl ?_
      refine j_aload_n h (q := 17) 0 dX1_mayTake_16 rfl rfl ?_
      refine j_iload_n h (q := 18) 1 dX1_mayTake_17 rfl rfl ?_
      refine j_cV h (q := 21) (C := RX1) (T := TX1) (N := 9) (ci := 1) mo_X1_topOf mI_X1_topOf mV_X1_topOf mL_X1_85 (c_top g _ _ ht _ γ R G rfl hp) (by decide) (by omega) (tab_0 _ _ _ _) rfl rfl rfl (Nat.le_of_ble_eq_true rfl) dX1_mayTake_18 rfl ?_
      rintro _ w18 ⟨x18, rfl, e⟩
      obtain ⟨rfl, rfl⟩ := e
      refine j_cSN h (q := 24) mo_X2_fitsHouse mS_X2_fitsHouse mL_X1_107 (c_X2_fitsHouse g _ hk (G_o G hp)) (by decide) rfl rfl (Nat.le_of_ble_eq_true rfl) dX1_mayTake_21 rfl ?_
      rintro _ w21 ⟨x21, rfl, e⟩
      obtain ⟨rfl, rfl⟩ := e
      refine j_if_eq h (tgt := 31) (q := 27) dX1_mayTake_24 rfl (by decide) (fun c_24 => ?_) (fun c_24 => ?_)
      · refine j_iconst h (q := 32) (0) dX1_mayTake_31 rfl (by decide) ?_
        refine j_zret h rfl (by first | exact b2i_n _ | rfl) dX1_mayTake_32 ?_
        have e3 := G_t G
        have e5 := frz_b G p
        simp (disch := omega) only [nI_add, i_addL, i_Ladd, i_subL, i_Lsub, nI_ltS, nI_leS, nI_eqS, i_ltL, i_Llt, i_leL, i_Lle, i_eqL, i_Leq, b2i_0, Bool.not_eq_false] at c_4 c_12 c_24
        first
          | exact ⟨_, rfl, b2i_t (by rw [mayTake_H c_4, c_24, ← frz_H c_4, show (frzG γ p == 0) = true by rw [beq_iff_eq]; omega]; rfl), rfl⟩
          | exact ⟨_, rfl, b2i_f (by rw [mayTake_H c_4, c_24, Bool.and_false]), rfl⟩
          | exact ⟨_, rfl, b2i_f (by rw [mayTake_H c_4, ← frz_H c_4, show (frzG γ p == 0) = false by rw [beq_eq_false_iff_ne]; omega]; rfl), rfl⟩
          | exact ⟨_, rfl, by rw [mayTake_A (by omega)], rfl⟩
          | exact ⟨_, rfl, b2i_t (by
              rw [mayTake_W (by have := isH_f c_4; omega), c_66, Bool.and_true, beq_iff_eq]; omega), rfl⟩
          | exact ⟨_, rfl, b2i_f (by
              rw [mayTake_W (by have := isH_f c_4; omega), c_66, Bool.and_false]), rfl⟩
          | exact ⟨_, rfl, b2i_f (by
              rw [mayTake_W (by have := isH_f c_4; omega), show (p == 3 - qt γ) = false by rw [beq_eq_false_iff_ne]; omega]; rfl), rfl⟩
      · refine j_iconst h (q := 28) (1) dX1_mayTake_27 rfl (by decide) ?_
        refine j_goto h (tgt := 32) dX1_mayTake_28 (by decide) ?_
        refine j_zret h rfl (by first | exact b2i_n _ | rfl) dX1_mayTake_32 ?_
        have e3 := G_t G
        have e5 := frz_b G p
        simp (disch := omega) only [nI_add, i_addL, i_Ladd, i_subL, i_Lsub, nI_ltS, nI_leS, nI_eqS, i_ltL, i_Llt, i_leL, i_Lle, i_eqL, i_Leq, b2i_0, Bool.not_eq_false] at c_4 c_12 c_24
        first
          | exact ⟨_, rfl, b2i_t (by rw [mayTake_H c_4, c_24, ← frz_H c_4, show (frzG γ p == 0) = true by rw [beq_iff_eq]; omega]; rfl), rfl⟩
          | exact ⟨_, rfl, b2i_f (by rw [mayTake_H c_4, c_24, Bool.and_false]), rfl⟩
          | exact ⟨_, rfl, b2i_f (by rw [mayTake_H c_4, ← frz_H c_4, show (frzG γ p == 0) = false by rw [beq_eq_false_iff_ne]; omega]; rfl), rfl⟩
          | exact ⟨_, rfl, by rw [mayTake_A (by omega)], rfl⟩
          | exact ⟨_, rfl, b2i_t (by
              rw [mayTake_W (by have := isH_f c_4; omega), c_66, Bool.and_true, beq_iff_eq]; omega), rfl⟩
          | exact ⟨_, rfl, b2i_f (by
              rw [mayTake_W (by have := isH_f c_4; omega), c_66, Bool.and_false]), rfl⟩
          | exact ⟨_, rfl, b2i_f (by
              rw [mayTake_W (by have := isH_f c_4; omega), show (p == 3 - qt γ) = false by rw [beq_eq_false_iff_ne]; omega]; rfl), rfl⟩
