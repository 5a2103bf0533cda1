/-- what of the reference stays when its game goes on -/
def KE (M M' : Ms) : Prop := Mhs M' = Mhs M ∧ Mrc M' = Mrc M ∧ Msl M' = Msl M ∧ Msv M' = Msv M ∧ Mpd M' = Mpd M ∧ Mpl M' = Mpl M ∧ Mkp M' = Mkp M
theorem KE_r (M : Ms) : KE M M := ⟨rfl, rfl, rfl, rfl, rfl, rfl, rfl⟩
theorem KE_t {M M' M'' : Ms} (a : KE M M') (b : KE M' M'') : KE M M'' := ⟨b.1.trans a.1, b.2.1.trans a.2.1, b.2.2.1.trans a.2.2.1, b.2.2.2.1.trans a.2.2.2.1, b.2.2.2.2.1.trans a.2.2.2.2.1, b.2.2.2.2.2.1.trans a.2.2.2.2.2.1, b.2.2.2.2.2.2.trans a.2.2.2.2.2.2⟩

set_option maxRecDepth 100000 in
set_option maxHeartbeats 4000000 in
theorem lp_plays (g : jG) (w : jW) {K : jK} {Φ : Option Value → jW → Prop} (h : jH g K RX3 cX3_plays 4 (some (.int))) {steps : Nat} (hs : steps < 1000) : ∀ n j γ M, j + n = steps → MR (Mst M) γ → GI γ → (∀ M' l, MR (Mst M') (playG n γ) → KE M M' → J g 6 K 4 Φ 83 ((2, .int (nI (j + playN n γ))) :: l) [] (mw g w M')) → J g 6 K 4 Φ 2 [(2, .int (nI (j))), (0, .ref (gr g 67)), (1, .int (nI steps))] [] (mw g w M) := by
  intro n
  induction n with
  | zero =>
    intro j γ M hj R G kk
    have hjN : j = steps := by omega
    subst hjN
    refine j_iload_n h (q := 3) 0 dX3_plays_2 rfl rfl ?_
    refine j_iload_n h (q := 4) 2 dX3_plays_3 rfl rfl ?_
    refine j_icmp_ge h (tgt := 83) (q := 7) dX3_plays_4 rfl (by decide) (fun c_4 => ?_) (fun c_4 => ?_)
    rotate_left
    · exact absurd (Int32.le_refl _) c_4
    exact kk M _ R (KE_r M)
  | succ n ih =>
    intro j γ M hj R G kk
    cases ho : qo γ with
    | true =>
      refine j_iload_n h (q := 3) 0 dX3_plays_2 rfl rfl ?_
      refine j_iload_n h (q := 4) 2 dX3_plays_3 rfl rfl ?_
      refine j_icmp_ge h (tgt := 83) (q := 7) dX3_plays_4 rfl (by decide) (fun c_4 => ?_) (fun c_4 => ?_)
      · exact absurd c_4 (by rw [nI_leS (by omega) (by omega)]; omega)
      refine j_aload_n h (q := 8) 1 dX3_plays_7 rfl rfl ?_
      refine j_get h (q := 11) inX3 (C := RX3) (T := TX3) (N := 17) (ci := 3) rfl 0 (by decide) mF_X3_7 (by decide) (mw_0 _ _ _) rfl dX3_plays_8 rfl ?_
      refine j_sipush h (q := 14) (221) dX3_plays_11 rfl (by decide) ?_
      refine j_ldn h (q := 15) (221) (by decide) (mw_st _ _ _) rfl (by decide) (by decide) dX3_plays_14 rfl ?_
      rw [M_ov R, ho]
      refine j_if_ne h (tgt := 83) (q := 18) dX3_plays_15 rfl (by decide) (fun c_15 => ?_) (fun c_15 => ?_)
      rotate_left
      · exact absurd (show b2i true = 0 from c_15) (by decide)
      have hpg : playG (n + 1) γ = γ := by show (bif qo γ then γ else _) = _; rw [ho]; rfl
      have hpn : playN (n + 1) γ = 0 := by show (bif qo γ then 0 else _) = _; rw [ho]; rfl
      rw [hpg, hpn] at kk
      exact kk M _ R (KE_r M)
    | false =>
      have hpg : playG (n + 1) γ = playG n (ruleG γ) := by show (bif qo γ then _ else _) = _; rw [ho]; rfl
      have hpn : playN (n + 1) γ = playN n (ruleG γ) + 1 := by show (bif qo γ then _ else _) = _; rw [ho]; rfl
      cases hbst : bestG γ with
      | none =>
        refine j_iload_n h (q := 3) 0 dX3_plays_2 rfl rfl ?_
        refine j_iload_n h (q := 4) 2 dX3_plays_3 rfl rfl ?_
        refine j_icmp_ge h (tgt := 83) (q := 7) dX3_plays_4 rfl (by decide) (fun c_4 => ?_) (fun c_4 => ?_)
        · exact absurd c_4 (by rw [nI_leS (by omega) (by omega)]; omega)
        refine j_aload_n h (q := 8) 1 dX3_plays_7 rfl rfl ?_
        refine j_get h (q := 11) inX3 (C := RX3) (T := TX3) (N := 17) (ci := 3) rfl 0 (by decide) mF_X3_7 (by decide) (mw_0 _ _ _) rfl dX3_plays_8 rfl ?_
        refine j_sipush h (q := 14) (221) dX3_plays_11 rfl (by decide) ?_
        refine j_ldn h (q := 15) (221) (by decide) (mw_st _ _ _) rfl (by decide) (by decide) dX3_plays_14 rfl ?_
        rw [M_ov R, ho]
        refine j_if_ne h (tgt := 83) (q := 18) dX3_plays_15 rfl (by decide) (fun c_15 => ?_) (fun c_15 => ?_)
        · exact absurd (show b2i false = 0 from rfl) c_15
        refine j_aload_n h (q := 19) 1 dX3_plays_18 rfl rfl ?_
        refine j_cV h (q := 22) (C := RX3) (T := TX3) (N := 17) (ci := 3) mo_X3_look mI_X3_look mV_X3_look mL_X3_102 (m_look g w M γ R G) (by decide) (by decide) (mw_0 _ _ _) rfl rfl rfl (Nat.le_of_ble_eq_true rfl) dX3_plays_19 rfl ?_
        rintro _ w19 ⟨rfl, e⟩
        obtain ⟨sz, tp, rfl, L⟩ := e
        refine j_aload_n h (q := 23) 1 dX3_plays_22 rfl rfl ?_
        refine j_cV h (q := 26) (C := RX3) (T := TX3) (N := 17) (ci := 3) mo_X3_findBest mI_X3_findBest mV_X3_findBest mL_X3_120 (m_findBest g w (stp (ssz M sz) tp) γ R G L) (by decide) (by decide) (mw_0 _ _ _) rfl rfl rfl (Nat.le_of_ble_eq_true rfl) dX3_plays_23 rfl ?_
        rintro _ w23 ⟨x23, rfl, e⟩
        obtain ⟨rfl, rfl⟩ := e
        rw [best_i, hbst]
        refine j_bipush h (q := 28) (-6) dX3_plays_26 rfl (by decide) ?_
        refine j_icmp_eq h (tgt := 50) (q := 31) dX3_plays_28 rfl (by decide) (fun c_28 => ?_) (fun c_28 => ?_)
        rotate_left
        · exact absurd rfl c_28
        refine j_iconst h (q := 51) (0) dX3_plays_50 rfl (by decide) ?_
        refine j_istore_n h (q := 52) (loc' := [(3, _), (2, _), (0, _), (1, _)]) dX3_plays_51 rfl (by decide) rfl ?_
        refine j_iload_n h (q := 53) 0 dX3_plays_52 rfl rfl ?_
        refine j_if_eq h (tgt := 72) (q := 56) dX3_plays_53 rfl (by decide) (fun c_53 => ?_) (fun c_53 => ?_)
        rotate_left
        · exact absurd rfl c_53
        refine j_aload_n h (q := 73) 2 dX3_plays_72 rfl rfl ?_
        refine j_cV h (q := 76) (C := RX3) (T := TX3) (N := 17) (ci := 3) mo_X3_draws mI_X3_draws mV_X3_draws mL_X3_127 (m_draws g w (smm (stp (ssz M sz) tp) (bF none) (bT none)) γ R G ho) (by decide) (by decide) (mw_0 _ _ _) rfl rfl rfl (Nat.le_of_ble_eq_true rfl) dX3_plays_73 rfl ?_
        rintro _ w73 ⟨x73, rfl, e⟩
        obtain ⟨rfl, st, sz2, tp2, rfl, R2⟩ := e
        refine j_pop h (q := 77) dX3_plays_76 rfl rfl ?_
        refine j_iinc h (q := 80) (loc' := [(2, _), (3, _), (0, _), (1, _)]) 1 _ dX3_plays_77 rfl rfl rfl (by decide) rfl ?_
        refine j_goto h (tgt := 2) dX3_plays_80 (by decide) ?_
        rw [show nI j + Int32.ofInt 1 = nI (j + 1) from nI_1 j]
        refine j_sub [0, 2, 3] rfl ?_
        refine ih (j + 1) (ruleG γ) (stp (ssz (sst (smm (stp (ssz M sz) tp) (bF none) (bT none)) st) sz2) tp2) (by omega) (by rw [rule_none hbst]; exact R2) (GI_rule G ho) (fun M' l h9 h10 => ?_)
        have h8 := kk M' l (by rw [hpg]; exact h9) h10
        rw [hpn, show j + (playN n (ruleG γ) + 1) = j + 1 + playN n (ruleG γ) by omega] at h8
        exact h8
      | some b =>
        have hlen := list_170 G
        obtain ⟨h308, hok⟩ := best_some hbst
        obtain ⟨hb1, hb2⟩ := best_ok hbst
        have hp3 := ptM_le γ b.2
        by_cases hpt : 1 ≤ ptM γ b.2
        · have h00 := 0
          refine j_iload_n h (q := 3) 0 dX3_plays_2 rfl rfl ?_
          refine j_iload_n h (q := 4) 2 dX3_plays_3 rfl rfl ?_
          refine j_icmp_ge h (tgt := 83) (q := 7) dX3_plays_4 rfl (by decide) (fun c_4 => ?_) (fun c_4 => ?_)
          · exact absurd c_4 (by rw [nI_leS (by omega) (by omega)]; omega)
          refine j_aload_n h (q := 8) 1 dX3_plays_7 rfl rfl ?_
          refine j_get h (q := 11) inX3 (C := RX3) (T := TX3) (N := 17) (ci := 3) rfl 0 (by decide) mF_X3_7 (by decide) (mw_0 _ _ _) rfl dX3_plays_8 rfl ?_
          refine j_sipush h (q := 14) (221) dX3_plays_11 rfl (by decide) ?_
          refine j_ldn h (q := 15) (221) (by decide) (mw_st _ _ _) rfl (by decide) (by decide) dX3_plays_14 rfl ?_
          rw [M_ov R, ho]
          refine j_if_ne h (tgt := 83) (q := 18) dX3_plays_15 rfl (by decide) (fun c_15 => ?_) (fun c_15 => ?_)
          · exact absurd (show b2i false = 0 from rfl) c_15
          refine j_aload_n h (q := 19) 1 dX3_plays_18 rfl rfl ?_
          refine j_cV h (q := 22) (C := RX3) (T := TX3) (N := 17) (ci := 3) mo_X3_look mI_X3_look mV_X3_look mL_X3_102 (m_look g w M γ R G) (by decide) (by decide) (mw_0 _ _ _) rfl rfl rfl (Nat.le_of_ble_eq_true rfl) dX3_plays_19 rfl ?_
          rintro _ w19 ⟨rfl, e⟩
          obtain ⟨sz, tp, rfl, L⟩ := e
          refine j_aload_n h (q := 23) 1 dX3_plays_22 rfl rfl ?_
          refine j_cV h (q := 26) (C := RX3) (T := TX3) (N := 17) (ci := 3) mo_X3_findBest mI_X3_findBest mV_X3_findBest mL_X3_120 (m_findBest g w (stp (ssz M sz) tp) γ R G L) (by decide) (by decide) (mw_0 _ _ _) rfl rfl rfl (Nat.le_of_ble_eq_true rfl) dX3_plays_23 rfl ?_
          rintro _ w23 ⟨x23, rfl, e⟩
          obtain ⟨rfl, rfl⟩ := e
          rw [best_i, hbst]
          refine j_bipush h (q := 28) (-6) dX3_plays_26 rfl (by decide) ?_
          refine j_icmp_eq h (tgt := 50) (q := 31) dX3_plays_28 rfl (by decide) (fun c_28 => ?_) (fun c_28 => ?_)
          · exact absurd c_28 (nI_ne6 (by omega))
          refine j_aload_n h (q := 32) 1 dX3_plays_31 rfl rfl ?_
          refine j_aload_n h (q := 33) 1 dX3_plays_32 rfl rfl ?_
          refine j_get h (q := 36) inX3 (C := RX3) (T := TX3) (N := 17) (ci := 3) rfl 11 (by decide) mF_X3_111 (by decide) (mw_0 _ _ _) rfl dX3_plays_33 rfl ?_
          refine j_aload_n h (q := 37) 1 dX3_plays_36 rfl rfl ?_
          refine j_get h (q := 40) inX3 (C := RX3) (T := TX3) (N := 17) (ci := 3) rfl 12 (by decide) mF_X3_117 (by decide) (mw_0 _ _ _) rfl dX3_plays_37 rfl ?_
          refine j_cV h (q := 43) (C := RX3) (T := TX3) (N := 17) (ci := 3) mo_X3_pointsFor mI_X3_pointsFor mV_X3_pointsFor mL_X3_98 (m_pointsFor g w (smm (stp (ssz M sz) tp) (bF (some b)) (bT (some b))) γ R G L (f := b.2 / 22) (u := b.2 % 22) rfl rfl (by omega) (by omega) hok) (by decide) (by decide) (mw_0 _ _ _) rfl rfl rfl (Nat.le_of_ble_eq_true rfl) dX3_plays_40 rfl ?_
          rintro _ w40 ⟨x40, rfl, e⟩
          obtain ⟨rfl, rfl⟩ := e
          rw [show ptsG γ (b.2 / 22) (b.2 % 22) = ptM γ b.2 from rfl]
          refine j_if_le h (tgt := 50) (q := 46) dX3_plays_43 rfl (by decide) (fun c_43 => ?_) (fun c_43 => ?_)
          · rw [i_leL (by omega) (by decide)] at c_43; omega
          refine j_iconst h (q := 47) (1) dX3_plays_46 rfl (by decide) ?_
          refine j_goto h (tgt := 51) dX3_plays_47 (by decide) ?_
          refine j_istore_n h (q := 52) (loc' := [(3, _), (2, _), (0, _), (1, _)]) dX3_plays_51 rfl (by decide) rfl ?_
          refine j_iload_n h (q := 53) 0 dX3_plays_52 rfl rfl ?_
          refine j_if_eq h (tgt := 72) (q := 56) dX3_plays_53 rfl (by decide) (fun c_53 => ?_) (fun c_53 => ?_)
          · exact absurd c_53 (by decide)
          refine j_aload_n h (q := 57) 2 dX3_plays_56 rfl rfl ?_
          refine j_aload_n h (q := 58) 2 dX3_plays_57 rfl rfl ?_
          refine j_get h (q := 61) inX3 (C := RX3) (T := TX3) (N := 17) (ci := 3) rfl 11 (by decide) mF_X3_111 (by decide) (mw_0 _ _ _) rfl dX3_plays_58 rfl ?_
          refine j_aload_n h (q := 62) 2 dX3_plays_61 rfl rfl ?_
          refine j_get h (q := 65) inX3 (C := RX3) (T := TX3) (N := 17) (ci := 3) rfl 12 (by decide) mF_X3_117 (by decide) (mw_0 _ _ _) rfl dX3_plays_62 rfl ?_
          refine j_cV h (q := 68) (C := RX3) (T := TX3) (N := 17) (ci := 3) mo_X3_doesMove mI_X3_doesMove mV_X3_doesMove mL_X3_124 (m_doesMove g w (smm (stp (ssz M sz) tp) (bF (some b)) (bT (some b))) γ R G L (f := b.2 / 22) (u := b.2 % 22) rfl rfl (by omega) (by omega) hok) (by decide) (by decide) (mw_0 _ _ _) rfl rfl rfl (Nat.le_of_ble_eq_true rfl) dX3_plays_65 rfl ?_
          rintro _ w65 ⟨x65, rfl, e⟩
          obtain ⟨rfl, st, sz2, tp2, rfl, R2, -⟩ := e
          refine j_pop h (q := 69) dX3_plays_68 rfl rfl ?_
          refine j_goto h (tgt := 77) dX3_plays_69 (by decide) ?_
          refine j_iinc h (q := 80) (loc' := [(2, _), (3, _), (0, _), (1, _)]) 1 _ dX3_plays_77 rfl rfl rfl (by decide) rfl ?_
          refine j_goto h (tgt := 2) dX3_plays_80 (by decide) ?_
          rw [show nI j + Int32.ofInt 1 = nI (j + 1) from nI_1 j]
          refine j_sub [0, 2, 3] rfl ?_
          refine ih (j + 1) (ruleG γ) (stp (ssz (sst (smm (stp (ssz M sz) tp) (bF (some b)) (bT (some b))) st) sz2) tp2) (by omega) (by rw [rule_mv hbst hpt]; exact R2) (GI_rule G ho) (fun M' l h9 h10 => ?_)
          have h8 := kk M' l (by rw [hpg]; exact h9) h10
          rw [hpn, show j + (playN n (ruleG γ) + 1) = j + 1 + playN n (ruleG γ) by omega] at h8
          exact h8
        · have h00 := 0
          refine j_iload_n h (q := 3) 0 dX3_plays_2 rfl rfl ?_
          refine j_iload_n h (q := 4) 2 dX3_plays_3 rfl rfl ?_
          refine j_icmp_ge h (tgt := 83) (q := 7) dX3_plays_4 rfl (by decide) (fun c_4 => ?_) (fun c_4 => ?_)
          · exact absurd c_4 (by rw [nI_leS (by omega) (by omega)]; omega)
          refine j_aload_n h (q := 8) 1 dX3_plays_7 rfl rfl ?_
          refine j_get h (q := 11) inX3 (C := RX3) (T := TX3) (N := 17) (ci := 3) rfl 0 (by decide) mF_X3_7 (by decide) (mw_0 _ _ _) rfl dX3_plays_8 rfl ?_
          refine j_sipush h (q := 14) (221) dX3_plays_11 rfl (by decide) ?_
          refine j_ldn h (q := 15) (221) (by decide) (mw_st _ _ _) rfl (by decide) (by decide) dX3_plays_14 rfl ?_
          rw [M_ov R, ho]
          refine j_if_ne h (tgt := 83) (q := 18) dX3_plays_15 rfl (by decide) (fun c_15 => ?_) (fun c_15 => ?_)
          · exact absurd (show b2i false = 0 from rfl) c_15
          refine j_aload_n h (q := 19) 1 dX3_plays_18 rfl rfl ?_
          refine j_cV h (q := 22) (C := RX3) (T := TX3) (N := 17) (ci := 3) mo_X3_look mI_X3_look mV_X3_look mL_X3_102 (m_look g w M γ R G) (by decide) (by decide) (mw_0 _ _ _) rfl rfl rfl (Nat.le_of_ble_eq_true rfl) dX3_plays_19 rfl ?_
          rintro _ w19 ⟨rfl, e⟩
          obtain ⟨sz, tp, rfl, L⟩ := e
          refine j_aload_n h (q := 23) 1 dX3_plays_22 rfl rfl ?_
          refine j_cV h (q := 26) (C := RX3) (T := TX3) (N := 17) (ci := 3) mo_X3_findBest mI_X3_findBest mV_X3_findBest mL_X3_120 (m_findBest g w (stp (ssz M sz) tp) γ R G L) (by decide) (by decide) (mw_0 _ _ _) rfl rfl rfl (Nat.le_of_ble_eq_true rfl) dX3_plays_23 rfl ?_
          rintro _ w23 ⟨x23, rfl, e⟩
          obtain ⟨rfl, rfl⟩ := e
          rw [best_i, hbst]
          refine j_bipush h (q := 28) (-6) dX3_plays_26 rfl (by decide) ?_
          refine j_icmp_eq h (tgt := 50) (q := 31) dX3_plays_28 rfl (by decide) (fun c_28 => ?_) (fun c_28 => ?_)
          · exact absurd c_28 (nI_ne6 (by omega))
          refine j_aload_n h (q := 32) 1 dX3_plays_31 rfl rfl ?_
          refine j_aload_n h (q := 33) 1 dX3_plays_32 rfl rfl ?_
          refine j_get h (q := 36) inX3 (C := RX3) (T := TX3) (N := 17) (ci := 3) rfl 11 (by decide) mF_X3_111 (by decide) (mw_0 _ _ _) rfl dX3_plays_33 rfl ?_
          refine j_aload_n h (q := 37) 1 dX3_plays_36 rfl rfl ?_
          refine j_get h (q := 40) inX3 (C := RX3) (T := TX3) (N := 17) (ci := 3) rfl 12 (by decide) mF_X3_117 (by decide) (mw_0 _ _ _) rfl dX3_plays_37 rfl ?_
          refine j_cV h (q := 43) (C := RX3) (T := TX3) (N := 17) (ci := 3) mo_X3_pointsFor mI_X3_pointsFor mV_X3_pointsFor mL_X3_98 (m_pointsFor g w (smm (stp (ssz M sz) tp) (bF (some b)) (bT (some b))) γ R G L (f := b.2 / 22) (u := b.2 % 22) rfl rfl (by omega) (by omega) hok) (by decide) (by decide) (mw_0 _ _ _) rfl rfl rfl (Nat.le_of_ble_eq_true rfl) dX3_plays_40 rfl ?_
          rintro _ w40 ⟨x40, rfl, e⟩
          obtain ⟨rfl, rfl⟩ := e
          rw [show ptsG γ (b.2 / 22) (b.2 % 22) = ptM γ b.2 from rfl]
          refine j_if_le h (tgt := 50) (q := 46) dX3_plays_43 rfl (by decide) (fun c_43 => ?_) (fun c_43 => ?_)
          rotate_left
          · exact absurd ((i_leL (by omega) (by decide)).mpr (by omega)) c_43
          refine j_iconst h (q := 51) (0) dX3_plays_50 rfl (by decide) ?_
          refine j_istore_n h (q := 52) (loc' := [(3, _), (2, _), (0, _), (1, _)]) dX3_plays_51 rfl (by decide) rfl ?_
          refine j_iload_n h (q := 53) 0 dX3_plays_52 rfl rfl ?_
          refine j_if_eq h (tgt := 72) (q := 56) dX3_plays_53 rfl (by decide) (fun c_53 => ?_) (fun c_53 => ?_)
          rotate_left
          · exact absurd rfl c_53
          refine j_aload_n h (q := 73) 2 dX3_plays_72 rfl rfl ?_
          refine j_cV h (q := 76) (C := RX3) (T := TX3) (N := 17) (ci := 3) mo_X3_draws mI_X3_draws mV_X3_draws mL_X3_127 (m_draws g w (smm (stp (ssz M sz) tp) (bF (some b)) (bT (some b))) γ R G ho) (by decide) (by decide) (mw_0 _ _ _) rfl rfl rfl (Nat.le_of_ble_eq_true rfl) dX3_plays_73 rfl ?_
          rintro _ w73 ⟨x73, rfl, e⟩
          obtain ⟨rfl, st, sz2, tp2, rfl, R2⟩ := e
          refine j_pop h (q := 77) dX3_plays_76 rfl rfl ?_
          refine j_iinc h (q := 80) (loc' := [(2, _), (3, _), (0, _), (1, _)]) 1 _ dX3_plays_77 rfl rfl rfl (by decide) rfl ?_
          refine j_goto h (tgt := 2) dX3_plays_80 (by decide) ?_
          rw [show nI j + Int32.ofInt 1 = nI (j + 1) from nI_1 j]
          refine j_sub [0, 2, 3] rfl ?_
          refine ih (j + 1) (ruleG γ) (stp (ssz (sst (smm (stp (ssz M sz) tp) (bF (some b)) (bT (some b))) st) sz2) tp2) (by omega) (by rw [rule_lo hbst hpt]; exact R2) (GI_rule G ho) (fun M' l h9 h10 => ?_)
          have h8 := kk M' l (by rw [hpg]; exact h9) h10
          rw [hpn, show j + (playN n (ruleG γ) + 1) = j + 1 + playN n (ruleG γ) by omega] at h8
          exact h8

set_option maxRecDepth 100000 in
set_option maxHeartbeats 4000000 in
theorem m_plays (g : jG) (w : jW) (M : Ms) (γ : Gm) (R : MR (Mst M) γ) (G : GI γ) {a : Int32} {steps : Nat} (ha : a = nI steps) (hs : steps < 1000)  : ConI g 6 yX3_plays cX3_plays 4 (some (.int)) [.ref (gr g 67), .int a] (mw g w M) (fun y w' => y = nI (playN steps γ) ∧ ∃ M', w' = mw g w M' ∧ MR (Mst M') (playG steps γ) ∧ KE M M') := by
  refine con_of (by decide +kernel) (Nat.le_of_ble_eq_true rfl) [(0, _), (1, _)] rfl (fun K h => ?_)
  subst ha
  refine j_iconst h (q := 1) (0) dX3_plays_0 rfl (by decide) ?_
  refine j_istore_n h (q := 2) (loc' := [(2, _), (0, _), (1, _)]) dX3_plays_1 rfl (by decide) rfl ?_
  refine lp_plays g w h hs steps 0 γ M (by omega) R G (fun M' l h1 h2 => ?_)
  rw [Nat.zero_add]
  refine j_iload_n h (q := 84) 0 dX3_plays_83 rfl rfl ?_
  refine j_iret h rfl dX3_plays_84 ?_
  exact ⟨_, rfl, rfl, M', rfl, h1, h2⟩

def mvR (f : Nat → Int32) (a : Nat) (u : Nat → Int32) (b k : Nat) : Nat → Int32 := fun j => if b ≤ j ∧ j < b + k then f (a + (j - b)) else u j
theorem mvR_0 (f : Nat → Int32) (a : Nat) (u : Nat → Int32) (b : Nat) : mvR f a u b 0 = u := by funext j; unfold mvR; rw [if_neg (by omega)]
theorem mvR_s (f : Nat → Int32) (a : Nat) (u : Nat → Int32) (b k : Nat) : upd (mvR f a u b k) (b + k) (f (a + k)) = mvR f a u b (k + 1) := by
  funext j
  unfold upd mvR
  by_cases z : j = b + k
  · subst z; rw [if_pos rfl, if_pos (by omega), show a + (b + k - b) = a + k by omega]
  · rw [if_neg z]
    by_cases y : b ≤ j ∧ j < b + k
    · rw [if_pos y, if_pos (by omega)]
    · rw [if_neg y, if_neg (by omega)]
/-- two rows of the reference: the one read, the one written -/
def RW (g : jG) (w : jW) (z n : Nat) (f : Nat → Int32) : Prop := z < NW ∧ n < 2 ^ 31 ∧ w z = .inl (gI g, n, .inl f)
theorem up_self {w : jW} {z : Nat} {a : va_E} (h : w z = a) : va_up w z a = w := by
  funext p
  by_cases hp : p = z
  · subst hp; rw [up_at, h]
  · rw [up_ne _ _ hp]

set_option maxRecDepth 100000 in
set_option maxHeartbeats 4000000 in
theorem lp_moves (g : jG) (w : jW) {K : jK} {Φ : Option Value → jW → Prop} (h : jH g K RX3 cX3_moves 5 none) {z n y m a b : Nat} {f u : Nat → Int32} (hz : RW g w z n f) (hy : RW g w y m u) (hzy : z ≠ y) (ha : a + 224 ≤ n) (hb : b + 224 ≤ m) (hn : n < 10000) (hm : m < 10000) (kk : J g 0 K 5 Φ 29 [(4, .int (nI 224)), (0, .ref (gr g z)), (1, .int (nI a)), (2, .ref (gr g y)), (3, .int (nI b))] [] (va_up w y (.inl (gI g, m, .inl (mvR f a u b (224)))))) : ∀ n1 k, k + n1 = 224 → J g 0 K 5 Φ 3 [(4, .int (nI k)), (0, .ref (gr g z)), (1, .int (nI a)), (2, .ref (gr g y)), (3, .int (nI b))] [] (va_up w y (.inl (gI g, m, .inl (mvR f a u b (k))))) := by
  intro n1
  induction n1 with
  | zero =>
    intro k hk
    have hkN : k = 224 := by omega
    subst hkN
    refine j_iload h (q := 5) 0 dX3_moves_3 rfl rfl ?_
    refine j_sipush h (q := 8) (224) dX3_moves_5 rfl (by decide) ?_
    refine j_icmp_ge h (tgt := 29) (q := 11) dX3_moves_8 rfl (by decide) (fun c_8 => ?_) (fun c_8 => ?_)
    rotate_left
    · exact absurd (show (224 : Int32) ≤ nI 224 by decide) c_8
    exact kk
  | succ n1 ih =>
    intro k hk
    refine j_iload h (q := 5) 0 dX3_moves_3 rfl rfl ?_
    refine j_sipush h (q := 8) (224) dX3_moves_5 rfl (by decide) ?_
    refine j_icmp_ge h (tgt := 29) (q := 11) dX3_moves_8 rfl (by decide) (fun c_8 => ?_) (fun c_8 => ?_)
    · exact absurd c_8 (by rw [i_Lle (by omega) (by omega)]; omega)
    refine j_aload_n h (q := 12) 3 dX3_moves_11 rfl rfl ?_
    refine j_iload_n h (q := 13) 4 dX3_moves_12 rfl rfl ?_
    refine j_iload h (q := 15) 0 dX3_moves_13 rfl rfl ?_
    refine j_iadd h (q := 16) dX3_moves_15 rfl ?_
    refine j_aload_n h (q := 17) 1 dX3_moves_16 rfl rfl ?_
    refine j_iload_n h (q := 18) 2 dX3_moves_17 rfl rfl ?_
    refine j_iload h (q := 20) 0 dX3_moves_18 rfl rfl ?_
    refine j_iadd h (q := 21) dX3_moves_20 rfl ?_
    refine j_ldn h (q := 22) (a + k) hz.1 ((up_ne _ _ hzy).trans hz.2.2) (nI_add _ _) (by omega) hz.2.1 dX3_moves_21 rfl ?_
    refine j_stn h (q := 23) (b + k) hy.1 (up_at _ _ _) (nI_add _ _) (by omega) hy.2.1 dX3_moves_22 rfl ?_
    rw [up_up, mvR_s]
    refine j_iinc h (q := 26) (loc' := [(4, _), (0, _), (1, _), (2, _), (3, _)]) 0 _ dX3_moves_23 rfl rfl rfl (by decide) rfl ?_
    refine j_goto h (tgt := 3) dX3_moves_26 (by decide) ?_
    rw [show nI k + Int32.ofInt 1 = nI (k + 1) from nI_1 k]
    refine j_sub [0, 1, 2, 3, 4] rfl ?_
    exact ih (k + 1) (by omega)

set_option maxRecDepth 100000 in
set_option maxHeartbeats 4000000 in
theorem m_moves (g : jG) (w : jW) {z n y m a b : Nat} {f u : Nat → Int32} (hz : RW g w z n f) (hy : RW g w y m u) (hzy : z ≠ y) {xa xb : Int32} (exa : xa = nI a) (exb : xb = nI b) (ha : a + 224 ≤ n) (hb : b + 224 ≤ m) (hn : n < 10000) (hm : m < 10000)  : ConV g 0 yX3_moves cX3_moves 5 none [.ref (gr g z), .int xa, .ref (gr g y), .int xb] (w) (fun w' => w' = va_up w y (.inl (gI g, m, .inl (mvR f a u b (224))))) := by
  refine con_of (by decide +kernel) (Nat.le_of_ble_eq_true rfl) [(0, _), (1, _), (2, _), (3, _)] rfl (fun K h => ?_)
  subst exa; subst exb
  refine j_iconst h (q := 1) (0) dX3_moves_0 rfl (by decide) ?_
  refine j_istore h (q := 3) (loc' := [(4, _), (0, _), (1, _), (2, _), (3, _)]) dX3_moves_1 rfl (by decide) rfl ?_
  rw [show J g 0 K 5 _ 3 _ [] w = J g 0 K 5 _ 3 _ [] (va_up w y (.inl (gI g, m, .inl (mvR f a u b 0)))) by rw [mvR_0, up_self hy.2.2]]
  refine lp_moves g w h hz hy hzy ha hb hn hm ?_ 224 0 rfl
  refine j_vret h rfl dX3_moves_29 ?_
  exact ⟨rfl, rfl⟩
