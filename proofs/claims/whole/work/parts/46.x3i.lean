theorem MX_st {M M' : Ms} {σ : Sg} (h : MX M σ) (k : KE M M') (R : MR (Mst M') (zg σ)) : MX M' σ := by
  obtain ⟨h1, h2, h3, h4, h5, h6⟩ := h
  obtain ⟨k1, k2, k3, k4, k5, k6, k7⟩ := k
  refine ⟨R, k2.trans h2, fun i hi => ?_, fun i hi => ?_, k6.trans h5, fun i hi => ?_⟩
  · rw [k1]; exact h3 i hi
  · rw [k3, k4]; exact h4 i hi
  · rw [k5]; exact h6 i hi

set_option maxRecDepth 100000 in
set_option maxHeartbeats 4000000 in
theorem M_pile (g : jG) (w : jW) (M : Ms) (σ : Sg) (S : SI σ) (R : MX M σ) (a b : Int32)  : ConI g 2 yX3_pile cX3_pile 3 (some (.int)) [.ref (gr g 67), .int a, .int b] (mw g w M) (fun x w' => x = spPile (zg σ) a b ∧ ∃ M', w' = mw g w M' ∧ MX M' σ) := by
  refine con_of (by decide +kernel) (Nat.le_of_ble_eq_true rfl) [(0, _), (1, _), (2, _)] rfl (fun K h => ?_)
  by_cases ha : inn 22 a
  · obtain ⟨k, hk, rfl, hvk⟩ := inn_of (by decide) ha
    have hs : spPile (zg σ) (nI k) b = (if b = 0 then nI (qn (zg σ) k) else if b = 1 then ov (topO (zg σ) k) else if b = 2 then nI (frzG (zg σ) k) else -2) := by unfold spPile; rw [if_pos ha, hvk]
    refine j_iload_n h (q := 1) 1 dX3_pile_0 rfl rfl ?_
    refine j_cS h (q := 4) mo_X3_isPile mS_X3_isPile mL_X3_133 (m_isPile g _ _) (by decide) rfl rfl (Nat.le_of_ble_eq_true rfl) dX3_pile_1 rfl ?_
    rintro _ w1 ⟨x1, rfl, e⟩
    obtain ⟨e1, rfl⟩ := e
    obtain rfl : x1 = 1 := e1.trans (b2i_dt (show inn 22 (nI k) from ha)).symm
    refine j_if_ne h (tgt := 9) (q := 7) dX3_pile_4 rfl (by decide) (fun c_4 => ?_) (fun c_4 => ?_)
    rotate_left
    · exact absurd (show (1 : Int32) = 0 by assumption) (by decide)
    refine j_aload_n h (q := 10) 0 dX3_pile_9 rfl rfl ?_
    refine j_cV h (q := 13) (C := RX3) (T := TX3) (N := 17) (ci := 3) mo_X3_look mI_X3_look mV_X3_look mL_X3_102 (m_look g w M (zg σ) R.1 S.1) (by decide) (by decide) (mw_0 _ _ _) rfl rfl rfl (Nat.le_of_ble_eq_true rfl) dX3_pile_10 rfl ?_
    rintro _ w10 ⟨rfl, e⟩
    obtain ⟨sz, tp, rfl, L⟩ := e
    refine j_iload_n h (q := 14) 2 dX3_pile_13 rfl rfl ?_
    by_cases hsw14 : (b).toInt < 0 ∨ 2 < (b).toInt
    · refine j_tableOut h (tgt := 79) dX3_pile_14 hsw14 (by decide) ?_
      refine j_bipush h (q := 81) (-2) dX3_pile_79 rfl (by decide) ?_
      refine j_iret h rfl dX3_pile_81 ?_
      exact ⟨_, rfl, by rw [hs, if_neg (show ¬ b = 0 from sw_out (n := 2) (k := 0) hsw14 (by decide) (by decide)), if_neg (show ¬ b = 1 from sw_out (n := 2) (k := 1) hsw14 (by decide) (by decide)), if_neg (show ¬ b = 2 from sw_out (n := 2) (k := 2) hsw14 (by decide) (by decide))], _, rfl, MX_eq R ⟨rfl, rfl, rfl, rfl, rfl, rfl, rfl⟩ rfl⟩
    by_cases hs14_0 : b = 0
    · subst hs14_0
      refine j_tableIn h (tgt := 40) dX3_pile_14 (by decide) (by decide) rfl (by decide) ?_
      refine j_aload_n h (q := 41) 0 dX3_pile_40 rfl rfl ?_
      refine j_get h (q := 44) inX3 (C := RX3) (T := TX3) (N := 17) (ci := 3) rfl 8 (by decide) mF_X3_28 (by decide) (mw_0 _ _ _) rfl dX3_pile_41 rfl ?_
      refine j_iload_n h (q := 45) 1 dX3_pile_44 rfl rfl ?_
      refine j_ldn h (q := 46) (k) (by decide) (mw_sz _ _ _) rfl hk (by decide) dX3_pile_45 rfl ?_
      refine j_iret h rfl dX3_pile_46 ?_
      exact ⟨_, rfl, by rw [hs, if_pos rfl]; exact (L k hk).1, _, rfl, MX_eq R ⟨rfl, rfl, rfl, rfl, rfl, rfl, rfl⟩ rfl⟩
    by_cases hs14_1 : b = 1
    · subst hs14_1
      refine j_tableIn h (tgt := 47) dX3_pile_14 (by decide) (by decide) rfl (by decide) ?_
      refine j_aload_n h (q := 48) 0 dX3_pile_47 rfl rfl ?_
      refine j_get h (q := 51) inX3 (C := RX3) (T := TX3) (N := 17) (ci := 3) rfl 9 (by decide) mF_X3_31 (by decide) (mw_0 _ _ _) rfl dX3_pile_48 rfl ?_
      refine j_iload_n h (q := 52) 1 dX3_pile_51 rfl rfl ?_
      refine j_ldn h (q := 53) (k) (by decide) (mw_tp _ _ _) rfl hk (by decide) dX3_pile_52 rfl ?_
      refine j_iret h rfl dX3_pile_53 ?_
      exact ⟨_, rfl, by rw [hs, if_neg (by decide), if_pos rfl]; exact (L k hk).2, _, rfl, MX_eq R ⟨rfl, rfl, rfl, rfl, rfl, rfl, rfl⟩ rfl⟩
    have hs14_2 : b = 2 := sw_last3 (b) hsw14 hs14_0 hs14_1
    subst hs14_2
    refine j_tableIn h (tgt := 54) dX3_pile_14 (by decide) (by decide) rfl (by decide) ?_
    refine j_iload_n h (q := 55) 1 dX3_pile_54 rfl rfl ?_
    refine j_cS h (q := 58) mo_X3_isHouse mS_X3_isHouse mL_X3_68 (m_isHouse g _ rfl (by omega)) (by decide) rfl rfl (Nat.le_of_ble_eq_true rfl) dX3_pile_55 rfl ?_
    rintro _ w55 ⟨x55, rfl, e⟩
    obtain ⟨rfl, rfl⟩ := e
    refine j_if_eq h (tgt := 77) (q := 61) dX3_pile_58 rfl (by decide) (fun c_58 => ?_) (fun c_58 => ?_)
    · rw [b2i_0] at c_58
      refine j_iconst h (q := 78) (0) dX3_pile_77 rfl (by decide) ?_
      refine j_iret h rfl dX3_pile_78 ?_
      exact ⟨_, rfl, by rw [hs, if_neg (by decide), if_neg (by decide), if_pos rfl]; unfold frzG; rw [c_58]; rfl, _, rfl, MX_eq R ⟨rfl, rfl, rfl, rfl, rfl, rfl, rfl⟩ rfl⟩
    · rw [b2i_1] at c_58
      have hh := isH_t c_58
      refine j_aload_n h (q := 62) 0 dX3_pile_61 rfl rfl ?_
      refine j_get h (q := 65) inX3 (C := RX3) (T := TX3) (N := 17) (ci := 3) rfl 0 (by decide) mF_X3_7 (by decide) (mw_0 _ _ _) rfl dX3_pile_62 rfl ?_
      refine j_sipush h (q := 68) (212) dX3_pile_65 rfl (by decide) ?_
      refine j_iload_n h (q := 69) 1 dX3_pile_68 rfl rfl ?_
      refine j_iadd h (q := 70) dX3_pile_69 rfl ?_
      refine j_bipush h (q := 72) (6) dX3_pile_70 rfl (by decide) ?_
      refine j_isub h (q := 73) dX3_pile_72 rfl ?_
      refine j_ldn h (q := 74) (212 + (k - 6)) (by decide) (mw_st _ _ _) (by rw [i_Ladd, i_subL (by omega)]; congr 1; omega) (by omega) (by decide) dX3_pile_73 rfl ?_
      refine j_goto h (tgt := 78) dX3_pile_74 (by decide) ?_
      refine j_iret h rfl dX3_pile_78 ?_
      exact ⟨_, rfl, by rw [hs, if_neg (by decide), if_neg (by decide), if_pos rfl]; unfold frzG; rw [c_58]; exact M_fr R.1 (by omega), _, rfl, MX_eq R ⟨rfl, rfl, rfl, rfl, rfl, rfl, rfl⟩ rfl⟩
  · have hs : spPile (zg σ) a b = -1 := if_neg ha
    refine j_iload_n h (q := 1) 1 dX3_pile_0 rfl rfl ?_
    refine j_cS h (q := 4) mo_X3_isPile mS_X3_isPile mL_X3_133 (m_isPile g _ _) (by decide) rfl rfl (Nat.le_of_ble_eq_true rfl) dX3_pile_1 rfl ?_
    rintro _ w1 ⟨x1, rfl, e⟩
    obtain ⟨e1, rfl⟩ := e
    obtain rfl : x1 = 0 := e1.trans (b2i_df (show ¬ inn 22 a from ha)).symm
    refine j_if_ne h (tgt := 9) (q := 7) dX3_pile_4 rfl (by decide) (fun c_4 => ?_) (fun c_4 => ?_)
    · exact absurd rfl c_4
    refine j_iconst h (q := 8) (-1) dX3_pile_7 rfl (by decide) ?_
    refine j_iret h rfl dX3_pile_8 ?_
    exact ⟨_, rfl, by first | (rw [hs]; done) | (rw [hs]; rfl), M, rfl, R⟩

def cardI (P I : Nat → Nat) (a b : Int32) : Nat → Int32
  | 0 => -1
  | i + 1 => if nI (P i) = a ∧ nI (I i) = b then nI i else cardI P I a b i
theorem card_no {P I : Nat → Nat} {a b : Int32} : ∀ {n : Nat}, (∀ c, c < n → ¬ (nI (P c) = a ∧ nI (I c) = b)) → cardI P I a b n = -1
  | 0, _ => rfl
  | n + 1, h => by unfold cardI; rw [if_neg (h n (Nat.lt_succ_self n))]; exact card_no (fun c hc => h c (Nat.lt_succ_of_lt hc))
theorem card_one {P I : Nat → Nat} {a b : Int32} {c0 : Nat} (h : nI (P c0) = a ∧ nI (I c0) = b) : ∀ {n : Nat}, c0 < n → (∀ c, c < n → nI (P c) = a ∧ nI (I c) = b → c = c0) → cardI P I a b n = nI c0
  | n + 1, h0, hu => by
    unfold cardI
    by_cases z : nI (P n) = a ∧ nI (I n) = b
    · rw [if_pos z, hu n (Nat.lt_succ_self n) z]
    · rw [if_neg z]
      have : c0 ≠ n := fun e => z (by rw [← e]; exact h)
      exact card_one h (by omega) (fun c hc => hu c (Nat.lt_succ_of_lt hc))
theorem card_end {γ : Gm} {P I : Nat → Nat} (G : GI γ) (hL : LocG γ P I) (a b : Int32) : cardI P I a b 104 = spCard γ a b := by
  have no : ¬ (inn 22 a ∧ inn (qn γ (vv a)) b) → cardI P I a b 104 = -1 := by
    intro h
    refine card_no (fun c hc z => h ?_)
    obtain ⟨h1, h2, h3⟩ := hL c hc
    have hn := G_n2 G h1
    obtain ⟨rfl, rfl⟩ := z
    rw [show vv (nI (P c)) = P c from nI_clamp (by omega)]
    exact ⟨inn_n (by decide) h1, inn_n (by omega) h2⟩
  unfold spCard
  by_cases ha : inn 22 a
  · rw [if_pos ha]
    by_cases hb : inn (qn γ (vv a)) b
    · rw [if_pos hb]
      obtain ⟨p, hp, rfl, hvp⟩ := inn_of (by decide) ha
      rw [hvp] at hb ⊢
      have hn := G_n2 G hp
      obtain ⟨i, hi, rfl, hvi⟩ := inn_of (by omega) hb
      rw [hvi]
      obtain ⟨e1, e2⟩ := loc_u G hL hp hi
      refine card_one (c0 := qc γ p i) ⟨by rw [e1], by rw [e2]⟩ (G_c G hp hi) (fun c hc z => ?_)
      obtain ⟨h1, h2, h3⟩ := hL c hc
      have hn2 := G_n2 G h1
      have z1 := (nI_eqS (by omega) (by omega)).mp z.1
      rw [z1] at h2 h3 hn2
      have z2 := (nI_eqS (by omega) (by omega)).mp z.2
      rw [z2] at h3
      exact h3.symm
    · rw [if_neg hb]; exact no (fun z => hb z.2)
  · rw [if_neg ha]; exact no (fun z => ha z.1)

set_option maxRecDepth 100000 in
set_option maxHeartbeats 4000000 in
theorem lp_card (g : jG) (w : jW) (M : Ms) {K : jK} {Φ : Option Value → jW → Prop} (h : jH g K RX3 cX3_card 5 (some (.int))) {γ : Gm} (R : MR (Mst M) γ) {P I : Nat → Nat} (hL : LocG γ P I) (a b : Int32) (k : J g 0 K 5 Φ 52 [(4, .int (nI 104)), (3, .int (cardI P I a b 104)), (0, .ref (gr g 67)), (1, .int a), (2, .int b)] [] (mw g w M)) : ∀ n i, i + n = 104 → J g 0 K 5 Φ 5 [(4, .int (nI i)), (3, .int (cardI P I a b i)), (0, .ref (gr g 67)), (1, .int a), (2, .int b)] [] (mw g w M) := by
  intro n
  induction n with
  | zero =>
    intro i hi
    have hiN : i = 104 := by omega
    subst hiN
    refine j_iload h (q := 7) 0 dX3_card_5 rfl rfl ?_
    refine j_bipush h (q := 9) (104) dX3_card_7 rfl (by decide) ?_
    refine j_icmp_ge h (tgt := 52) (q := 12) dX3_card_9 rfl (by decide) (fun c_9 => ?_) (fun c_9 => ?_)
    rotate_left
    · exact absurd (show (104 : Int32) ≤ nI 104 by decide) c_9
    exact k
  | succ n ih =>
    intro i hi
    obtain ⟨hs1, hs2⟩ := loc_st R hL (c := i) (by omega)
    refine j_iload h (q := 7) 0 dX3_card_5 rfl rfl ?_
    refine j_bipush h (q := 9) (104) dX3_card_7 rfl (by decide) ?_
    refine j_icmp_ge h (tgt := 52) (q := 12) dX3_card_9 rfl (by decide) (fun c_9 => ?_) (fun c_9 => ?_)
    · exact absurd c_9 (by rw [i_Lle (by omega) (by omega)]; omega)
    refine j_aload_n h (q := 13) 2 dX3_card_12 rfl rfl ?_
    refine j_get h (q := 16) inX3 (C := RX3) (T := TX3) (N := 17) (ci := 3) rfl 0 (by decide) mF_X3_7 (by decide) (mw_0 _ _ _) rfl dX3_card_13 rfl ?_
    refine j_iconst h (q := 17) (0) dX3_card_16 rfl (by decide) ?_
    refine j_iload h (q := 19) 0 dX3_card_17 rfl rfl ?_
    refine j_iadd h (q := 20) dX3_card_19 rfl ?_
    refine j_ldn h (q := 21) (i) (by decide) (mw_st _ _ _) (by first | rfl | (simp only [nI_add, i_addL, i_Ladd, i_mulL, i_Lmul]; done) | (simp only [nI_add, i_addL, i_Ladd, i_mulL, i_Lmul]; congr 1; omega)) (by omega) (by decide) dX3_card_20 rfl ?_
    rw [hs1]
    refine j_iload_n h (q := 22) 3 dX3_card_21 rfl rfl ?_
    refine j_icmp_ne h (tgt := 44) (q := 25) dX3_card_22 rfl (by decide) (fun c_22 => ?_) (fun c_22 => ?_)
    · refine j_iload_n h (q := 45) 1 dX3_card_44 rfl rfl ?_
      refine j_istore_n h (q := 46) (loc' := [(3, _), (4, _), (0, _), (1, _), (2, _)]) dX3_card_45 rfl (by decide) rfl ?_
      refine j_iinc h (q := 49) (loc' := [(4, _), (3, _), (0, _), (1, _), (2, _)]) 1 _ dX3_card_46 rfl rfl rfl (by decide) rfl ?_
      refine j_goto h (tgt := 5) dX3_card_49 (by decide) ?_
      rw [show nI i + Int32.ofInt 1 = nI (i + 1) from nI_1 i]
      have q := ih (i + 1) (by omega)
      first
        | (rw [show cardI P I a b (i + 1) = nI i from if_pos ⟨c_22, c_36⟩] at q
           exact j_sub [0, 1, 2, 3, 4] rfl q)
        | (rw [show cardI P I a b (i + 1) = cardI P I a b i from if_neg (fun z => c_22 z.1)] at q
           exact j_sub [0, 1, 2, 3, 4] rfl q)
        | (rw [show cardI P I a b (i + 1) = cardI P I a b i from if_neg (fun z => c_36 z.2)] at q
           exact j_sub [0, 1, 2, 3, 4] rfl q)
    · refine j_aload_n h (q := 26) 2 dX3_card_25 rfl rfl ?_
      refine j_get h (q := 29) inX3 (C := RX3) (T := TX3) (N := 17) (ci := 3) rfl 0 (by decide) mF_X3_7 (by decide) (mw_0 _ _ _) rfl dX3_card_26 rfl ?_
      refine j_bipush h (q := 31) (104) dX3_card_29 rfl (by decide) ?_
      refine j_iload h (q := 33) 0 dX3_card_31 rfl rfl ?_
      refine j_iadd h (q := 34) dX3_card_33 rfl ?_
      refine j_ldn h (q := 35) (104 + i) (by decide) (mw_st _ _ _) (by first | rfl | (simp only [nI_add, i_addL, i_Ladd, i_mulL, i_Lmul]; done) | (simp only [nI_add, i_addL, i_Ladd, i_mulL, i_Lmul]; congr 1; omega)) (by omega) (by decide) dX3_card_34 rfl ?_
      rw [hs2]
      refine j_iload_n h (q := 36) 4 dX3_card_35 rfl rfl ?_
      refine j_icmp_ne h (tgt := 44) (q := 39) dX3_card_36 rfl (by decide) (fun c_36 => ?_) (fun c_36 => ?_)
      · refine j_iload_n h (q := 45) 1 dX3_card_44 rfl rfl ?_
        refine j_istore_n h (q := 46) (loc' := [(3, _), (4, _), (0, _), (1, _), (2, _)]) dX3_card_45 rfl (by decide) rfl ?_
        refine j_iinc h (q := 49) (loc' := [(4, _), (3, _), (0, _), (1, _), (2, _)]) 1 _ dX3_card_46 rfl rfl rfl (by decide) rfl ?_
        refine j_goto h (tgt := 5) dX3_card_49 (by decide) ?_
        rw [show nI i + Int32.ofInt 1 = nI (i + 1) from nI_1 i]
        have q := ih (i + 1) (by omega)
        first
          | (rw [show cardI P I a b (i + 1) = nI i from if_pos ⟨c_22, c_36⟩] at q
             exact j_sub [0, 1, 2, 3, 4] rfl q)
          | (rw [show cardI P I a b (i + 1) = cardI P I a b i from if_neg (fun z => c_22 z.1)] at q
             exact j_sub [0, 1, 2, 3, 4] rfl q)
          | (rw [show cardI P I a b (i + 1) = cardI P I a b i from if_neg (fun z => c_36 z.2)] at q
             exact j_sub [0, 1, 2, 3, 4] rfl q)
      · refine j_iload h (q := 41) 0 dX3_card_39 rfl rfl ?_
        refine j_goto h (tgt := 45) dX3_card_41 (by decide) ?_
        refine j_istore_n h (q := 46) (loc' := [(3, _), (4, _), (0, _), (1, _), (2, _)]) dX3_card_45 rfl (by decide) rfl ?_
        refine j_iinc h (q := 49) (loc' := [(4, _), (3, _), (0, _), (1, _), (2, _)]) 1 _ dX3_card_46 rfl rfl rfl (by decide) rfl ?_
        refine j_goto h (tgt := 5) dX3_card_49 (by decide) ?_
        rw [show nI i + Int32.ofInt 1 = nI (i + 1) from nI_1 i]
        have q := ih (i + 1) (by omega)
        first
          | (rw [show cardI P I a b (i + 1) = nI i from if_pos ⟨c_22, c_36⟩] at q
             exact j_sub [0, 1, 2, 3, 4] rfl q)
          | (rw [show cardI P I a b (i + 1) = cardI P I a b i from if_neg (fun z => c_22 z.1)] at q
             exact j_sub [0, 1, 2, 3, 4] rfl q)
          | (rw [show cardI P I a b (i + 1) = cardI P I a b i from if_neg (fun z => c_36 z.2)] at q
             exact j_sub [0, 1, 2, 3, 4] rfl q)

set_option maxRecDepth 100000 in
set_option maxHeartbeats 4000000 in
theorem M_card (g : jG) (w : jW) (M : Ms) (σ : Sg) (S : SI σ) (R : MX M σ) (a b : Int32)  : ConI g 0 yX3_card cX3_card 5 (some (.int)) [.ref (gr g 67), .int a, .int b] (mw g w M) (fun x w' => x = spCard (zg σ) a b ∧ ∃ M', w' = mw g w M' ∧ MX M' σ) := by
  refine con_of (by decide +kernel) (Nat.le_of_ble_eq_true rfl) [(0, _), (1, _), (2, _)] rfl (fun K h => ?_)
  obtain ⟨P, I, hL⟩ := loc_ex S.1
  refine j_iconst h (q := 1) (-1) dX3_card_0 rfl (by decide) ?_
  refine j_istore_n h (q := 2) (loc' := [(3, _), (0, _), (1, _), (2, _)]) dX3_card_1 rfl (by decide) rfl ?_
  refine j_iconst h (q := 3) (0) dX3_card_2 rfl (by decide) ?_
  refine j_istore h (q := 5) (loc' := [(4, _), (3, _), (0, _), (1, _), (2, _)]) dX3_card_3 rfl (by decide) rfl ?_
  refine j_sub [0, 1, 2, 3, 4] rfl ?_
  refine lp_card g w M h R.1 hL a b ?_ 104 0 rfl
  refine j_iload_n h (q := 53) 1 dX3_card_52 rfl rfl ?_
  refine j_iret h rfl dX3_card_53 ?_
  exact ⟨_, rfl, card_end S.1 hL a b, M, rfl, R⟩

set_option maxRecDepth 100000 in
set_option maxHeartbeats 4000000 in
theorem m_isCard (g : jG) (w : jW) (a : Int32)  : ConI g 1 yX3_isCard cX3_isCard 1 (some (.boolean)) [.int a] (w) (fun x w' => x = b2i (decide (inn 104 a)) ∧ w' = w) := by
  refine con_of (by decide +kernel) (Nat.le_of_ble_eq_true rfl) [(0, _)] rfl (fun K h => ?_)
  refine j_iload_n h (q := 1) 0 dX3_isCard_0 rfl rfl ?_
  refine j_iconst h (q := 2) (0) dX3_isCard_1 rfl (by decide) ?_
  refine j_bipush h (q := 4) (103) dX3_isCard_2 rfl (by decide) ?_
  refine j_cS h (q := 7) mo_X3_within mS_X3_within mL_X3_64 (m_within g _ _ _ _) (by decide) rfl rfl (Nat.le_of_ble_eq_true rfl) dX3_isCard_4 rfl ?_
  rintro _ w4 ⟨x4, rfl, e⟩
  obtain ⟨rfl, rfl⟩ := e
  refine j_zret h rfl (b2i_n _) dX3_isCard_7 ?_
  exact ⟨_, rfl, by congr 1; exact decide_eq_decide.mpr (in_k (n := 103) (by decide)), rfl⟩

set_option maxRecDepth 100000 in
set_option maxHeartbeats 4000000 in
theorem M_where (g : jG) (w : jW) (M : Ms) (σ : Sg) (S : SI σ) (R : MX M σ) (a b : Int32) {p0 i0 : Nat} (hl : inn 104 a → p0 < 22 ∧ i0 < qn (zg σ) p0 ∧ qc (zg σ) p0 i0 = vv a)  : ConI g 2 yX3_where cX3_where 3 (some (.int)) [.ref (gr g 67), .int a, .int b] (mw g w M) (fun x w' => x = spWhere p0 i0 a b ∧ ∃ M', w' = mw g w M' ∧ MX M' σ) := by
  refine con_of (by decide +kernel) (Nat.le_of_ble_eq_true rfl) [(0, _), (1, _), (2, _)] rfl (fun K h => ?_)
  by_cases ha : inn 104 a
  · obtain ⟨hp, hi, hq⟩ := hl ha
    obtain ⟨k, hk, rfl, hvk⟩ := inn_of (by decide) ha
    rw [hvk] at hq
    obtain ⟨l1, l2⟩ := M_pl R.1 hp hi
    rw [hq] at l1 l2
    refine j_iload_n h (q := 1) 1 dX3_where_0 rfl rfl ?_
    refine j_cS h (q := 4) mo_X3_isCard mS_X3_isCard mL_X3_148 (m_isCard g _ _) (by decide) rfl rfl (Nat.le_of_ble_eq_true rfl) dX3_where_1 rfl ?_
    rintro _ w1 ⟨x1, rfl, e⟩
    obtain ⟨e1, rfl⟩ := e
    obtain rfl : x1 = 1 := e1.trans (b2i_dt (show inn 104 (nI k) from ha)).symm
    refine j_if_ne h (tgt := 9) (q := 7) dX3_where_4 rfl (by decide) (fun c_4 => ?_) (fun c_4 => ?_)
    rotate_left
    · exact absurd (show (1 : Int32) = 0 by assumption) (by decide)
    refine j_iload_n h (q := 10) 2 dX3_where_9 rfl rfl ?_
    refine j_if_ne h (tgt := 24) (q := 13) dX3_where_10 rfl (by decide) (fun c_10 => ?_) (fun c_10 => ?_)
    · refine j_iload_n h (q := 25) 2 dX3_where_24 rfl rfl ?_
      refine j_iconst h (q := 26) (1) dX3_where_25 rfl (by decide) ?_
      refine j_icmp_ne h (tgt := 41) (q := 29) dX3_where_26 rfl (by decide) (fun c_26 => ?_) (fun c_26 => ?_)
      · refine j_bipush h (q := 43) (-2) dX3_where_41 rfl (by decide) ?_
        refine j_iret h rfl dX3_where_43 ?_
        exact ⟨_, rfl, by unfold spWhere; rw [if_pos ha, if_neg c_10, if_neg c_26], M, rfl, R⟩
      · refine j_aload_n h (q := 30) 0 dX3_where_29 rfl rfl ?_
        refine j_get h (q := 33) inX3 (C := RX3) (T := TX3) (N := 17) (ci := 3) rfl 0 (by decide) mF_X3_7 (by decide) (mw_0 _ _ _) rfl dX3_where_30 rfl ?_
        refine j_bipush h (q := 35) (104) dX3_where_33 rfl (by decide) ?_
        refine j_iload_n h (q := 36) 1 dX3_where_35 rfl rfl ?_
        refine j_iadd h (q := 37) dX3_where_36 rfl ?_
        refine j_ldn h (q := 38) (104 + k) (by decide) (mw_st _ _ _) (by first | rfl | (simp only [nI_add, i_addL, i_Ladd, i_mulL, i_Lmul]; done) | (simp only [nI_add, i_addL, i_Ladd, i_mulL, i_Lmul]; congr 1; omega)) (by omega) (by decide) dX3_where_37 rfl ?_
        rw [l2]
        refine j_goto h (tgt := 43) dX3_where_38 (by decide) ?_
        refine j_iret h rfl dX3_where_43 ?_
        exact ⟨_, rfl, by unfold spWhere; rw [if_pos ha, if_neg c_10, if_pos c_26], M, rfl, R⟩
    · refine j_aload_n h (q := 14) 0 dX3_where_13 rfl rfl ?_
      refine j_get h (q := 17) inX3 (C := RX3) (T := TX3) (N := 17) (ci := 3) rfl 0 (by decide) mF_X3_7 (by decide) (mw_0 _ _ _) rfl dX3_where_14 rfl ?_
      refine j_iconst h (q := 18) (0) dX3_where_17 rfl (by decide) ?_
      refine j_iload_n h (q := 19) 1 dX3_where_18 rfl rfl ?_
      refine j_iadd h (q := 20) dX3_where_19 rfl ?_
      refine j_ldn h (q := 21) (k) (by decide) (mw_st _ _ _) (by first | rfl | (simp only [nI_add, i_addL, i_Ladd, i_mulL, i_Lmul]; done) | (simp only [nI_add, i_addL, i_Ladd, i_mulL, i_Lmul]; congr 1; omega)) (by omega) (by decide) dX3_where_20 rfl ?_
      rw [l1]
      refine j_goto h (tgt := 43) dX3_where_21 (by decide) ?_
      refine j_iret h rfl dX3_where_43 ?_
      exact ⟨_, rfl, by unfold spWhere; rw [if_pos ha, if_pos c_10], M, rfl, R⟩
  · have hs : spWhere p0 i0 a b = -1 := if_neg ha
    refine j_iload_n h (q := 1) 1 dX3_where_0 rfl rfl ?_
    refine j_cS h (q := 4) mo_X3_isCard mS_X3_isCard mL_X3_148 (m_isCard g _ _) (by decide) rfl rfl (Nat.le_of_ble_eq_true rfl) dX3_where_1 rfl ?_
    rintro _ w1 ⟨x1, rfl, e⟩
    obtain ⟨e1, rfl⟩ := e
    obtain rfl : x1 = 0 := e1.trans (b2i_df (show ¬ inn 104 a from ha)).symm
    refine j_if_ne h (tgt := 9) (q := 7) dX3_where_4 rfl (by decide) (fun c_4 => ?_) (fun c_4 => ?_)
    · exact absurd rfl c_4
    refine j_iconst h (q := 8) (-1) dX3_where_7 rfl (by decide) ?_
    refine j_iret h rfl dX3_where_8 ?_
    exact ⟨_, rfl, by first | (rw [hs]; done) | (rw [hs]; rfl), M, rfl, R⟩

set_option maxRecDepth 100000 in
set_option maxHeartbeats 4000000 in
theorem lp_longM (g : jG) (w : jW) (M : Ms) {K : jK} {Φ : Option Value → jW → Prop} (h : jH g K RX3 cX3_longestHouse 4 (some (.int))) {γ : Gm} (G : GI γ) (L : LK M γ) {s : Nat} (hs : s < 2) (k : J g 0 K 4 Φ 50 [(3, .int (nI 4)), (2, .int (nI (longG γ s 4))), (0, .ref (gr g 67)), (1, .int (nI s))] [] (mw g w M)) : ∀ n i, i + n = 4 → J g 0 K 4 Φ 4 [(3, .int (nI i)), (2, .int (nI (longG γ s i))), (0, .ref (gr g 67)), (1, .int (nI s))] [] (mw g w M) := by
  intro n
  induction n with
  | zero =>
    intro i hi
    have hiN : i = 4 := by omega
    subst hiN
    refine j_iload_n h (q := 5) 0 dX3_longestHouse_4 rfl rfl ?_
    refine j_iconst h (q := 6) (4) dX3_longestHouse_5 rfl (by decide) ?_
    refine j_icmp_ge h (tgt := 50) (q := 9) dX3_longestHouse_6 rfl (by decide) (fun c_6 => ?_) (fun c_6 => ?_)
    rotate_left
    · exact absurd (show (4 : Int32) ≤ nI 4 by decide) c_6
    exact k
  | succ n ih =>
    intro i hi
    have hb1 := long_b G hs i (by omega)
    have hb2 := G_n2 G (p := 6 + s * 4 + i) (by omega)
    refine j_iload_n h (q := 5) 0 dX3_longestHouse_4 rfl rfl ?_
    refine j_iconst h (q := 6) (4) dX3_longestHouse_5 rfl (by decide) ?_
    refine j_icmp_ge h (tgt := 50) (q := 9) dX3_longestHouse_6 rfl (by decide) (fun c_6 => ?_) (fun c_6 => ?_)
    · exact absurd c_6 (by rw [i_Lle (by omega) (by omega)]; omega)
    refine j_aload_n h (q := 10) 2 dX3_longestHouse_9 rfl rfl ?_
    refine j_get h (q := 13) inX3 (C := RX3) (T := TX3) (N := 17) (ci := 3) rfl 8 (by decide) mF_X3_28 (by decide) (mw_0 _ _ _) rfl dX3_longestHouse_10 rfl ?_
    refine j_bipush h (q := 15) (6) dX3_longestHouse_13 rfl (by decide) ?_
    refine j_iconst h (q := 16) (4) dX3_longestHouse_15 rfl (by decide) ?_
    refine j_iload_n h (q := 17) 3 dX3_longestHouse_16 rfl rfl ?_
    refine j_imul h (q := 18) dX3_longestHouse_17 rfl ?_
    refine j_iadd h (q := 19) dX3_longestHouse_18 rfl ?_
    refine j_iload_n h (q := 20) 0 dX3_longestHouse_19 rfl rfl ?_
    refine j_iadd h (q := 21) dX3_longestHouse_20 rfl ?_
    refine j_ldn h (q := 22) (6 + s * 4 + i) (by decide) (mw_sz _ _ _) (by rw [i_Lmul, i_Ladd, nI_add]; congr 1; omega) (by omega) (by decide) dX3_longestHouse_21 rfl ?_
    rw [(L (6 + s * 4 + i) (by omega)).1]
    refine j_iload_n h (q := 23) 1 dX3_longestHouse_22 rfl rfl ?_
    refine j_icmp_le h (tgt := 42) (q := 26) dX3_longestHouse_23 rfl (by decide) (fun c_23 => ?_) (fun c_23 => ?_)
    · rw [nI_leS (by omega) (by omega)] at c_23
      refine j_iload_n h (q := 43) 1 dX3_longestHouse_42 rfl rfl ?_
      refine j_istore_n h (q := 44) (loc' := [(2, _), (3, _), (0, _), (1, _)]) dX3_longestHouse_43 rfl (by decide) rfl ?_
      refine j_iinc h (q := 47) (loc' := [(3, _), (2, _), (0, _), (1, _)]) 1 _ dX3_longestHouse_44 rfl rfl rfl (by decide) rfl ?_
      refine j_goto h (tgt := 4) dX3_longestHouse_47 (by decide) ?_
      rw [show nI i + Int32.ofInt 1 = nI (i + 1) from nI_1 i]
      have q := ih (i + 1) (by omega)
      first
        | (rw [show longG γ s (i + 1) = qn γ (6 + s * 4 + i) from if_pos (by omega)] at q
           exact j_sub [0, 1, 2, 3] rfl q)
        | (rw [show longG γ s (i + 1) = longG γ s i from if_neg (by omega)] at q
           exact j_sub [0, 1, 2, 3] rfl q)
    · rw [nI_leS (by omega) (by omega)] at c_23
      refine j_aload_n h (q := 27) 2 dX3_longestHouse_26 rfl rfl ?_
      refine j_get h (q := 30) inX3 (C := RX3) (T := TX3) (N := 17) (ci := 3) rfl 8 (by decide) mF_X3_28 (by decide) (mw_0 _ _ _) rfl dX3_longestHouse_27 rfl ?_
      refine j_bipush h (q := 32) (6) dX3_longestHouse_30 rfl (by decide) ?_
      refine j_iconst h (q := 33) (4) dX3_longestHouse_32 rfl (by decide) ?_
      refine j_iload_n h (q := 34) 3 dX3_longestHouse_33 rfl rfl ?_
      refine j_imul h (q := 35) dX3_longestHouse_34 rfl ?_
      refine j_iadd h (q := 36) dX3_longestHouse_35 rfl ?_
      refine j_iload_n h (q := 37) 0 dX3_longestHouse_36 rfl rfl ?_
      refine j_iadd h (q := 38) dX3_longestHouse_37 rfl ?_
      refine j_ldn h (q := 39) (6 + s * 4 + i) (by decide) (mw_sz _ _ _) (by rw [i_Lmul, i_Ladd, nI_add]; congr 1; omega) (by omega) (by decide) dX3_longestHouse_38 rfl ?_
      rw [(L (6 + s * 4 + i) (by omega)).1]
      refine j_goto h (tgt := 43) dX3_longestHouse_39 (by decide) ?_
      refine j_istore_n h (q := 44) (loc' := [(2, _), (3, _), (0, _), (1, _)]) dX3_longestHouse_43 rfl (by decide) rfl ?_
      refine j_iinc h (q := 47) (loc' := [(3, _), (2, _), (0, _), (1, _)]) 1 _ dX3_longestHouse_44 rfl rfl rfl (by decide) rfl ?_
      refine j_goto h (tgt := 4) dX3_longestHouse_47 (by decide) ?_
      rw [show nI i + Int32.ofInt 1 = nI (i + 1) from nI_1 i]
      have q := ih (i + 1) (by omega)
      first
        | (rw [show longG γ s (i + 1) = qn γ (6 + s * 4 + i) from if_pos (by omega)] at q
           exact j_sub [0, 1, 2, 3] rfl q)
        | (rw [show longG γ s (i + 1) = longG γ s i from if_neg (by omega)] at q
           exact j_sub [0, 1, 2, 3] rfl q)

set_option maxRecDepth 100000 in
set_option maxHeartbeats 4000000 in
theorem m_longestHouse (g : jG) (w : jW) (M : Ms) (γ : Gm) (G : GI γ) (L : LK M γ) {s : Nat} (hs : s < 2)  : ConI g 0 yX3_longestHouse cX3_longestHouse 4 (some (.int)) [.ref (gr g 67), .int (nI s)] (mw g w M) (fun x w' => x = nI (longG γ s 4) ∧ w' = mw g w M) := by
  refine con_of (by decide +kernel) (Nat.le_of_ble_eq_true rfl) [(0, _), (1, _)] rfl (fun K h => ?_)
  refine j_iconst h (q := 1) (0) dX3_longestHouse_0 rfl (by decide) ?_
  refine j_istore_n h (q := 2) (loc' := [(2, _), (0, _), (1, _)]) dX3_longestHouse_1 rfl (by decide) rfl ?_
  refine j_iconst h (q := 3) (0) dX3_longestHouse_2 rfl (by decide) ?_
  refine j_istore_n h (q := 4) (loc' := [(3, _), (2, _), (0, _), (1, _)]) dX3_longestHouse_3 rfl (by decide) rfl ?_
  refine j_sub [0, 1, 2, 3] rfl ?_
  refine lp_longM g w M h G L hs ?_ 4 0 rfl
  refine j_iload_n h (q := 51) 1 dX3_longestHouse_50 rfl rfl ?_
  refine j_iret h rfl dX3_longestHouse_51 ?_
  exact ⟨_, rfl, rfl, rfl⟩

set_option maxRecDepth 100000 in
set_option maxHeartbeats 4000000 in
theorem lp_acesM (g : jG) (w : jW) (M : Ms) {K : jK} {Φ : Option Value → jW → Prop} (h : jH g K RX3 cX3_onAces 3 (some (.int))) {γ : Gm} (G : GI γ) (L : LK M γ) (k : J g 0 K 3 Φ 26 [(2, .int (nI (14 + 8))), (1, .int (nI (acesG γ 8))), (0, .ref (gr g 67))] [] (mw g w M)) : ∀ n i, i + n = 8 → J g 0 K 3 Φ 5 [(2, .int (nI (14 + i))), (1, .int (nI (acesG γ i))), (0, .ref (gr g 67))] [] (mw g w M) := by
  intro n
  induction n with
  | zero =>
    intro i hi
    have hiN : i = 8 := by omega
    subst hiN
    refine j_iload_n h (q := 6) 0 dX3_onAces_5 rfl rfl ?_
    refine j_bipush h (q := 8) (22) dX3_onAces_6 rfl (by decide) ?_
    refine j_icmp_ge h (tgt := 26) (q := 11) dX3_onAces_8 rfl (by decide) (fun c_8 => ?_) (fun c_8 => ?_)
    rotate_left
    · exact absurd (show (22 : Int32) ≤ nI (14 + 8) by decide) c_8
    exact k
  | succ n ih =>
    intro i hi
    refine j_iload_n h (q := 6) 0 dX3_onAces_5 rfl rfl ?_
    refine j_bipush h (q := 8) (22) dX3_onAces_6 rfl (by decide) ?_
    refine j_icmp_ge h (tgt := 26) (q := 11) dX3_onAces_8 rfl (by decide) (fun c_8 => ?_) (fun c_8 => ?_)
    · exact absurd c_8 (by rw [i_Lle (by omega) (by omega)]; omega)
    refine j_iload_n h (q := 12) 1 dX3_onAces_11 rfl rfl ?_
    refine j_aload_n h (q := 13) 2 dX3_onAces_12 rfl rfl ?_
    refine j_get h (q := 16) inX3 (C := RX3) (T := TX3) (N := 17) (ci := 3) rfl 8 (by decide) mF_X3_28 (by decide) (mw_0 _ _ _) rfl dX3_onAces_13 rfl ?_
    refine j_iload_n h (q := 17) 0 dX3_onAces_16 rfl rfl ?_
    refine j_ldn h (q := 18) (14 + i) (by decide) (mw_sz _ _ _) rfl (by omega) (by decide) dX3_onAces_17 rfl ?_
    rw [(L (14 + i) (by omega)).1]
    refine j_iadd h (q := 19) dX3_onAces_18 rfl ?_
    refine j_istore_n h (q := 20) (loc' := [(1, _), (2, _), (0, _)]) dX3_onAces_19 rfl (by decide) rfl ?_
    refine j_iinc h (q := 23) (loc' := [(2, _), (1, _), (0, _)]) 1 _ dX3_onAces_20 rfl rfl rfl (by decide) rfl ?_
    refine j_goto h (tgt := 5) dX3_onAces_23 (by decide) ?_
    rw [show nI (14 + i) + Int32.ofInt 1 = nI ((14 + i) + 1) from nI_1 (14 + i)]
    rw [nI_add]
    have q := ih (i + 1) (by omega)
    exact j_sub [0, 1, 2] rfl q

set_option maxRecDepth 100000 in
set_option maxHeartbeats 4000000 in
theorem m_onAces (g : jG) (w : jW) (M : Ms) (γ : Gm) (G : GI γ) (L : LK M γ)  : ConI g 0 yX3_onAces cX3_onAces 3 (some (.int)) [.ref (gr g 67)] (mw g w M) (fun x w' => x = nI (acesG γ 8) ∧ w' = mw g w M) := by
  refine con_of (by decide +kernel) (Nat.le_of_ble_eq_true rfl) [(0, _)] rfl (fun K h => ?_)
  refine j_iconst h (q := 1) (0) dX3_onAces_0 rfl (by decide) ?_
  refine j_istore_n h (q := 2) (loc' := [(1, _), (0, _)]) dX3_onAces_1 rfl (by decide) rfl ?_
  refine j_bipush h (q := 4) (14) dX3_onAces_2 rfl (by decide) ?_
  refine j_istore_n h (q := 5) (loc' := [(2, _), (1, _), (0, _)]) dX3_onAces_4 rfl (by decide) rfl ?_
  refine j_sub [0, 1, 2] rfl ?_
  refine lp_acesM g w M h G L ?_ 8 0 rfl
  refine j_iload_n h (q := 27) 1 dX3_onAces_26 rfl rfl ?_
  refine j_iret h rfl dX3_onAces_27 ?_
  exact ⟨_, rfl, rfl, rfl⟩

set_option maxRecDepth 100000 in
set_option maxHeartbeats 4000000 in
theorem lp_frzM (g : jG) (w : jW) (M : Ms) {K : jK} {Φ : Option Value → jW → Prop} (h : jH g K RX3 cX3_frozenMany 3 (some (.int))) {γ : Gm} (R : MR (Mst M) γ) (G : GI γ) (k : J g 0 K 3 Φ 37 [(2, .int (nI 8)), (1, .int (nI (frzN γ 8))), (0, .ref (gr g 67))] [] (mw g w M)) : ∀ n i, i + n = 8 → J g 0 K 3 Φ 4 [(2, .int (nI i)), (1, .int (nI (frzN γ i))), (0, .ref (gr g 67))] [] (mw g w M) := by
  intro n
  induction n with
  | zero =>
    intro i hi
    have hiN : i = 8 := by omega
    subst hiN
    refine j_iload_n h (q := 5) 0 dX3_frozenMany_4 rfl rfl ?_
    refine j_bipush h (q := 7) (8) dX3_frozenMany_5 rfl (by decide) ?_
    refine j_icmp_ge h (tgt := 37) (q := 10) dX3_frozenMany_7 rfl (by decide) (fun c_7 => ?_) (fun c_7 => ?_)
    rotate_left
    · exact absurd (show (8 : Int32) ≤ nI 8 by decide) c_7
    exact k
  | succ n ih =>
    intro i hi
    have hz3 := G.2.2.2.1 i (by omega)
    have hfz : frzG γ (6 + i) = qz γ i := by unfold frzG; rw [show isH (6 + i) = true from decide_eq_true (by omega), Nat.add_sub_cancel_left]; rfl
    refine j_iload_n h (q := 5) 0 dX3_frozenMany_4 rfl rfl ?_
    refine j_bipush h (q := 7) (8) dX3_frozenMany_5 rfl (by decide) ?_
    refine j_icmp_ge h (tgt := 37) (q := 10) dX3_frozenMany_7 rfl (by decide) (fun c_7 => ?_) (fun c_7 => ?_)
    · exact absurd c_7 (by rw [i_Lle (by omega) (by omega)]; omega)
    refine j_iload_n h (q := 11) 1 dX3_frozenMany_10 rfl rfl ?_
    refine j_aload_n h (q := 12) 2 dX3_frozenMany_11 rfl rfl ?_
    refine j_get h (q := 15) inX3 (C := RX3) (T := TX3) (N := 17) (ci := 3) rfl 0 (by decide) mF_X3_7 (by decide) (mw_0 _ _ _) rfl dX3_frozenMany_12 rfl ?_
    refine j_sipush h (q := 18) (212) dX3_frozenMany_15 rfl (by decide) ?_
    refine j_iload_n h (q := 19) 0 dX3_frozenMany_18 rfl rfl ?_
    refine j_iadd h (q := 20) dX3_frozenMany_19 rfl ?_
    refine j_ldn h (q := 21) (212 + i) (by decide) (mw_st _ _ _) (by first | rfl | (simp only [nI_add, i_addL, i_Ladd, i_mulL, i_Lmul]; done) | (simp only [nI_add, i_addL, i_Ladd, i_mulL, i_Lmul]; congr 1; omega)) (by omega) (by decide) dX3_frozenMany_20 rfl ?_
    rw [M_fr R (h := i) (by omega)]
    refine j_if_le h (tgt := 28) (q := 24) dX3_frozenMany_21 rfl (by decide) (fun c_21 => ?_) (fun c_21 => ?_)
    · rw [i_leL (by omega) (by decide)] at c_21
      refine j_iconst h (q := 29) (0) dX3_frozenMany_28 rfl (by decide) ?_
      refine j_iadd h (q := 30) dX3_frozenMany_29 rfl ?_
      refine j_istore_n h (q := 31) (loc' := [(1, _), (2, _), (0, _)]) dX3_frozenMany_30 rfl (by decide) rfl ?_
      refine j_iinc h (q := 34) (loc' := [(2, _), (1, _), (0, _)]) 1 _ dX3_frozenMany_31 rfl rfl rfl (by decide) rfl ?_
      refine j_goto h (tgt := 4) dX3_frozenMany_34 (by decide) ?_
      rw [show nI i + Int32.ofInt 1 = nI (i + 1) from nI_1 i]
      have q := ih (i + 1) (by omega)
      first
        | (rw [show frzN γ (i + 1) = frzN γ i + 1 from if_pos (by rw [hfz]; omega)] at q
           rw [i_addL]
           exact j_sub [0, 1, 2] rfl q)
        | (rw [show frzN γ (i + 1) = frzN γ i from if_neg (by rw [hfz]; omega)] at q
           rw [show nI (frzN γ i) + 0 = nI (frzN γ i) from i_addL _ 0]
           exact j_sub [0, 1, 2] rfl q)
    · rw [i_leL (by omega) (by decide)] at c_21
      refine j_iconst h (q := 25) (1) dX3_frozenMany_24 rfl (by decide) ?_
      refine j_goto h (tgt := 29) dX3_frozenMany_25 (by decide) ?_
      refine j_iadd h (q := 30) dX3_frozenMany_29 rfl ?_
      refine j_istore_n h (q := 31) (loc' := [(1, _), (2, _), (0, _)]) dX3_frozenMany_30 rfl (by decide) rfl ?_
      refine j_iinc h (q := 34) (loc' := [(2, _), (1, _), (0, _)]) 1 _ dX3_frozenMany_31 rfl rfl rfl (by decide) rfl ?_
      refine j_goto h (tgt := 4) dX3_frozenMany_34 (by decide) ?_
      rw [show nI i + Int32.ofInt 1 = nI (i + 1) from nI_1 i]
      have q := ih (i + 1) (by omega)
      first
        | (rw [show frzN γ (i + 1) = frzN γ i + 1 from if_pos (by rw [hfz]; omega)] at q
           rw [i_addL]
           exact j_sub [0, 1, 2] rfl q)
        | (rw [show frzN γ (i + 1) = frzN γ i from if_neg (by rw [hfz]; omega)] at q
           rw [show nI (frzN γ i) + 0 = nI (frzN γ i) from i_addL _ 0]
           exact j_sub [0, 1, 2] rfl q)

set_option maxRecDepth 100000 in
set_option maxHeartbeats 4000000 in
theorem m_frozenMany (g : jG) (w : jW) (M : Ms) (γ : Gm) (R : MR (Mst M) γ) (G : GI γ)  : ConI g 0 yX3_frozenMany cX3_frozenMany 3 (some (.int)) [.ref (gr g 67)] (mw g w M) (fun x w' => x = nI (frzN γ 8) ∧ w' = mw g w M) := by
  refine con_of (by decide +kernel) (Nat.le_of_ble_eq_true rfl) [(0, _)] rfl (fun K h => ?_)
  refine j_iconst h (q := 1) (0) dX3_frozenMany_0 rfl (by decide) ?_
  refine j_istore_n h (q := 2) (loc' := [(1, _), (0, _)]) dX3_frozenMany_1 rfl (by decide) rfl ?_
  refine j_iconst h (q := 3) (0) dX3_frozenMany_2 rfl (by decide) ?_
  refine j_istore_n h (q := 4) (loc' := [(2, _), (1, _), (0, _)]) dX3_frozenMany_3 rfl (by decide) rfl ?_
  refine j_sub [0, 1, 2] rfl ?_
  refine lp_frzM g w M h R G ?_ 8 0 rfl
  refine j_iload_n h (q := 38) 1 dX3_frozenMany_37 rfl rfl ?_
  refine j_iret h rfl dX3_frozenMany_38 ?_
  exact ⟨_, rfl, rfl, rfl⟩
