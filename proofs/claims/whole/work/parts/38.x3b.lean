set_option maxRecDepth 100000 in
set_option maxHeartbeats 4000000 in
theorem lp_look1 (g : jG) (w : jW) (M : Ms) {K : jK} {Φ : Option Value → jW → Prop} (h : jH g K RX3 cX3_look 3 none) (k : ∀ sz tp, (∀ p, p < 22 → sz p = 0 ∧ tp p = -6) → J g 0 K 3 Φ 29 [(1, .int (nI 22)), (0, .ref (gr g 67))] [] (mw g w (stp (ssz M sz) tp))) : ∀ n i sz tp, i + n = 22 → (∀ p, p < i → sz p = 0 ∧ tp p = -6) → J g 0 K 3 Φ 2 [(1, .int (nI i)), (0, .ref (gr g 67))] [] (mw g w (stp (ssz M sz) tp)) := by
  intro n
  induction n with
  | zero =>
    intro i sz tp hi hT
    have hiN : i = 22 := by omega
    subst hiN
    refine j_iload_n h (q := 3) 0 dX3_look_2 rfl rfl ?_
    refine j_bipush h (q := 5) (22) dX3_look_3 rfl (by decide) ?_
    refine j_icmp_ge h (tgt := 29) (q := 8) dX3_look_5 rfl (by decide) (fun c_5 => ?_) (fun c_5 => ?_)
    rotate_left
    · exact absurd (show (22 : Int32) ≤ nI 22 by decide) c_5
    exact k sz tp hT
  | succ n ih =>
    intro i sz tp hi hT
    refine j_iload_n h (q := 3) 0 dX3_look_2 rfl rfl ?_
    refine j_bipush h (q := 5) (22) dX3_look_3 rfl (by decide) ?_
    refine j_icmp_ge h (tgt := 29) (q := 8) dX3_look_5 rfl (by decide) (fun c_5 => ?_) (fun c_5 => ?_)
    · exact absurd c_5 (by rw [i_Lle (by omega) (by omega)]; omega)
    refine j_aload_n h (q := 9) 1 dX3_look_8 rfl rfl ?_
    refine j_get h (q := 12) inX3 (C := RX3) (T := TX3) (N := 17) (ci := 3) rfl 8 (by decide) mF_X3_28 (by decide) (mw_0 _ _ _) rfl dX3_look_9 rfl ?_
    refine j_iload_n h (q := 13) 0 dX3_look_12 rfl rfl ?_
    refine j_iconst h (q := 14) (0) dX3_look_13 rfl (by decide) ?_
    refine j_stn h (q := 15) (i) (by decide) (mw_sz _ _ _) rfl (by omega) (by decide) dX3_look_14 rfl ?_
    refine j_stk rfl mw_usz ?_
    refine j_aload_n h (q := 16) 1 dX3_look_15 rfl rfl ?_
    refine j_get h (q := 19) inX3 (C := RX3) (T := TX3) (N := 17) (ci := 3) rfl 9 (by decide) mF_X3_31 (by decide) (mw_0 _ _ _) rfl dX3_look_16 rfl ?_
    refine j_iload_n h (q := 20) 0 dX3_look_19 rfl rfl ?_
    refine j_bipush h (q := 22) (-6) dX3_look_20 rfl (by decide) ?_
    refine j_stn h (q := 23) (i) (by decide) (mw_tp _ _ _) rfl (by omega) (by decide) dX3_look_22 rfl ?_
    refine j_stk rfl mw_utp ?_
    refine j_iinc h (q := 26) (loc' := [(1, _), (0, _)]) 0 _ dX3_look_23 rfl rfl rfl (by decide) rfl ?_
    refine j_goto h (tgt := 2) dX3_look_26 (by decide) ?_
    rw [show nI i + Int32.ofInt 1 = nI (i + 1) from nI_1 i]
    refine ih (i + 1) (upd sz i 0) (upd tp i (-6)) (by omega) ?_
    intro p hp
    unfold upd
    by_cases z : p = i
    · rw [if_pos z, if_pos z]; exact ⟨rfl, rfl⟩
    · rw [if_neg z, if_neg z]; exact hT p (by omega)

set_option maxRecDepth 100000 in
set_option maxHeartbeats 4000000 in
theorem lp_look2 (g : jG) (w : jW) (M : Ms) {K : jK} {Φ : Option Value → jW → Prop} (h : jH g K RX3 cX3_look 3 none) {γ : Gm} (R : MR (Mst M) γ) (G : GI γ) {P I : Nat → Nat} (hL : LocG γ P I) (k : ∀ sz tp l, LKI P I 104 sz tp → J g 0 K 3 Φ 115 l [] (mw g w (stp (ssz M sz) tp))) : ∀ n i sz tp, i + n = 104 → LKI P I i sz tp → J g 0 K 3 Φ 31 [(1, .int (nI i)), (0, .ref (gr g 67))] [] (mw g w (stp (ssz M sz) tp)) := by
  intro n
  induction n with
  | zero =>
    intro i sz tp hi hT
    have hiN : i = 104 := by omega
    subst hiN
    refine j_iload_n h (q := 32) 0 dX3_look_31 rfl rfl ?_
    refine j_bipush h (q := 34) (104) dX3_look_32 rfl (by decide) ?_
    refine j_icmp_ge h (tgt := 115) (q := 37) dX3_look_34 rfl (by decide) (fun c_34 => ?_) (fun c_34 => ?_)
    rotate_left
    · exact absurd (show (104 : Int32) ≤ nI 104 by decide) c_34
    exact k sz tp _ hT
  | succ n ih =>
    intro i sz tp hi hT
    obtain ⟨hs1, hs2⟩ := loc_st R hL (c := i) (by omega)
    have hP := (hL i (by omega)).1
    have hI := (hL i (by omega)).2.1
    have hn := G_n2 G hP
    cases hbs : bstG P I (P i) i with
    | none =>
      refine j_iload_n h (q := 32) 0 dX3_look_31 rfl rfl ?_
      refine j_bipush h (q := 34) (104) dX3_look_32 rfl (by decide) ?_
      refine j_icmp_ge h (tgt := 115) (q := 37) dX3_look_34 rfl (by decide) (fun c_34 => ?_) (fun c_34 => ?_)
      · exact absurd c_34 (by rw [i_Lle (by omega) (by omega)]; omega)
      refine j_aload_n h (q := 38) 1 dX3_look_37 rfl rfl ?_
      refine j_get h (q := 41) inX3 (C := RX3) (T := TX3) (N := 17) (ci := 3) rfl 0 (by decide) mF_X3_7 (by decide) (mw_0 _ _ _) rfl dX3_look_38 rfl ?_
      refine j_iconst h (q := 42) (0) dX3_look_41 rfl (by decide) ?_
      refine j_iload_n h (q := 43) 0 dX3_look_42 rfl rfl ?_
      refine j_iadd h (q := 44) dX3_look_43 rfl ?_
      refine j_ldn h (q := 45) (i) (by decide) (mw_st _ _ _) (by first | rfl | (simp only [nI_add, i_addL, i_Ladd, i_mulL, i_Lmul]; done) | (simp only [nI_add, i_addL, i_Ladd, i_mulL, i_Lmul]; congr 1; omega)) (by omega) (by decide) dX3_look_44 rfl ?_
      rw [hs1]
      refine j_istore_n h (q := 46) (loc' := [(2, _), (1, _), (0, _)]) dX3_look_45 rfl (by decide) rfl ?_
      refine j_aload_n h (q := 47) 2 dX3_look_46 rfl rfl ?_
      refine j_get h (q := 50) inX3 (C := RX3) (T := TX3) (N := 17) (ci := 3) rfl 8 (by decide) mF_X3_28 (by decide) (mw_0 _ _ _) rfl dX3_look_47 rfl ?_
      refine j_iload_n h (q := 51) 0 dX3_look_50 rfl rfl ?_
      refine j_dup2 h (q := 52) dX3_look_51 rfl rfl rfl ?_
      refine j_ldn h (q := 53) (P i) (by decide) (mw_sz _ _ _) rfl hP (by decide) dX3_look_52 rfl ?_
      refine j_iconst h (q := 54) (1) dX3_look_53 rfl (by decide) ?_
      refine j_iadd h (q := 55) dX3_look_54 rfl ?_
      refine j_stn h (q := 56) (P i) (by decide) (mw_sz _ _ _) rfl hP (by decide) dX3_look_55 rfl ?_
      refine j_stk rfl mw_usz ?_
      refine j_aload_n h (q := 57) 2 dX3_look_56 rfl rfl ?_
      refine j_get h (q := 60) inX3 (C := RX3) (T := TX3) (N := 17) (ci := 3) rfl 9 (by decide) mF_X3_31 (by decide) (mw_0 _ _ _) rfl dX3_look_57 rfl ?_
      refine j_iload_n h (q := 61) 0 dX3_look_60 rfl rfl ?_
      refine j_aload_n h (q := 62) 2 dX3_look_61 rfl rfl ?_
      refine j_get h (q := 65) inX3 (C := RX3) (T := TX3) (N := 17) (ci := 3) rfl 9 (by decide) mF_X3_31 (by decide) (mw_0 _ _ _) rfl dX3_look_62 rfl ?_
      refine j_iload_n h (q := 66) 0 dX3_look_65 rfl rfl ?_
      refine j_ldn h (q := 67) (P i) (by decide) (mw_tp _ _ _) rfl hP (by decide) dX3_look_66 rfl ?_
      rw [show Mtp (ssz (stp (ssz M sz) tp) (upd sz (P i) (sz (P i) + 1))) (P i) = ov (bstG P I (P i) i) from (hT _ hP).2, hbs]
      refine j_bipush h (q := 69) (-6) dX3_look_67 rfl (by decide) ?_
      refine j_icmp_eq h (tgt := 98) (q := 72) dX3_look_69 rfl (by decide) (fun c_69 => ?_) (fun c_69 => ?_)
      rotate_left
      · exact absurd (show (-6 : Int32) = -6 from rfl) c_69
      refine j_iload_n h (q := 99) 1 dX3_look_98 rfl rfl ?_
      refine j_goto h (tgt := 108) dX3_look_99 (by decide) ?_
      refine j_stn h (q := 109) (P i) (by decide) (mw_tp _ _ _) rfl hP (by decide) dX3_look_108 rfl ?_
      refine j_stk rfl mw_utp ?_
      refine j_iinc h (q := 112) (loc' := [(1, _), (2, _), (0, _)]) 1 _ dX3_look_109 rfl rfl rfl (by decide) rfl ?_
      refine j_goto h (tgt := 31) dX3_look_112 (by decide) ?_
      rw [show nI i + Int32.ofInt 1 = nI (i + 1) from nI_1 i]
      refine j_sub [0, 2] rfl ?_
      exact ih (i + 1) _ _ (by omega) (LKI_s hT hP (by rw [bst_s, hbs]; rfl))
    | some t =>
      have hbo := bst_ok (P := P) (I := I) (p := P i) i
      rw [hbs] at hbo
      have ht104 : t < 104 := by have := hbo.1; omega
      obtain ⟨ht1, ht2⟩ := loc_st R hL (c := t) ht104
      have hI2 := (hL t ht104).2.1
      rw [hbo.2.1] at hI2
      refine j_iload_n h (q := 32) 0 dX3_look_31 rfl rfl ?_
      refine j_bipush h (q := 34) (104) dX3_look_32 rfl (by decide) ?_
      refine j_icmp_ge h (tgt := 115) (q := 37) dX3_look_34 rfl (by decide) (fun c_34 => ?_) (fun c_34 => ?_)
      · exact absurd c_34 (by rw [i_Lle (by omega) (by omega)]; omega)
      refine j_aload_n h (q := 38) 1 dX3_look_37 rfl rfl ?_
      refine j_get h (q := 41) inX3 (C := RX3) (T := TX3) (N := 17) (ci := 3) rfl 0 (by decide) mF_X3_7 (by decide) (mw_0 _ _ _) rfl dX3_look_38 rfl ?_
      refine j_iconst h (q := 42) (0) dX3_look_41 rfl (by decide) ?_
      refine j_iload_n h (q := 43) 0 dX3_look_42 rfl rfl ?_
      refine j_iadd h (q := 44) dX3_look_43 rfl ?_
      refine j_ldn h (q := 45) (i) (by decide) (mw_st _ _ _) (by first | rfl | (simp only [nI_add, i_addL, i_Ladd, i_mulL, i_Lmul]; done) | (simp only [nI_add, i_addL, i_Ladd, i_mulL, i_Lmul]; congr 1; omega)) (by omega) (by decide) dX3_look_44 rfl ?_
      rw [hs1]
      refine j_istore_n h (q := 46) (loc' := [(2, _), (1, _), (0, _)]) dX3_look_45 rfl (by decide) rfl ?_
      refine j_aload_n h (q := 47) 2 dX3_look_46 rfl rfl ?_
      refine j_get h (q := 50) inX3 (C := RX3) (T := TX3) (N := 17) (ci := 3) rfl 8 (by decide) mF_X3_28 (by decide) (mw_0 _ _ _) rfl dX3_look_47 rfl ?_
      refine j_iload_n h (q := 51) 0 dX3_look_50 rfl rfl ?_
      refine j_dup2 h (q := 52) dX3_look_51 rfl rfl rfl ?_
      refine j_ldn h (q := 53) (P i) (by decide) (mw_sz _ _ _) rfl hP (by decide) dX3_look_52 rfl ?_
      refine j_iconst h (q := 54) (1) dX3_look_53 rfl (by decide) ?_
      refine j_iadd h (q := 55) dX3_look_54 rfl ?_
      refine j_stn h (q := 56) (P i) (by decide) (mw_sz _ _ _) rfl hP (by decide) dX3_look_55 rfl ?_
      refine j_stk rfl mw_usz ?_
      refine j_aload_n h (q := 57) 2 dX3_look_56 rfl rfl ?_
      refine j_get h (q := 60) inX3 (C := RX3) (T := TX3) (N := 17) (ci := 3) rfl 9 (by decide) mF_X3_31 (by decide) (mw_0 _ _ _) rfl dX3_look_57 rfl ?_
      refine j_iload_n h (q := 61) 0 dX3_look_60 rfl rfl ?_
      refine j_aload_n h (q := 62) 2 dX3_look_61 rfl rfl ?_
      refine j_get h (q := 65) inX3 (C := RX3) (T := TX3) (N := 17) (ci := 3) rfl 9 (by decide) mF_X3_31 (by decide) (mw_0 _ _ _) rfl dX3_look_62 rfl ?_
      refine j_iload_n h (q := 66) 0 dX3_look_65 rfl rfl ?_
      refine j_ldn h (q := 67) (P i) (by decide) (mw_tp _ _ _) rfl hP (by decide) dX3_look_66 rfl ?_
      rw [show Mtp (ssz (stp (ssz M sz) tp) (upd sz (P i) (sz (P i) + 1))) (P i) = ov (bstG P I (P i) i) from (hT _ hP).2, hbs]
      refine j_bipush h (q := 69) (-6) dX3_look_67 rfl (by decide) ?_
      refine j_icmp_eq h (tgt := 98) (q := 72) dX3_look_69 rfl (by decide) (fun c_69 => ?_) (fun c_69 => ?_)
      · exact absurd (show nI t = -6 from c_69) (ov_ne (by omega))
      refine j_aload_n h (q := 73) 2 dX3_look_72 rfl rfl ?_
      refine j_get h (q := 76) inX3 (C := RX3) (T := TX3) (N := 17) (ci := 3) rfl 0 (by decide) mF_X3_7 (by decide) (mw_0 _ _ _) rfl dX3_look_73 rfl ?_
      refine j_bipush h (q := 78) (104) dX3_look_76 rfl (by decide) ?_
      refine j_iload_n h (q := 79) 1 dX3_look_78 rfl rfl ?_
      refine j_iadd h (q := 80) dX3_look_79 rfl ?_
      refine j_ldn h (q := 81) (104 + i) (by decide) (mw_st _ _ _) (by first | rfl | (simp only [nI_add, i_addL, i_Ladd, i_mulL, i_Lmul]; done) | (simp only [nI_add, i_addL, i_Ladd, i_mulL, i_Lmul]; congr 1; omega)) (by omega) (by decide) dX3_look_80 rfl ?_
      rw [hs2]
      refine j_aload_n h (q := 82) 2 dX3_look_81 rfl rfl ?_
      refine j_get h (q := 85) inX3 (C := RX3) (T := TX3) (N := 17) (ci := 3) rfl 0 (by decide) mF_X3_7 (by decide) (mw_0 _ _ _) rfl dX3_look_82 rfl ?_
      refine j_bipush h (q := 87) (104) dX3_look_85 rfl (by decide) ?_
      refine j_aload_n h (q := 88) 2 dX3_look_87 rfl rfl ?_
      refine j_get h (q := 91) inX3 (C := RX3) (T := TX3) (N := 17) (ci := 3) rfl 9 (by decide) mF_X3_31 (by decide) (mw_0 _ _ _) rfl dX3_look_88 rfl ?_
      refine j_iload_n h (q := 92) 0 dX3_look_91 rfl rfl ?_
      refine j_ldn h (q := 93) (P i) (by decide) (mw_tp _ _ _) rfl hP (by decide) dX3_look_92 rfl ?_
      rw [show Mtp (ssz (stp (ssz M sz) tp) (upd sz (P i) (sz (P i) + 1))) (P i) = ov (bstG P I (P i) i) from (hT _ hP).2, hbs]
      refine j_iadd h (q := 94) dX3_look_93 rfl ?_
      refine j_ldn h (q := 95) (104 + t) (by decide) (mw_st _ _ _) (by show 104 + nI t = _; exact i_Ladd t 104) (by omega) (by decide) dX3_look_94 rfl ?_
      rw [ht2]
      refine j_icmp_le h (tgt := 102) (q := 98) dX3_look_95 rfl (by decide) (fun c_95 => ?_) (fun c_95 => ?_)
      · rw [nI_leS (by omega) (by omega)] at c_95
        refine j_aload_n h (q := 103) 2 dX3_look_102 rfl rfl ?_
        refine j_get h (q := 106) inX3 (C := RX3) (T := TX3) (N := 17) (ci := 3) rfl 9 (by decide) mF_X3_31 (by decide) (mw_0 _ _ _) rfl dX3_look_103 rfl ?_
        refine j_iload_n h (q := 107) 0 dX3_look_106 rfl rfl ?_
        refine j_ldn h (q := 108) (P i) (by decide) (mw_tp _ _ _) rfl hP (by decide) dX3_look_107 rfl ?_
        rw [show Mtp (ssz (stp (ssz M sz) tp) (upd sz (P i) (sz (P i) + 1))) (P i) = ov (bstG P I (P i) i) from (hT _ hP).2, hbs]
        refine j_stn h (q := 109) (P i) (by decide) (mw_tp _ _ _) rfl hP (by decide) dX3_look_108 rfl ?_
        refine j_stk rfl mw_utp ?_
        refine j_iinc h (q := 112) (loc' := [(1, _), (2, _), (0, _)]) 1 _ dX3_look_109 rfl rfl rfl (by decide) rfl ?_
        refine j_goto h (tgt := 31) dX3_look_112 (by decide) ?_
        rw [show nI i + Int32.ofInt 1 = nI (i + 1) from nI_1 i]
        refine j_sub [0, 2] rfl ?_
        exact ih (i + 1) _ _ (by omega) (LKI_s hT hP (by rw [bst_s, hbs]; first | (show ov (some t) = ov (if I t < I i then some i else some t); rw [if_neg (by omega)]) | (show nI i = ov (if I t < I i then some i else some t); rw [if_pos (by omega)]; rfl)))
      · rw [nI_leS (by omega) (by omega)] at c_95
        refine j_iload_n h (q := 99) 1 dX3_look_98 rfl rfl ?_
        refine j_goto h (tgt := 108) dX3_look_99 (by decide) ?_
        refine j_stn h (q := 109) (P i) (by decide) (mw_tp _ _ _) rfl hP (by decide) dX3_look_108 rfl ?_
        refine j_stk rfl mw_utp ?_
        refine j_iinc h (q := 112) (loc' := [(1, _), (2, _), (0, _)]) 1 _ dX3_look_109 rfl rfl rfl (by decide) rfl ?_
        refine j_goto h (tgt := 31) dX3_look_112 (by decide) ?_
        rw [show nI i + Int32.ofInt 1 = nI (i + 1) from nI_1 i]
        refine j_sub [0, 2] rfl ?_
        exact ih (i + 1) _ _ (by omega) (LKI_s hT hP (by rw [bst_s, hbs]; first | (show ov (some t) = ov (if I t < I i then some i else some t); rw [if_neg (by omega)]) | (show nI i = ov (if I t < I i then some i else some t); rw [if_pos (by omega)]; rfl)))

set_option maxRecDepth 100000 in
set_option maxHeartbeats 4000000 in
theorem m_look (g : jG) (w : jW) (M : Ms) (γ : Gm) (R : MR (Mst M) γ) (G : GI γ)  : ConV g 0 yX3_look cX3_look 3 none [.ref (gr g 67)] (mw g w M) (fun w' => ∃ sz tp, w' = mw g w (stp (ssz M sz) tp) ∧ LK (stp (ssz M sz) tp) γ) := by
  refine con_of (by decide +kernel) (Nat.le_of_ble_eq_true rfl) [(0, _)] rfl (fun K h => ?_)
  refine j_iconst h (q := 1) (0) dX3_look_0 rfl (by decide) ?_
  refine j_istore_n h (q := 2) (loc' := [(1, _), (0, _)]) dX3_look_1 rfl (by decide) rfl ?_
  refine lp_look1 g w M h (fun sz tp h1 => ?_) 22 0 (Msz M) (Mtp M) rfl (fun p hp => absurd hp (Nat.not_lt_zero _))
  obtain ⟨P, I, hL⟩ := loc_ex G
  refine j_iconst h (q := 30) (0) dX3_look_29 rfl (by decide) ?_
  refine j_istore_n h (q := 31) (loc' := [(1, _), (0, _)]) dX3_look_30 rfl (by decide) rfl ?_
  refine lp_look2 g w M h R G hL (fun sz tp l h2 => ?_) 104 0 sz tp rfl (fun p hp => h1 p hp)
  refine j_vret h rfl dX3_look_115 ?_
  exact ⟨rfl, sz, tp, rfl, fun p hp => ⟨by rw [show Msz (stp (ssz M sz) tp) p = nI (cntG (fun c => P c == p) 104) from (h2 p hp).1, loc_cnt G hL hp], by rw [show Mtp (stp (ssz M sz) tp) p = ov (bstG P I p 104) from (h2 p hp).2, bst_end G hL hp]⟩⟩
