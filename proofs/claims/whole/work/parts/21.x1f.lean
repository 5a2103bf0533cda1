set_option maxRecDepth 100000 in
set_option maxHeartbeats 4000000 in
theorem lp_clearA (g : jG) (w : jW) (t : Nat) (ht : t + 6 ≤ NW) {K : jK} {Φ : Option Value → jW → Prop} (h : jH g K RX1 cX1_clear 2 none) (k : ∀ T, (∀ p, p < 22 → Tsz T p = nI 0) → J g 1 K 2 Φ 23 [(1, .int (nI 22)), (0, .ref (gr g t))] [] (tab g w t T)) : ∀ n i T, i + n = 22 → (∀ p, p < i → Tsz T p = nI 0) → J g 1 K 2 Φ 2 [(1, .int (nI i)), (0, .ref (gr g t))] [] (tab g w t T) := by
  intro n
  induction n with
  | zero =>
    intro i T hi hT
    have hiN : i = 22 := by omega
    subst hiN
    refine j_iload_n h (q := 3) 0 dX1_clear_2 rfl rfl ?_
    refine j_bipush h (q := 5) (22) dX1_clear_3 rfl (by decide) ?_
    refine j_icmp_ge h (tgt := 23) (q := 8) dX1_clear_5 rfl (by decide) (fun c_5 => ?_) (fun c_5 => ?_)
    rotate_left
    · exact absurd (show (22 : Int32) ≤ nI 22 by decide) c_5
    exact k T hT
  | succ n ih =>
    intro i T hi hT
    refine j_iload_n h (q := 3) 0 dX1_clear_2 rfl rfl ?_
    refine j_bipush h (q := 5) (22) dX1_clear_3 rfl (by decide) ?_
    refine j_icmp_ge h (tgt := 23) (q := 8) dX1_clear_5 rfl (by decide) (fun c_5 => ?_) (fun c_5 => ?_)
    · exact absurd c_5 (by rw [i_Lle (by omega) (by omega)]; omega)
    refine j_aload_n h (q := 9) 1 dX1_clear_8 rfl rfl ?_
    refine j_get h (q := 12) inX1 (C := RX1) (T := TX1) (N := 9) (ci := 1) rfl 1 (by decide) mF_X1_15 (by omega) (tab_0 _ _ _ _) rfl dX1_clear_9 rfl ?_
    refine j_iload_n h (q := 13) 0 dX1_clear_12 rfl rfl ?_
    refine j_iconst h (q := 14) (0) dX1_clear_13 rfl (by decide) ?_
    refine j_cSN h (q := 17) mo_X2_setAt mS_X2_setAt mL_X1_41 (c_X2_setAt g _ (by omega) (tab_2 _ _ _ _) (by decide) _ _) (by decide) rfl rfl (Nat.le_of_ble_eq_true rfl) dX1_clear_14 rfl ?_
    rintro _ w14 ⟨rfl, e⟩
    rw [sti_n (by omega) (by decide), tab_u2] at e
    subst e
    refine j_iinc h (q := 20) (loc' := [(1, _), (0, _)]) 0 _ dX1_clear_17 rfl rfl rfl (by decide) rfl ?_
    refine j_goto h (tgt := 2) dX1_clear_20 (by decide) ?_
    rw [show nI i + Int32.ofInt 1 = nI (i + 1) from nI_1 i]
    refine ih (i + 1) _ (by omega) ?_
    intro p hp
    show upd (Tsz T) i 0 p = _
    unfold upd
    by_cases z : p = i
    · rw [if_pos z]; rfl
    · rw [if_neg z]; exact hT p (by omega)


set_option maxRecDepth 100000 in
set_option maxHeartbeats 4000000 in
theorem lp_clearB (g : jG) (w : jW) (t : Nat) (ht : t + 6 ≤ NW) {K : jK} {Φ : Option Value → jW → Prop} (h : jH g K RX1 cX1_clear 2 none) (k : ∀ T, ((∀ p, p < 22 → Tsz T p = nI 0) ∧ (∀ s, s < 2 → Tpt T s = 0 ∧ Tfz T s = nI 2)) → J g 1 K 2 Φ 54 [(1, .int (nI 2)), (0, .ref (gr g t))] [] (tab g w t T)) : ∀ n i T, i + n = 2 → ((∀ p, p < 22 → Tsz T p = nI 0) ∧ (∀ s, s < i → Tpt T s = 0 ∧ Tfz T s = nI 2)) → J g 1 K 2 Φ 25 [(1, .int (nI i)), (0, .ref (gr g t))] [] (tab g w t T) := by
  intro n
  induction n with
  | zero =>
    intro i T hi hT
    have hiN : i = 2 := by omega
    subst hiN
    refine j_iload_n h (q := 26) 0 dX1_clear_25 rfl rfl ?_
    refine j_iconst h (q := 27) (2) dX1_clear_26 rfl (by decide) ?_
    refine j_icmp_ge h (tgt := 54) (q := 30) dX1_clear_27 rfl (by decide) (fun c_27 => ?_) (fun c_27 => ?_)
    rotate_left
    · exact absurd (show (2 : Int32) ≤ nI 2 by decide) c_27
    exact k T hT
  | succ n ih =>
    intro i T hi hT
    refine j_iload_n h (q := 26) 0 dX1_clear_25 rfl rfl ?_
    refine j_iconst h (q := 27) (2) dX1_clear_26 rfl (by decide) ?_
    refine j_icmp_ge h (tgt := 54) (q := 30) dX1_clear_27 rfl (by decide) (fun c_27 => ?_) (fun c_27 => ?_)
    · exact absurd c_27 (by rw [i_Lle (by omega) (by omega)]; omega)
    refine j_aload_n h (q := 31) 1 dX1_clear_30 rfl rfl ?_
    refine j_get h (q := 34) inX1 (C := RX1) (T := TX1) (N := 9) (ci := 1) rfl 2 (by decide) mF_X1_18 (by omega) (tab_0 _ _ _ _) rfl dX1_clear_31 rfl ?_
    refine j_iload_n h (q := 35) 0 dX1_clear_34 rfl rfl ?_
    refine j_iconst h (q := 36) (0) dX1_clear_35 rfl (by decide) ?_
    refine j_cSN h (q := 39) mo_X2_setAt mS_X2_setAt mL_X1_41 (c_X2_setAt g _ (by omega) (tab_3 _ _ _ _) (by decide) _ _) (by decide) rfl rfl (Nat.le_of_ble_eq_true rfl) dX1_clear_36 rfl ?_
    rintro _ w36 ⟨rfl, e⟩
    rw [sti_n (by omega) (by decide), tab_u3] at e
    subst e
    refine j_aload_n h (q := 40) 1 dX1_clear_39 rfl rfl ?_
    refine j_get h (q := 43) inX1 (C := RX1) (T := TX1) (N := 9) (ci := 1) rfl 3 (by decide) mF_X1_21 (by omega) (tab_0 _ _ _ _) rfl dX1_clear_40 rfl ?_
    refine j_iload_n h (q := 44) 0 dX1_clear_43 rfl rfl ?_
    refine j_iconst h (q := 45) (2) dX1_clear_44 rfl (by decide) ?_
    refine j_cSN h (q := 48) mo_X2_setAt mS_X2_setAt mL_X1_41 (c_X2_setAt g _ (by omega) (tab_4 _ _ _ _) (by decide) _ _) (by decide) rfl rfl (Nat.le_of_ble_eq_true rfl) dX1_clear_45 rfl ?_
    rintro _ w45 ⟨rfl, e⟩
    rw [sti_n (by omega) (by decide), tab_u4] at e
    subst e
    refine j_iinc h (q := 51) (loc' := [(1, _), (0, _)]) 0 _ dX1_clear_48 rfl rfl rfl (by decide) rfl ?_
    refine j_goto h (tgt := 25) dX1_clear_51 (by decide) ?_
    rw [show nI i + Int32.ofInt 1 = nI (i + 1) from nI_1 i]
    refine ih (i + 1) _ (by omega) ⟨hT.1, ?_⟩
    intro s hs
    show upd (Tpt T) i 0 s = _ ∧ upd (Tfz T) i 2 s = _
    unfold upd
    by_cases z : s = i
    · rw [if_pos z, if_pos z]; exact ⟨rfl, rfl⟩
    · rw [if_neg z, if_neg z]; exact hT.2 s (by omega)


set_option maxRecDepth 100000 in
set_option maxHeartbeats 4000000 in
theorem lp_clearC (g : jG) (w : jW) (t : Nat) (ht : t + 6 ≤ NW) {K : jK} {Φ : Option Value → jW → Prop} (h : jH g K RX1 cX1_clear 2 none) (k : ∀ T, ((∀ p, p < 22 → Tsz T p = nI 0) ∧ (∀ s, s < 2 → Tpt T s = 0 ∧ Tfz T s = nI 2) ∧ (∀ j, j < 8 → Tth T j = nI 0)) → J g 1 K 2 Φ 77 [(1, .int (nI 8)), (0, .ref (gr g t))] [] (tab g w t T)) : ∀ n i T, i + n = 8 → ((∀ p, p < 22 → Tsz T p = nI 0) ∧ (∀ s, s < 2 → Tpt T s = 0 ∧ Tfz T s = nI 2) ∧ (∀ j, j < i → Tth T j = nI 0)) → J g 1 K 2 Φ 56 [(1, .int (nI i)), (0, .ref (gr g t))] [] (tab g w t T) := by
  intro n
  induction n with
  | zero =>
    intro i T hi hT
    have hiN : i = 8 := by omega
    subst hiN
    refine j_iload_n h (q := 57) 0 dX1_clear_56 rfl rfl ?_
    refine j_bipush h (q := 59) (8) dX1_clear_57 rfl (by decide) ?_
    refine j_icmp_ge h (tgt := 77) (q := 62) dX1_clear_59 rfl (by decide) (fun c_59 => ?_) (fun c_59 => ?_)
    rotate_left
    · exact absurd (show (8 : Int32) ≤ nI 8 by decide) c_59
    exact k T hT
  | succ n ih =>
    intro i T hi hT
    refine j_iload_n h (q := 57) 0 dX1_clear_56 rfl rfl ?_
    refine j_bipush h (q := 59) (8) dX1_clear_57 rfl (by decide) ?_
    refine j_icmp_ge h (tgt := 77) (q := 62) dX1_clear_59 rfl (by decide) (fun c_59 => ?_) (fun c_59 => ?_)
    · exact absurd c_59 (by rw [i_Lle (by omega) (by omega)]; omega)
    refine j_aload_n h (q := 63) 1 dX1_clear_62 rfl rfl ?_
    refine j_get h (q := 66) inX1 (C := RX1) (T := TX1) (N := 9) (ci := 1) rfl 4 (by decide) mF_X1_24 (by omega) (tab_0 _ _ _ _) rfl dX1_clear_63 rfl ?_
    refine j_iload_n h (q := 67) 0 dX1_clear_66 rfl rfl ?_
    refine j_iconst h (q := 68) (0) dX1_clear_67 rfl (by decide) ?_
    refine j_cSN h (q := 71) mo_X2_setAt mS_X2_setAt mL_X1_41 (c_X2_setAt g _ (by omega) (tab_5 _ _ _ _) (by decide) _ _) (by decide) rfl rfl (Nat.le_of_ble_eq_true rfl) dX1_clear_68 rfl ?_
    rintro _ w68 ⟨rfl, e⟩
    rw [sti_n (by omega) (by decide), tab_u5] at e
    subst e
    refine j_iinc h (q := 74) (loc' := [(1, _), (0, _)]) 0 _ dX1_clear_71 rfl rfl rfl (by decide) rfl ?_
    refine j_goto h (tgt := 56) dX1_clear_74 (by decide) ?_
    rw [show nI i + Int32.ofInt 1 = nI (i + 1) from nI_1 i]
    refine ih (i + 1) _ (by omega) ⟨hT.1, hT.2.1, ?_⟩
    intro p hp
    show upd (Tth T) i 0 p = _
    unfold upd
    by_cases z : p = i
    · rw [if_pos z]; rfl
    · rw [if_neg z]; exact hT.2.2 p (by omega)


set_option maxRecDepth 100000 in
set_option maxHeartbeats 4000000 in
theorem c_clear (g : jG) (w : jW) (t : Nat) (ht : t + 6 ≤ NW) (T : Ts)  : ConV g 1 yX1_clear cX1_clear 2 none [.ref (gr g t)] (tab g w t T) (fun w' => ∃ T', w' = tab g w t T' ∧ (∀ p, p < 22 → Tsz T' p = nI 0) ∧ CL T') := by
  refine con_of (by decide +kernel) (Nat.le_of_ble_eq_true rfl) [(0, _)] rfl (fun K h => ?_)
  refine j_iconst h (q := 1) (0) dX1_clear_0 rfl (by decide) ?_
  refine j_istore_n h (q := 2) (loc' := [(1, _), (0, _)]) dX1_clear_1 rfl (by decide) rfl ?_
  refine lp_clearA g w t ht h (fun T hT => ?_) 22 0 T rfl (fun j hj => absurd hj (Nat.not_lt_zero _))
  refine j_iconst h (q := 24) (0) dX1_clear_23 rfl (by decide) ?_
  refine j_istore_n h (q := 25) (loc' := [(1, _), (0, _)]) dX1_clear_24 rfl (by decide) rfl ?_
  refine lp_clearB g w t ht h (fun T hT => ?_) 2 0 _ rfl ⟨hT, fun j hj => absurd hj (Nat.not_lt_zero _)⟩
  refine j_iconst h (q := 55) (0) dX1_clear_54 rfl (by decide) ?_
  refine j_istore_n h (q := 56) (loc' := [(1, _), (0, _)]) dX1_clear_55 rfl (by decide) rfl ?_
  refine lp_clearC g w t ht h (fun T hT => ?_) 8 0 _ rfl ⟨hT.1, hT.2, fun j hj => absurd hj (Nat.not_lt_zero _)⟩
  refine j_aload_n h (q := 78) 1 dX1_clear_77 rfl rfl ?_
  refine j_iconst h (q := 79) (0) dX1_clear_78 rfl (by decide) ?_
  refine j_put h (q := 82) inX1 (C := RX1) (T := TX1) (N := 9) (ci := 1) rfl tyX1_ok nmX1 5 (by decide) mF_X1_45 rfl rfl rfl (by first | rfl | decide) (by omega) (tab_0 _ _ _ _) (Nat.le_of_ble_eq_true rfl) dX1_clear_79 rfl ?_
  refine j_stk rfl tab_u0 ?_
  refine j_aload_n h (q := 83) 1 dX1_clear_82 rfl rfl ?_
  refine j_iconst h (q := 84) (0) dX1_clear_83 rfl (by decide) ?_
  refine j_put h (q := 87) inX1 (C := RX1) (T := TX1) (N := 9) (ci := 1) rfl tyX1_ok nmX1 6 (by decide) mF_X1_49 rfl rfl rfl (by first | rfl | decide) (by omega) (tab_0 _ _ _ _) (Nat.le_of_ble_eq_true rfl) dX1_clear_84 rfl ?_
  refine j_stk rfl tab_u0 ?_
  refine j_aload_n h (q := 88) 1 dX1_clear_87 rfl rfl ?_
  refine j_iconst h (q := 89) (0) dX1_clear_88 rfl (by decide) ?_
  refine j_put h (q := 92) inX1 (C := RX1) (T := TX1) (N := 9) (ci := 1) rfl tyX1_ok nmX1 7 (by decide) mF_X1_52 rfl rfl rfl (by first | rfl | decide) (by omega) (tab_0 _ _ _ _) (Nat.le_of_ble_eq_true rfl) dX1_clear_89 rfl ?_
  refine j_stk rfl tab_u0 ?_
  refine j_aload_n h (q := 93) 1 dX1_clear_92 rfl rfl ?_
  refine j_iconst h (q := 94) (0) dX1_clear_93 rfl (by decide) ?_
  refine j_put h (q := 97) inX1 (C := RX1) (T := TX1) (N := 9) (ci := 1) rfl tyX1_ok nmX1 8 (by decide) mF_X1_55 rfl rfl (by first | rfl | exact b2i_n _) (by first | rfl | decide) (by omega) (tab_0 _ _ _ _) (Nat.le_of_ble_eq_true rfl) dX1_clear_94 rfl ?_
  refine j_stk rfl tab_u0 ?_
  refine j_vret h rfl dX1_clear_97 ?_
  exact ⟨rfl, _, rfl, hT.1, ⟨hT.2.1, hT.2.2, rfl, rfl, rfl, rfl⟩⟩

set_option maxRecDepth 100000 in
set_option maxHeartbeats 4000000 in
theorem lp_shuffle (g : jG) (w : jW) (t : Nat) (ht : t + 6 ≤ NW) {K : jK} {Φ : Option Value → jW → Prop} (h : jH g K RX1 cX1_shuffle 7 (some (.long))) {p : Nat} (hp : p < 22) (hc : fpv p + 52 ≤ 650)  : ∀ k f x T, k < 52 → x < 2147483648 → (∀ i, i < 52 → Tcd T (fpv p + i) = nI (f i)) → (∀ T' l, (∀ i, i < 52 → Tcd T' (fpv p + i) = nI ((shufG k (f, x)).1 i)) → (∀ a, (a < fpv p ∨ fpv p + 52 ≤ a) → Tcd T' a = Tcd T a) → T'.2 = T.2 → J g 2 K 7 Φ 76 ((2, .long (lN (shufG k (f, x)).2)) :: l) [] (tab g w t T')) → J g 2 K 7 Φ 4 [(4, .int (nI (k))), (2, .long (lN (x))), (0, .ref (gr g t)), (1, .int (nI p))] [] (tab g w t T) := by
  intro k
  induction k with
  | zero =>
    intro f x T hk hx hraw kk
    refine j_iload h (q := 6) 0 dX1_shuffle_4 rfl rfl ?_
    refine j_iconst h (q := 7) (1) dX1_shuffle_6 rfl (by decide) ?_
    refine j_icmp_lt h (tgt := 76) (q := 10) dX1_shuffle_7 rfl (by decide) (fun c_7 => ?_) (fun c_7 => ?_)
    rotate_left
    · exact absurd (show nI 0 < (1 : Int32) by decide) c_7
    refine j_sub [1, 0, 2, 3] rfl ?_
    exact kk T _ hraw (fun _ _ => rfl) rfl
  | succ k ih =>
    intro f x T hk hx hraw kk
    refine j_iload h (q := 6) 0 dX1_shuffle_4 rfl rfl ?_
    refine j_iconst h (q := 7) (1) dX1_shuffle_6 rfl (by decide) ?_
    refine j_icmp_lt h (tgt := 76) (q := 10) dX1_shuffle_7 rfl (by decide) (fun c_7 => ?_) (fun c_7 => ?_)
    · exact absurd c_7 (by rw [i_ltL (by omega) (by decide)]; omega)
    refine j_lload_n h (q := 11) 1 dX1_shuffle_10 rfl rfl ?_
    refine j_ldc2 h (q := 14) mK_X1_59 dX1_shuffle_11 rfl ?_
    refine j_lmul h (q := 15) dX1_shuffle_14 rfl ?_
    refine j_ldc2 h (q := 18) mK_X1_61 dX1_shuffle_15 rfl ?_
    refine j_ladd h (q := 19) dX1_shuffle_18 rfl ?_
    refine j_ldc2 h (q := 22) mK_X1_63 dX1_shuffle_19 rfl ?_
    refine j_lrem h (q := 23) dX1_shuffle_22 rfl (by decide) ?_
    rw [lcg_l hx]
    refine j_lstore_n h (q := 24) (loc' := [(2, _), (4, _), (0, _), (1, _)]) dX1_shuffle_23 rfl (by decide) rfl ?_
    refine j_lload_n h (q := 25) 0 dX1_shuffle_24 rfl rfl ?_
    refine j_ldc2 h (q := 28) mK_X1_65 dX1_shuffle_25 rfl ?_
    refine j_ldiv h (q := 29) dX1_shuffle_28 rfl (by decide) ?_
    refine j_iload h (q := 31) 1 dX1_shuffle_29 rfl rfl ?_
    refine j_iconst h (q := 32) (1) dX1_shuffle_31 rfl (by decide) ?_
    refine j_iadd h (q := 33) dX1_shuffle_32 rfl ?_
    refine j_i2l h (q := 34) dX1_shuffle_33 rfl ?_
    rw [i_addL]
    refine j_lrem h (q := 35) dX1_shuffle_34 rfl (lN_ne (by omega)) ?_
    refine j_l2i h (q := 36) dX1_shuffle_35 rfl ?_
    rw [lcg_o (lcg_lt x) (by omega)]
    have ho : (lcg x / 65536 % (k + 1 + 1)) < 52 := by have := Nat.mod_lt (lcg x / 65536) (show k + 1 + 1 > 0 by omega); omega
    refine j_istore h (q := 38) (loc' := [(5, _), (2, _), (4, _), (0, _), (1, _)]) dX1_shuffle_36 rfl (by decide) rfl ?_
    refine j_aload_n h (q := 39) 3 dX1_shuffle_38 rfl rfl ?_
    refine j_iload_n h (q := 40) 4 dX1_shuffle_39 rfl rfl ?_
    refine j_iload h (q := 42) 2 dX1_shuffle_40 rfl rfl ?_
    refine j_cV h (q := 45) (C := RX1) (T := TX1) (N := 9) (ci := 1) mo_X1_cardIn mI_X1_cardIn mV_X1_cardIn mL_X1_67 (c_X1_cardIn g _ _ ht _ rfl hp (i := k + 1) rfl (by omega)) (by decide) (by omega) (tab_0 _ _ _ _) rfl rfl rfl (Nat.le_of_ble_eq_true rfl) dX1_shuffle_42 rfl ?_
    rintro _ w42 ⟨x42, rfl, e⟩
    obtain ⟨rfl, rfl⟩ := e
    rw [hraw (k + 1) (by omega)]
    refine j_istore h (q := 47) (loc' := [(6, _), (5, _), (2, _), (4, _), (0, _), (1, _)]) dX1_shuffle_45 rfl (by decide) rfl ?_
    refine j_aload_n h (q := 48) 4 dX1_shuffle_47 rfl rfl ?_
    refine j_iload_n h (q := 49) 5 dX1_shuffle_48 rfl rfl ?_
    refine j_iload h (q := 51) 3 dX1_shuffle_49 rfl rfl ?_
    refine j_aload_n h (q := 52) 4 dX1_shuffle_51 rfl rfl ?_
    refine j_iload_n h (q := 53) 5 dX1_shuffle_52 rfl rfl ?_
    refine j_iload h (q := 55) 1 dX1_shuffle_53 rfl rfl ?_
    refine j_cV h (q := 58) (C := RX1) (T := TX1) (N := 9) (ci := 1) mo_X1_cardIn mI_X1_cardIn mV_X1_cardIn mL_X1_67 (c_X1_cardIn g _ _ ht _ rfl hp (i := (lcg x / 65536 % (k + 1 + 1))) rfl (by omega)) (by decide) (by omega) (tab_0 _ _ _ _) rfl rfl rfl (Nat.le_of_ble_eq_true rfl) dX1_shuffle_55 rfl ?_
    rintro _ w55 ⟨x55, rfl, e⟩
    obtain ⟨rfl, rfl⟩ := e
    rw [hraw (lcg x / 65536 % (k + 1 + 1)) ho]
    refine j_cV h (q := 61) (C := RX1) (T := TX1) (N := 9) (ci := 1) mo_X1_setCard mI_X1_setCard mV_X1_setCard mL_X1_71 (c_X1_setCard g _ _ ht _ rfl hp (i := k + 1) rfl (by omega) _) (by decide) (by omega) (tab_0 _ _ _ _) rfl rfl rfl (Nat.le_of_ble_eq_true rfl) dX1_shuffle_58 rfl ?_
    rintro _ w58 ⟨rfl, e⟩
    subst e
    refine j_aload_n h (q := 62) 4 dX1_shuffle_61 rfl rfl ?_
    refine j_iload_n h (q := 63) 5 dX1_shuffle_62 rfl rfl ?_
    refine j_iload h (q := 65) 1 dX1_shuffle_63 rfl rfl ?_
    refine j_iload h (q := 67) 0 dX1_shuffle_65 rfl rfl ?_
    refine j_cV h (q := 70) (C := RX1) (T := TX1) (N := 9) (ci := 1) mo_X1_setCard mI_X1_setCard mV_X1_setCard mL_X1_71 (c_X1_setCard g _ _ ht _ rfl hp (i := (lcg x / 65536 % (k + 1 + 1))) rfl (by omega) _) (by decide) (by omega) (tab_0 _ _ _ _) rfl rfl rfl (Nat.le_of_ble_eq_true rfl) dX1_shuffle_67 rfl ?_
    rintro _ w67 ⟨rfl, e⟩
    subst e
    refine j_iinc h (q := 73) (loc' := [(4, _), (6, _), (5, _), (2, _), (0, _), (1, _)]) 3 _ dX1_shuffle_70 rfl rfl rfl (by decide) rfl ?_
    refine j_goto h (tgt := 4) dX1_shuffle_73 (by decide) ?_
    rw [show nI (k + 1) + Int32.ofInt (-1) = nI k from nI_m1 (Nat.succ_pos k)]
    refine j_sub [0, 3, 4, 5] rfl ?_
    refine ih (swapF f (k + 1) (lcg x / 65536 % (k + 1 + 1))) (lcg x) _ (by omega) (lcg_lt x) ?_ (fun T' l h1 h2 h3 => kk T' l h1 (fun a ha => ?_) (h3.trans rfl))
    · intro i hi
      show upd (upd (Tcd T) (fpv p + (k + 1)) (nI (f (lcg x / 65536 % (k + 1 + 1))))) (fpv p + (lcg x / 65536 % (k + 1 + 1))) (nI (f (k + 1))) (fpv p + i) = nI (swapF f (k + 1) (lcg x / 65536 % (k + 1 + 1)) i)
      unfold upd swapF
      by_cases z : i = (lcg x / 65536 % (k + 1 + 1))
      · rw [if_pos (by omega), if_pos z]
      · rw [if_neg (by omega), if_neg z]
        by_cases z2 : i = k + 1
        · rw [if_pos (by omega), if_pos z2]
        · rw [if_neg (by omega), if_neg z2]; exact hraw i hi
    · rw [h2 a ha]
      show upd (upd (Tcd T) (fpv p + (k + 1)) _) (fpv p + (lcg x / 65536 % (k + 1 + 1))) _ a = _
      unfold upd
      rw [if_neg (by omega), if_neg (by omega)]


set_option maxRecDepth 100000 in
set_option maxHeartbeats 4000000 in
theorem c_shuffle (g : jG) (w : jW) (t : Nat) (ht : t + 6 ≤ NW) (T : Ts) {a : Int32} {p : Nat} (ha : a = nI p) (hp : p < 22) (hc : fpv p + 52 ≤ 650) {x : Nat} (hx : x < 2147483648) {f : Nat → Nat} (hraw : (∀ i, i < 52 → Tcd T (fpv p + i) = nI (f i)))  : ConL g 2 yX1_shuffle cX1_shuffle 7 (some (.long)) [.ref (gr g t), .int a, .long (lN x)] (tab g w t T) (fun y w' => y = lN (shufG 51 (f, x)).2 ∧ ∃ T', w' = tab g w t T' ∧ (∀ i, i < 52 → Tcd T' (fpv p + i) = nI ((shufG 51 (f, x)).1 i)) ∧ (∀ a, (a < fpv p ∨ fpv p + 52 ≤ a) → Tcd T' a = Tcd T a) ∧ T'.2 = T.2) := by
  refine con_of (by decide +kernel) (Nat.le_of_ble_eq_true rfl) [(0, _), (1, _), (2, _)] rfl (fun K h => ?_)
  subst ha
  refine j_bipush h (q := 2) (51) dX1_shuffle_0 rfl (by decide) ?_
  refine j_istore h (q := 4) (loc' := [(4, _), (0, _), (1, _), (2, _)]) dX1_shuffle_2 rfl (by decide) rfl ?_
  refine j_sub [0, 3, 1, 2] rfl ?_
  refine lp_shuffle g w t ht h hp hc 51 f x T (by decide) hx hraw (fun T' l h1 h2 h3 => ?_)
  refine j_lload_n h (q := 77) 0 dX1_shuffle_76 rfl rfl ?_
  refine j_lret h rfl dX1_shuffle_77 ?_
  exact ⟨_, rfl, rfl, T', rfl, h1, h2, h3⟩

set_option maxRecDepth 100000 in
set_option maxHeartbeats 4000000 in
theorem lp_dealOut (g : jG) (w : jW) (t : Nat) (ht : t + 6 ≤ NW) {K : jK} {Φ : Option Value → jW → Prop} (h : jH g K RX1 cX1_dealOut 5 none) {s x : Nat} (hs : s < 2)  : ∀ n k T, k + n = 52 → DSO T s x k → (∀ T' l, DSO T' s x 52 → T'.2.2 = T.2.2 → J g 3 K 5 Φ 82 l [] (tab g w t T')) → J g 3 K 5 Φ 11 [(3, .int (nI k)), (0, .ref (gr g t)), (1, .int (nI s)), (2, .int (nI (4 + s)))] [] (tab g w t T) := by
  intro n
  induction n with
  | zero =>
    intro k T hk hT kk
    have hkN : k = 52 := by omega
    subst hkN
    refine j_iload_n h (q := 12) 0 dX1_dealOut_11 rfl rfl ?_
    refine j_bipush h (q := 14) (52) dX1_dealOut_12 rfl (by decide) ?_
    refine j_icmp_ge h (tgt := 82) (q := 17) dX1_dealOut_14 rfl (by decide) (fun c_14 => ?_) (fun c_14 => ?_)
    rotate_left
    · exact absurd (show (52 : Int32) ≤ nI 52 by decide) c_14
    exact kk T _ hT rfl
  | succ n ih =>
    intro k T hk hT kk
    refine j_iload_n h (q := 12) 0 dX1_dealOut_11 rfl rfl ?_
    refine j_bipush h (q := 14) (52) dX1_dealOut_12 rfl (by decide) ?_
    refine j_icmp_ge h (tgt := 82) (q := 17) dX1_dealOut_14 rfl (by decide) (fun c_14 => ?_) (fun c_14 => ?_)
    · exact absurd c_14 (by rw [i_Lle (by omega) (by omega)]; omega)
    refine j_aload_n h (q := 18) 1 dX1_dealOut_17 rfl rfl ?_
    refine j_iload_n h (q := 19) 3 dX1_dealOut_18 rfl rfl ?_
    refine j_iload_n h (q := 20) 0 dX1_dealOut_19 rfl rfl ?_
    refine j_cV h (q := 23) (C := RX1) (T := TX1) (N := 9) (ci := 1) mo_X1_cardIn mI_X1_cardIn mV_X1_cardIn mL_X1_67 (c_X1_cardIn g _ _ ht _ rfl (by omega) (i := k) rfl (hand_f hs (by omega))) (by decide) (by omega) (tab_0 _ _ _ _) rfl rfl rfl (Nat.le_of_ble_eq_true rfl) dX1_dealOut_20 rfl ?_
    rintro _ w20 ⟨x20, rfl, e⟩
    obtain ⟨rfl, rfl⟩ := e
    rw [hT.2.2.2.1 k (Nat.le_refl _) (by omega)]
    refine j_istore h (q := 25) (loc' := [(4, _), (3, _), (0, _), (1, _), (2, _)]) dX1_dealOut_23 rfl (by decide) rfl ?_
    refine j_iload_n h (q := 26) 1 dX1_dealOut_25 rfl rfl ?_
    refine j_bipush h (q := 28) (13) dX1_dealOut_26 rfl (by decide) ?_
    refine j_icmp_ge h (tgt := 43) (q := 31) dX1_dealOut_28 rfl (by decide) (fun c_28 => ?_) (fun c_28 => ?_)
    · rw [i_Lle (by omega) (by omega)] at c_28
      refine j_iload_n h (q := 44) 1 dX1_dealOut_43 rfl rfl ?_
      refine j_bipush h (q := 46) (17) dX1_dealOut_44 rfl (by decide) ?_
      refine j_icmp_ge h (tgt := 69) (q := 49) dX1_dealOut_46 rfl (by decide) (fun c_46 => ?_) (fun c_46 => ?_)
      · rw [i_Lle (by omega) (by omega)] at c_46
        refine j_aload_n h (q := 70) 2 dX1_dealOut_69 rfl rfl ?_
        refine j_iload_n h (q := 71) 4 dX1_dealOut_70 rfl rfl ?_
        refine j_iload h (q := 73) 0 dX1_dealOut_71 rfl rfl ?_
        refine j_cV h (q := 76) (C := RX1) (T := TX1) (N := 9) (ci := 1) mo_X1_layOn mI_X1_layOn mV_X1_layOn mL_X1_30 (c_X1_layOn g _ _ ht _ (p := 4 + s) rfl (by omega) (k - 17) hT.2.1 (hand_f hs (by omega)) _) (by decide) (by omega) (tab_0 _ _ _ _) rfl rfl rfl (Nat.le_of_ble_eq_true rfl) dX1_dealOut_73 rfl ?_
        rintro _ w73 ⟨rfl, e⟩
        subst e
        have hT2 := DSO_hand hT hs (by omega) (by omega)
        refine j_iinc h (q := 79) (loc' := [(3, _), (4, _), (0, _), (1, _), (2, _)]) 1 _ dX1_dealOut_76 rfl rfl rfl (by decide) rfl ?_
        refine j_goto h (tgt := 11) dX1_dealOut_79 (by decide) ?_
        rw [show nI k + Int32.ofInt 1 = nI (k + 1) from nI_1 k]
        refine j_sub [0, 2, 3, 4] rfl ?_
        exact ih (k + 1) _ (by omega) hT2 (fun T' l h1 h2 => kk T' l h1 (h2.trans rfl))
      · rw [i_Lle (by omega) (by omega)] at c_46
        refine j_aload_n h (q := 50) 2 dX1_dealOut_49 rfl rfl ?_
        refine j_bipush h (q := 52) (6) dX1_dealOut_50 rfl (by decide) ?_
        refine j_iload_n h (q := 53) 3 dX1_dealOut_52 rfl rfl ?_
        refine j_iconst h (q := 54) (4) dX1_dealOut_53 rfl (by decide) ?_
        refine j_imul h (q := 55) dX1_dealOut_54 rfl ?_
        refine j_iadd h (q := 56) dX1_dealOut_55 rfl ?_
        refine j_iload_n h (q := 57) 1 dX1_dealOut_56 rfl rfl ?_
        refine j_iadd h (q := 58) dX1_dealOut_57 rfl ?_
        refine j_bipush h (q := 60) (13) dX1_dealOut_58 rfl (by decide) ?_
        refine j_isub h (q := 61) dX1_dealOut_60 rfl ?_
        refine j_iload h (q := 63) 0 dX1_dealOut_61 rfl rfl ?_
        refine j_cV h (q := 66) (C := RX1) (T := TX1) (N := 9) (ci := 1) mo_X1_layOn mI_X1_layOn mV_X1_layOn mL_X1_30 (c_X1_layOn g _ _ ht _ (p := 6 + s * 4 + k - 13) (by rw [i_mulL, i_Ladd, nI_add, i_subL (by omega)]) (by omega) 0 (by rw [hT.1 _ (by omega) (by omega)]; congr 1; unfold outN; rw [if_neg (by omega), if_pos (by omega), if_neg (by omega)]) (by have a9 := fpv_b (p := 6 + s * 4 + k - 13) (by omega); omega) _) (by decide) (by omega) (tab_0 _ _ _ _) rfl rfl rfl (Nat.le_of_ble_eq_true rfl) dX1_dealOut_63 rfl ?_
        rintro _ w63 ⟨rfl, e⟩
        subst e
        have hT2 := DSO_b hT hs (by omega) (by omega)
        refine j_goto h (tgt := 76) dX1_dealOut_66 (by decide) ?_
        refine j_iinc h (q := 79) (loc' := [(3, _), (4, _), (0, _), (1, _), (2, _)]) 1 _ dX1_dealOut_76 rfl rfl rfl (by decide) rfl ?_
        refine j_goto h (tgt := 11) dX1_dealOut_79 (by decide) ?_
        rw [show nI k + Int32.ofInt 1 = nI (k + 1) from nI_1 k]
        refine j_sub [0, 2, 3, 4] rfl ?_
        exact ih (k + 1) _ (by omega) hT2 (fun T' l h1 h2 => kk T' l h1 (h2.trans rfl))
    · rw [i_Lle (by omega) (by omega)] at c_28
      refine j_aload_n h (q := 32) 2 dX1_dealOut_31 rfl rfl ?_
      refine j_iconst h (q := 33) (0) dX1_dealOut_32 rfl (by decide) ?_
      refine j_iload_n h (q := 34) 3 dX1_dealOut_33 rfl rfl ?_
      refine j_iadd h (q := 35) dX1_dealOut_34 rfl ?_
      refine j_iload h (q := 37) 0 dX1_dealOut_35 rfl rfl ?_
      refine j_cV h (q := 40) (C := RX1) (T := TX1) (N := 9) (ci := 1) mo_X1_layOn mI_X1_layOn mV_X1_layOn mL_X1_30 (c_X1_layOn g _ _ ht _ (p := s) (by rw [i_Ladd, Nat.zero_add]) (by omega) k (by rw [hT.1 s (by omega) (by omega)]; congr 1; unfold outN; rw [if_pos rfl]; omega) (by have a9 := fpv_cap (p := s) (by omega); unfold cap at a9; rw [if_neg (by omega)] at a9; omega) _) (by decide) (by omega) (tab_0 _ _ _ _) rfl rfl rfl (Nat.le_of_ble_eq_true rfl) dX1_dealOut_37 rfl ?_
      rintro _ w37 ⟨rfl, e⟩
      subst e
      have hT2 := DSO_a hT hs (by omega)
      refine j_goto h (tgt := 76) dX1_dealOut_40 (by decide) ?_
      refine j_iinc h (q := 79) (loc' := [(3, _), (4, _), (0, _), (1, _), (2, _)]) 1 _ dX1_dealOut_76 rfl rfl rfl (by decide) rfl ?_
      refine j_goto h (tgt := 11) dX1_dealOut_79 (by decide) ?_
      rw [show nI k + Int32.ofInt 1 = nI (k + 1) from nI_1 k]
      refine j_sub [0, 2, 3, 4] rfl ?_
      exact ih (k + 1) _ (by omega) hT2 (fun T' l h1 h2 => kk T' l h1 (h2.trans rfl))


set_option maxRecDepth 100000 in
set_option maxHeartbeats 4000000 in
theorem c_dealOut (g : jG) (w : jW) (t : Nat) (ht : t + 6 ≤ NW) (T : Ts) {a b : Int32} {s x : Nat} (ha : a = nI s) (hb : b = nI (4 + s)) (hs : s < 2) (h1 : ∀ p, p < 22 → p ≠ 4 + s → Tsz T p = nI (sideN s p)) (h3 : ∀ p i, p < 22 → p ≠ 4 + s → i < sideN s p → Tcd T (fpv p + i) = nI (dealC x p i)) (h4 : ∀ j, j < 52 → Tcd T (fpv (4 + s) + j) = nI (packG x s j))  : ConV g 3 yX1_dealOut cX1_dealOut 5 none [.ref (gr g t), .int a, .int b] (tab g w t T) (fun w' => ∃ T', w' = tab g w t T' ∧ DSO T' s x 52 ∧ T'.2.2 = T.2.2) := by
  refine con_of (by decide +kernel) (Nat.le_of_ble_eq_true rfl) [(0, _), (1, _), (2, _)] rfl (fun K h => ?_)
  subst ha; subst hb
  refine j_aload_n h (q := 1) 0 dX1_dealOut_0 rfl rfl ?_
  refine j_get h (q := 4) inX1 (C := RX1) (T := TX1) (N := 9) (ci := 1) rfl 1 (by decide) mF_X1_15 (by omega) (tab_0 _ _ _ _) rfl dX1_dealOut_1 rfl ?_
  refine j_iload_n h (q := 5) 2 dX1_dealOut_4 rfl rfl ?_
  refine j_iconst h (q := 6) (0) dX1_dealOut_5 rfl (by decide) ?_
  refine j_cSN h (q := 9) mo_X2_setAt mS_X2_setAt mL_X1_41 (c_X2_setAt g _ (by omega) (tab_2 _ _ _ _) (by decide) _ _) (by decide) rfl rfl (Nat.le_of_ble_eq_true rfl) dX1_dealOut_6 rfl ?_
  rintro _ w6 ⟨rfl, e⟩
  rw [sti_n (by omega) (by decide), tab_u2] at e
  subst e
  refine j_iconst h (q := 10) (0) dX1_dealOut_9 rfl (by decide) ?_
  refine j_istore_n h (q := 11) (loc' := [(3, _), (0, _), (1, _), (2, _)]) dX1_dealOut_10 rfl (by decide) rfl ?_
  refine lp_dealOut g w t ht h hs (x := x) 52 0 _ rfl (DSO_0 hs (fun p hp hp4 => ?_) ?_ h3 h4) (fun T' l d1 d2 => ?_)
  · show upd (Tsz T) (4 + s) 0 p = _; unfold upd; rw [if_neg hp4]; exact h1 p hp hp4
  · show upd (Tsz T) (4 + s) 0 (4 + s) = _; unfold upd; rw [if_pos rfl]; rfl
  · refine j_vret h rfl dX1_dealOut_82 ?_
    exact ⟨rfl, T', rfl, d1, d2.trans rfl⟩

set_option maxRecDepth 100000 in
set_option maxHeartbeats 4000000 in
theorem lp_fill (g : jG) (w : jW) (t : Nat) (ht : t + 6 ≤ NW) {K : jK} {Φ : Option Value → jW → Prop} (h : jH g K RX1 cX1_dealBy 7 none) {a : Int32} {xx : Int64} {s : Nat} (hs : s < 2)  : ∀ n i T, i + n = 52 → Tsz T (4 + s) = nI i → (∀ j, j < i → Tcd T (fpv (4 + s) + j) = nI (52 * s + j)) → (∀ T', (∀ p, p < 22 → p ≠ 4 + s → Tsz T' p = Tsz T p) → (∀ p i, p < 22 → p ≠ 4 + s → i < cap p → Tcd T' (fpv p + i) = Tcd T (fpv p + i)) → (∀ j, j < 52 → Tcd T' (fpv (4 + s) + j) = nI (52 * s + j)) → T'.2.2 = T.2.2 → J g 4 K 7 Φ 52 [(5, .int (nI (4 + s))), (4, .int (nI s)), (2, .long xx), (0, .ref (gr g t)), (1, .int a)] [] (tab g w t T')) → J g 4 K 7 Φ 25 [(6, .int (nI i)), (5, .int (nI (4 + s))), (4, .int (nI s)), (2, .long (xx)), (0, .ref (gr g t)), (1, .int a)] [] (tab g w t T) := by
  intro n
  induction n with
  | zero =>
    intro i T hi hsz hraw kk
    have hiN : i = 52 := by omega
    subst hiN
    refine j_iload h (q := 27) 0 dX1_dealBy_25 rfl rfl ?_
    refine j_bipush h (q := 29) (52) dX1_dealBy_27 rfl (by decide) ?_
    refine j_icmp_ge h (tgt := 52) (q := 32) dX1_dealBy_29 rfl (by decide) (fun c_29 => ?_) (fun c_29 => ?_)
    rotate_left
    · exact absurd (show (52 : Int32) ≤ nI 52 by decide) c_29
    refine j_sub [1, 2, 3, 4, 5] rfl ?_
    exact kk T (fun _ _ _ => rfl) (fun _ _ _ _ _ => rfl) hraw rfl
  | succ n ih =>
    intro i T hi hsz hraw kk
    refine j_iload h (q := 27) 0 dX1_dealBy_25 rfl rfl ?_
    refine j_bipush h (q := 29) (52) dX1_dealBy_27 rfl (by decide) ?_
    refine j_icmp_ge h (tgt := 52) (q := 32) dX1_dealBy_29 rfl (by decide) (fun c_29 => ?_) (fun c_29 => ?_)
    · exact absurd c_29 (by rw [i_Lle (by omega) (by omega)]; omega)
    refine j_aload_n h (q := 33) 4 dX1_dealBy_32 rfl rfl ?_
    refine j_iload h (q := 35) 1 dX1_dealBy_33 rfl rfl ?_
    refine j_iload h (q := 37) 2 dX1_dealBy_35 rfl rfl ?_
    refine j_bipush h (q := 39) (52) dX1_dealBy_37 rfl (by decide) ?_
    refine j_imul h (q := 40) dX1_dealBy_39 rfl ?_
    refine j_iload h (q := 42) 0 dX1_dealBy_40 rfl rfl ?_
    refine j_iadd h (q := 43) dX1_dealBy_42 rfl ?_
    refine j_cV h (q := 46) (C := RX1) (T := TX1) (N := 9) (ci := 1) mo_X1_layOn mI_X1_layOn mV_X1_layOn mL_X1_30 (c_X1_layOn g _ _ ht _ (p := 4 + s) rfl (by omega) i hsz (hand_f hs (by omega)) _) (by decide) (by omega) (tab_0 _ _ _ _) rfl rfl rfl (Nat.le_of_ble_eq_true rfl) dX1_dealBy_43 rfl ?_
    rintro _ w43 ⟨rfl, e⟩
    subst e
    rw [i_mulL, nI_add]
    refine j_iinc h (q := 49) (loc' := [(6, _), (5, _), (4, _), (2, _), (0, _), (1, _)]) 0 _ dX1_dealBy_46 rfl rfl rfl (by decide) rfl ?_
    refine j_goto h (tgt := 25) dX1_dealBy_49 (by decide) ?_
    rw [show nI i + Int32.ofInt 1 = nI (i + 1) from nI_1 i]
    refine ih (i + 1) _ (by omega) ?_ ?_ (fun T' q1 q2 q3 q4 => kk T' (fun p hp hp4 => ?_) (fun p j hp hp4 hj => ?_) q3 (q4.trans rfl))
    · show upd (Tsz T) (4 + s) _ (4 + s) = _; unfold upd; rw [if_pos rfl]
    · intro j hj
      show upd (Tcd T) _ _ (fpv (4 + s) + j) = _
      unfold upd
      by_cases z : j = i
      · rw [if_pos (by omega), z]; congr 1; omega
      · rw [if_neg (by omega)]; exact hraw j (by omega)
    · rw [q1 p hp hp4]; show upd (Tsz T) (4 + s) _ p = _; unfold upd; rw [if_neg hp4]
    · rw [q2 p j hp hp4 hj]; show upd (Tcd T) _ _ (fpv p + j) = _; unfold upd; rw [if_neg (hand_ne hs hp hp4 hj (by omega))]


theorem hand_out {s p i : Nat} (hs : s < 2) (hp : p < 22) (h4 : p ≠ 4 + s) (hi : i < cap p) : fpv p + i < fpv (4 + s) ∨ fpv (4 + s) + 52 ≤ fpv p + i := by
  rcases Nat.lt_or_ge (fpv p + i) (fpv (4 + s)) with z | z
  · exact Or.inl z
  · rcases Nat.lt_or_ge (fpv p + i) (fpv (4 + s) + 52) with z2 | z2
    · exact absurd (show fpv p + i = fpv (4 + s) + (fpv p + i - fpv (4 + s)) by omega) (hand_ne hs hp h4 hi (by omega))
    · exact Or.inr z2

set_option maxRecDepth 100000 in
set_option maxHeartbeats 4000000 in
theorem lp_side (g : jG) (w : jW) (t : Nat) (ht : t + 6 ≤ NW) {K : jK} {Φ : Option Value → jW → Prop} (h : jH g K RX1 cX1_dealBy 7 none) {a : Int32} {s x x0 : Nat} (hs : s < 2) (hx : x < 2147483648) (hpk : ∀ j, packG x0 s j = (shufG 51 ((fun j => 52 * s + j), x)).1 j) {T : Ts} (hsz : Tsz T (4 + s) = nI 0) (h1 : ∀ p, p < 22 → p ≠ 4 + s → Tsz T p = nI (sideN s p)) (h3 : ∀ p i, p < 22 → p ≠ 4 + s → i < sideN s p → Tcd T (fpv p + i) = nI (dealC x0 p i)) (kk : ∀ T', DSO T' s x0 52 → T'.2.2 = T.2.2 → J g 4 K 7 Φ 10 [(4, .int (nI (s + 1))), (2, .long (lN (shufG 51 ((fun j => 52 * s + j), x)).2)), (0, .ref (gr g t)), (1, .int a)] [] (tab g w t T')) : J g 4 K 7 Φ 10 [(4, .int (nI s)), (2, .long (lN x)), (0, .ref (gr g t)), (1, .int a)] [] (tab g w t T) := by
  refine j_iload h (q := 12) 0 dX1_dealBy_10 rfl rfl ?_
  refine j_iconst h (q := 13) (2) dX1_dealBy_12 rfl (by decide) ?_
  refine j_icmp_ge h (tgt := 74) (q := 16) dX1_dealBy_13 rfl (by decide) (fun c_13 => ?_) (fun c_13 => ?_)
  · exact absurd c_13 (by rw [i_Lle (by omega) (by omega)]; omega)
  refine j_iconst h (q := 17) (4) dX1_dealBy_16 rfl (by decide) ?_
  refine j_iload h (q := 19) 0 dX1_dealBy_17 rfl rfl ?_
  refine j_iadd h (q := 20) dX1_dealBy_19 rfl ?_
  refine j_istore h (q := 22) (loc' := [(5, _), (4, _), (2, _), (0, _), (1, _)]) dX1_dealBy_20 rfl (by decide) rfl ?_
  refine j_iconst h (q := 23) (0) dX1_dealBy_22 rfl (by decide) ?_
  refine j_istore h (q := 25) (loc' := [(6, _), (5, _), (4, _), (2, _), (0, _), (1, _)]) dX1_dealBy_23 rfl (by decide) rfl ?_
  rw [i_Ladd]
  refine j_sub [0, 1, 2, 3, 4, 5] rfl ?_
  refine lp_fill g w t ht h hs 52 0 T rfl hsz (fun j hj => absurd hj (Nat.not_lt_zero _)) (fun T1 q1 q2 q3 q4 => ?_)
  refine j_aload_n h (q := 53) 3 dX1_dealBy_52 rfl rfl ?_
  refine j_iload h (q := 55) 0 dX1_dealBy_53 rfl rfl ?_
  refine j_lload_n h (q := 56) 2 dX1_dealBy_55 rfl rfl ?_
  refine j_cV h (q := 59) (C := RX1) (T := TX1) (N := 9) (ci := 1) mo_X1_shuffle mI_X1_shuffle mV_X1_shuffle mL_X1_34 (c_shuffle g _ _ ht _ (p := 4 + s) rfl (by omega) (by have := hand_f hs (i := 103) (by decide); omega) hx (f := fun j => 52 * s + j) q3) (by decide) (by omega) (tab_0 _ _ _ _) rfl rfl rfl (Nat.le_of_ble_eq_true rfl) dX1_dealBy_56 rfl ?_
  rintro _ w56 ⟨x56, rfl, e⟩
  obtain ⟨rfl, T2, rfl, r1, r2, r3⟩ := e
  refine j_lstore_n h (q := 60) (loc' := [(2, _), (5, _), (4, _), (0, _), (1, _)]) dX1_dealBy_59 rfl (by decide) rfl ?_
  refine j_aload_n h (q := 61) 3 dX1_dealBy_60 rfl rfl ?_
  refine j_iload h (q := 63) 2 dX1_dealBy_61 rfl rfl ?_
  refine j_iload h (q := 65) 1 dX1_dealBy_63 rfl rfl ?_
  refine j_cV h (q := 68) (C := RX1) (T := TX1) (N := 9) (ci := 1) mo_X1_dealOut mI_X1_dealOut mV_X1_dealOut mL_X1_38 (c_dealOut g _ _ ht _ (s := s) (x := x0) rfl rfl hs (fun p hp hp4 => by rw [show Tsz T2 = Tsz T1 from congrArg (fun z => z.1) r3, q1 p hp hp4]; exact h1 p hp hp4) (fun p i hp hp4 hi => by rw [r2 _ (hand_out hs hp hp4 (Nat.lt_of_lt_of_le hi (sideN_cap hp))), q2 p i hp hp4 (Nat.lt_of_lt_of_le hi (sideN_cap hp))]; exact h3 p i hp hp4 hi) (fun j hj => by rw [r1 j hj, hpk])) (by decide) (by omega) (tab_0 _ _ _ _) rfl rfl rfl (Nat.le_of_ble_eq_true rfl) dX1_dealBy_65 rfl ?_
  rintro _ w65 ⟨rfl, e⟩
  obtain ⟨T3, rfl, d1, d2⟩ := e
  refine j_iinc h (q := 71) (loc' := [(4, _), (2, _), (5, _), (0, _), (1, _)]) 2 _ dX1_dealBy_68 rfl rfl rfl (by decide) rfl ?_
  refine j_goto h (tgt := 10) dX1_dealBy_71 (by decide) ?_
  rw [show nI s + Int32.ofInt 1 = nI (s + 1) from nI_1 s]
  refine j_sub [0, 1, 3, 4] rfl ?_
  exact kk T3 d1 (d2.trans ((congrArg (fun z => z.2) r3).trans q4))

theorem shuf_lt : ∀ (k : Nat) (a : (Nat → Nat) × Nat), a.2 < 2147483648 → (shufG k a).2 < 2147483648
  | 0, _, h => h
  | k + 1, a, _ => shuf_lt k _ (lcg_lt a.2)

set_option maxRecDepth 100000 in
set_option maxHeartbeats 4000000 in
theorem c_dealBy (g : jG) (w : jW) (t : Nat) (ht : t + 6 ≤ NW) (T : Ts) {a : Int32} {x : Nat} (ha : a = nI x) (hx : x < 2147483648)  : ConV g 4 yX1_dealBy cX1_dealBy 7 none [.ref (gr g t), .int a] (tab g w t T) (fun w' => ∃ T', w' = tab g w t T' ∧ TR T' (dealG x)) := by
  refine con_of (by decide +kernel) (Nat.le_of_ble_eq_true rfl) [(0, _), (1, _)] rfl (fun K h => ?_)
  subst ha
  refine j_aload_n h (q := 1) 0 dX1_dealBy_0 rfl rfl ?_
  refine j_cV h (q := 4) (C := RX1) (T := TX1) (N := 9) (ci := 1) mo_X1_clear mI_X1_clear mV_X1_clear mL_X1_27 (c_clear g _ _ ht _) (by decide) (by omega) (tab_0 _ _ _ _) rfl rfl rfl (Nat.le_of_ble_eq_true rfl) dX1_dealBy_1 rfl ?_
  rintro _ w1 ⟨rfl, e⟩
  obtain ⟨T1, rfl, hz, hcl⟩ := e
  refine j_iload_n h (q := 5) 1 dX1_dealBy_4 rfl rfl ?_
  refine j_i2l h (q := 6) dX1_dealBy_5 rfl ?_
  rw [nI_l (by omega)]
  refine j_lstore_n h (q := 7) (loc' := [(2, _), (0, _), (1, _)]) dX1_dealBy_6 rfl (by decide) rfl ?_
  refine j_iconst h (q := 8) (0) dX1_dealBy_7 rfl (by decide) ?_
  refine j_istore h (q := 10) (loc' := [(4, _), (2, _), (0, _), (1, _)]) dX1_dealBy_8 rfl (by decide) rfl ?_
  refine j_sub [0, 1, 2, 3] rfl ?_
  refine lp_side g w t ht h (s := 0) (x0 := x) (by decide) hx (fun j => by unfold packG; rw [if_pos rfl]; unfold pack0; simp only [Nat.mul_zero, Nat.zero_add]) (hz 4 (by decide)) (fun p hp hp4 => by rw [hz p hp]; rfl) (fun p i hp hp4 hi => absurd hi (Nat.not_lt_zero _)) (fun T2 d1 d2 => ?_)
  have dn := DSO_next d1
  refine lp_side g w t ht h (s := 1) (x0 := x) (by decide) (shuf_lt _ _ hx) (fun j => by unfold packG; rw [if_neg (by decide)]; unfold pack1 pack0; simp only [Nat.mul_zero, Nat.zero_add, Nat.mul_one]) dn.2.1 dn.1 dn.2.2 (fun T3 d3 d4 => ?_)
  refine j_iload h (q := 12) 0 dX1_dealBy_10 rfl rfl ?_
  refine j_iconst h (q := 13) (2) dX1_dealBy_12 rfl (by decide) ?_
  refine j_icmp_ge h (tgt := 74) (q := 16) dX1_dealBy_13 rfl (by decide) (fun c_13 => ?_) (fun c_13 => ?_)
  rotate_left
  · exact absurd (show (2 : Int32) ≤ nI 2 by decide) c_13
  refine j_vret h rfl dX1_dealBy_74 ?_
  exact ⟨rfl, T3, rfl, DSO_end d3 (by rw [show T3 = (T3.1, T3.2.1, T1.2.2) by rw [← d4.trans d2]]; exact hcl)⟩
