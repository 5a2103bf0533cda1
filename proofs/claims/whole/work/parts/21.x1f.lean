set_option maxRecDepth 100000 in
set_option maxHeartbeats 4000000 in
theorem lp_clearA (g : jG) (w : jW) (t : Nat) (ht : t + 6 ≤ NW) {K : jK} {Φ : Option Value → jW → Prop} (h : jH g K RX1 cX1_clear 2 none) (k : ∀ T, (∀ p, p < 22 → Tsz T p = nI 0) → J g 1 K 2 Φ 23 [(1, .int (nI 22)), (0, .ref (gr g t))] [] (tab g w t T)) : ∀ n i T, i + n = 22 → (∀ p, p < i → Tsz T p = nI 0) → J g 1 K 2 Φ 2 [(1, .int (nI i)), (0, .ref (gr g t))] [] (tab g w t T) := by
  intro n
  induction n with
  | zero =>
    intro i T hi hT
    have hiN : i = 22 := by omega
    subst hiN
    refine j_iload_n h (q := 3) 0 dX1_clear_2 rfl rfl ?_
    refine j_bipush h (q := 5) (22) dX1_clear_3 rfl (by decide) ?_
    refine j_icmp_ge h (tgt := 23) (q := 8) dX1_clear_5 rfl (by decide) (fun c_5 => ?_) (fun c_5 => ?_)
    rotate_left
    · exact absurd (show (22 : Int32) ≤ nI 22 by decide) c_5
    exact k T hT
  | succ n ih =>
    intro i T hi hT
    refine j_iload_n h (q := 3) 0 dX1_clear_2 rfl rfl ?_
    refine j_bipush h (q := 5) (22) dX1_clear_3 rfl (by decide) ?_
    refine j_icmp_ge h (tgt := 23) (q := 8) dX1_clear_5 rfl (by decide) (fun c_5 => ?_) (fun c_5 => ?_)
    · exact absurd c_5 (by rw [i_Lle (by omega) (by omega)]; omega)
    refine j_aload_n h (q := 9) 1 dX1_clear_8 rfl rfl ?_
    refine j_get h (q := 12) inX1 (C := RX1) (T := TX1) (N := 9) (ci := 1) rfl 1 (by decide) mF_X1_15 (by omega) (tab_0 _ _ _ _) rfl dX1_clear_9 rfl ?_
    refine j_iload_n h (q := 13) 0 dX1_clear_12 rfl rfl ?_
    refine j_iconst h (q := 14) (0) dX1_clear_13 rfl (by decide) ?_
    refine j_cSN h (q := 17) mo_X2_setAt mS_X2_setAt mL_X1_41 (c_X2_setAt g _ (by omega) (tab_2 _ _ _ _) (by decide) _ _) (by decide) rfl rfl (Nat.le_of_ble_eq_true rfl) dX1_clear_14 rfl ?_
    rintro _ w14 ⟨rfl, e⟩
    rw [sti_n (by omega) (by decide), tab_u2] at e
    subst e
    refine j_iinc h (q := 20) (loc' := [(1, _), (0, _)]) 0 _ dX1_clear_17 rfl rfl rfl (by decide) rfl ?_
    refine j_goto h (tgt := 2) dX1_clear_20 (by decide) ?_
    rw [show nI i + Int32.ofInt 1 = nI (i + 1) from nI_1 i]
    refine ih (i + 1) _ (by omega) ?_
    intro p hp
    show upd (Tsz T) i 0 p = _
    unfold upd
    by_cases z : p = i
    · rw [if_pos z]; rfl
    · rw [if_neg z]; exact hT p (by omega)


set_option maxRecDepth 100000 in
set_option maxHeartbeats 4000000 in
theorem lp_clearB (g : jG) (w : jW) (t : Nat) (ht : t + 6 ≤ NW) {K : jK} {Φ : Option Value → jW → Prop} (h : jH g K RX1 cX1_clear 2 none) (k : ∀ T, ((∀ p, p < 22 → Tsz T p = nI 0) ∧ (∀ s, s < 2 → Tpt T s = 0 ∧ Tfz T s = nI 2)) → J g 1 K 2 Φ 54 [(1, .int (nI 2)), (0, .ref (gr g t))] [] (tab g w t T)) : ∀ n i T, i + n = 2 → ((∀ p, p < 22 → Tsz T p = nI 0) ∧ (∀ s, s < i → Tpt T s = 0 ∧ Tfz T s = nI 2)) → J g 1 K 2 Φ 25 [(1, .int (nI i)), (0, .ref (gr g t))] [] (tab g w t T) := by
  intro n
  induction n with
  | zero =>
    intro i T hi hT
    have hiN : i = 2 := by omega
    subst hiN
    refine j_iload_n h (q := 26) 0 dX1_clear_25 rfl rfl ?_
    refine j_iconst h (q := 27) (2) dX1_clear_26 rfl (by decide) ?_
    refine j_icmp_ge h (tgt := 54) (q := 30) dX1_clear_27 rfl (by decide) (fun c_27 => ?_) (fun c_27 => ?_)
    rotate_left
    · exact absurd (show (2 : Int32) ≤ nI 2 by decide) c_27
    exact k T hT
  | succ n ih =>
    intro i T hi hT
    refine j_iload_n h (q := 26) 0 dX1_clear_25 rfl rfl ?_
    refine j_iconst h (q := 27) (2) dX1_clear_26 rfl (by decide) ?_
    refine j_icmp_ge h (tgt := 54) (q := 30) dX1_clear_27 rfl (by decide) (fun c_27 => ?_) (fun c_27 => ?_)
    · exact absurd c_27 (by rw [i_Lle (by omega) (by omega)]; omega)
    refine j_aload_n h (q := 31) 1 dX1_clear_30 rfl rfl ?_
    refine j_get h (q := 34) inX1 (C := RX1) (T := TX1) (N := 9) (ci := 1) rfl 2 (by decide) mF_X1_18 (by omega) (tab_0 _ _ _ _) rfl dX1_clear_31 rfl ?_
    refine j_iload_n h (q := 35) 0 dX1_clear_34 rfl rfl ?_
    refine j_iconst h (q := 36) (0) dX1_clear_35 rfl (by decide) ?_
    refine j_cSN h (q := 39) mo_X2_setAt mS_X2_setAt mL_X1_41 (c_X2_setAt g _ (by omega) (tab_3 _ _ _ _) (by decide) _ _) (by decide) rfl rfl (Nat.le_of_ble_eq_true rfl) dX1_clear_36 rfl ?_
    rintro _ w36 ⟨rfl, e⟩
    rw [sti_n (by omega) (by decide), tab_u3] at e
    subst e
    refine j_aload_n h (q := 40) 1 dX1_clear_39 rfl rfl ?_
    refine j_get h (q := 43) inX1 (C := RX1) (T := TX1) (N := 9) (ci := 1) rfl 3 (by decide) mF_X1_21 (by omega) (tab_0 _ _ _ _) rfl dX1_clear_40 rfl ?_
    refine j_iload_n h (q := 44) 0 dX1_clear_43 rfl rfl ?_
    refine j_iconst h (q := 45) (2) dX1_clear_44 rfl (by decide) ?_
    refine j_cSN h (q := 48) mo_X2_setAt mS_X2_setAt mL_X1_41 (c_X2_setAt g _ (by omega) (tab_4 _ _ _ _) (by decide) _ _) (by decide) rfl rfl (Nat.le_of_ble_eq_true rfl) dX1_clear_45 rfl ?_
    rintro _ w45 ⟨rfl, e⟩
    rw [sti_n (by omega) (by decide), tab_u4] at e
    subst e
    refine j_iinc h (q := 51) (loc' := [(1, _), (0, _)]) 0 _ dX1_clear_48 rfl rfl rfl (by decide) rfl ?_
    refine j_goto h (tgt := 25) dX1_clear_51 (by decide) ?_
    rw [show nI i + Int32.ofInt 1 = nI (i + 1) from nI_1 i]
    refine ih (i + 1) _ (by omega) ⟨hT.1, ?_⟩
    intro s hs
    show upd (Tpt T) i 0 s = _ ∧ upd (Tfz T) i 2 s = _
    unfold upd
    by_cases z : s = i
    · rw [if_pos z, if_pos z]; exact ⟨rfl, rfl⟩
    · rw [if_neg z, if_neg z]; exact hT.2 s (by omega)


set_option maxRecDepth 100000 in
set_option maxHeartbeats 4000000 in
theorem lp_clearC (g : jG) (w : jW) (t : Nat) (ht : t + 6 ≤ NW) {K : jK} {Φ : Option Value → jW → Prop} (h : jH g K RX1 cX1_clear 2 none) (k : ∀ T, ((∀ p, p < 22 → Tsz T p = nI 0) ∧ (∀ s, s < 2 → Tpt T s = 0 ∧ Tfz T s = nI 2) ∧ (∀ j, j < 8 → Tth T j = nI 0)) → J g 1 K 2 Φ 77 [(1, .int (nI 8)), (0, .ref (gr g t))] [] (tab g w t T)) : ∀ n i T, i + n = 8 → ((∀ p, p < 22 → Tsz T p = nI 0) ∧ (∀ s, s < 2 → Tpt T s = 0 ∧ Tfz T s = nI 2) ∧ (∀ j, j < i → Tth T j = nI 0)) → J g 1 K 2 Φ 56 [(1, .int (nI i)), (0, .ref (gr g t))] [] (tab g w t T) := by
  intro n
  induction n with
  | zero =>
    intro i T hi hT
    have hiN : i = 8 := by omega
    subst hiN
    refine j_iload_n h (q := 57) 0 dX1_clear_56 rfl rfl ?_
    refine j_bipush h (q := 59) (8) dX1_clear_57 rfl (by decide) ?_
    refine j_icmp_ge h (tgt := 77) (q := 62) dX1_clear_59 rfl (by decide) (fun c_59 => ?_) (fun c_59 => ?_)
    rotate_left
    · exact absurd (show (8 : Int32) ≤ nI 8 by decide) c_59
    exact k T hT
  | succ n ih =>
    intro i T hi hT
    refine j_iload_n h (q := 57) 0 dX1_clear_56 rfl rfl ?_
    refine j_bipush h (q := 59) (8) dX1_clear_57 rfl (by decide) ?_
    refine j_icmp_ge h (tgt := 77) (q := 62) dX1_clear_59 rfl (by decide) (fun c_59 => ?_) (fun c_59 => ?_)
    · exact absurd c_59 (by rw [i_Lle (by omega) (by omega)]; omega)
    refine j_aload_n h (q := 63) 1 dX1_clear_62 rfl rfl ?_
    refine j_get h (q := 66) inX1 (C := RX1) (T := TX1) (N := 9) (ci := 1) rfl 4 (by decide) mF_X1_24 (by omega) (tab_0 _ _ _ _) rfl dX1_clear_63 rfl ?_
    refine j_iload_n h (q := 67) 0 dX1_clear_66 rfl rfl ?_
    refine j_iconst h (q := 68) (0) dX1_clear_67 rfl (by decide) ?_
    refine j_cSN h (q := 71) mo_X2_setAt mS_X2_setAt mL_X1_41 (c_X2_setAt g _ (by omega) (tab_5 _ _ _ _) (by decide) _ _) (by decide) rfl rfl (Nat.le_of_ble_eq_true rfl) dX1_clear_68 rfl ?_
    rintro _ w68 ⟨rfl, e⟩
    rw [sti_n (by omega) (by decide), tab_u5] at e
    subst e
    refine j_iinc h (q := 74) (loc' := [(1, _), (0, _)]) 0 _ dX1_clear_71 rfl rfl rfl (by decide) rfl ?_
    refine j_goto h (tgt := 56) dX1_clear_74 (by decide) ?_
    rw [show nI i + Int32.ofInt 1 = nI (i + 1) from nI_1 i]
    refine ih (i + 1) _ (by omega) ⟨hT.1, hT.2.1, ?_⟩
    intro p hp
    show upd (Tth T) i 0 p = _
    unfold upd
    by_cases z : p = i
    · rw [if_pos z]; rfl
    · rw [if_neg z]; exact hT.2.2 p (by omega)


set_option maxRecDepth 100000 in
set_option maxHeartbeats 4000000 in
theorem c_clear (g : jG) (w : jW) (t : Nat) (ht : t + 6 ≤ NW) (T : Ts)  : ConV g 1 yX1_clear cX1_clear 2 none [.ref (gr g t)] (tab g w t T) (fun w' => ∃ T', w' = tab g w t T' ∧ (∀ p, p < 22 → Tsz T' p = nI 0) ∧ CL T') := by
  refine con_of (by decide +kernel) (Nat.le_of_ble_eq_true rfl) [(0, _)] rfl (fun K h => ?_)
  refine j_iconst h (q := 1) (0) dX1_clear_0 rfl (by decide) ?_
  refine j_istore_n h (q := 2) (loc' := [(1, _), (0, _)]) dX1_clear_1 rfl (by decide) rfl ?_
  refine lp_clearA g w t ht h (fun T hT => ?_) 22 0 T rfl (fun j hj => absurd hj (Nat.not_lt_zero _))
  refine j_iconst h (q := 24) (0) dX1_clear_23 rfl (by decide) ?_
  refine j_istore_n h (q := 25) (loc' := [(1, _), (0, _)]) dX1_clear_24 rfl (by decide) rfl ?_
  refine lp_clearB g w t ht h (fun T hT => ?_) 2 0 _ rfl ⟨hT, fun j hj => absurd hj (Nat.not_lt_zero _)⟩
  refine j_iconst h (q := 55) (0) dX1_clear_54 rfl (by decide) ?_
  refine j_istore_n h (q := 56) (loc' := [(1, _), (0, _)]) dX1_clear_55 rfl (by decide) rfl ?_
  refine lp_clearC g w t ht h (fun T hT => ?_) 8 0 _ rfl ⟨hT.1, hT.2, fun j hj => absurd hj (Nat.not_lt_zero _)⟩
  refine j_aload_n h (q := 78) 1 dX1_clear_77 rfl rfl ?_
  refine j_iconst h (q := 79) (0) dX1_clear_78 rfl (by decide) ?_
  refine j_put h (q := 82) inX1 (C := RX1) (T := TX1) (N := 9) (ci := 1) rfl tyX1_ok nmX1 5 (by decide) mF_X1_45 rfl rfl rfl (by first | rfl | decide) (by omega) (tab_0 _ _ _ _) (Nat.le_of_ble_eq_true rfl) dX1_clear_79 rfl ?_
  refine j_stk rfl tab_u0 ?_
  refine j_aload_n h (q := 83) 1 dX1_clear_82 rfl rfl ?_
  refine j_iconst h (q := 84) (0) dX1_clear_83 rfl (by decide) ?_
  refine j_put h (q := 87) inX1 (C := RX1) (T := TX1) (N := 9) (ci := 1) rfl tyX1_ok nmX1 6 (by decide) mF_X1_49 rfl rfl rfl (by first | rfl | decide) (by omega) (tab_0 _ _ _ _) (Nat.le_of_ble_eq_true rfl) dX1_clear_84 rfl ?_
  refine j_stk rfl tab_u0 ?_
  refine j_aload_n h (q := 88) 1 dX1_clear_87 rfl rfl ?_
  refine j_iconst h (q := 89) (0) dX1_clear_88 rfl (by decide) ?_
  refine j_put h (q := 92) inX1 (C := RX1) (T := TX1) (N := 9) (ci := 1) rfl tyX1_ok nmX1 7 (by decide) mF_X1_52 rfl rfl rfl (by first | rfl | decide) (by omega) (tab_0 _ _ _ _) (Nat.le_of_ble_eq_true rfl) dX1_clear_89 rfl ?_
  refine j_stk rfl tab_u0 ?_
  refine j_aload_n h (q := 93) 1 dX1_clear_92 rfl rfl ?_
  refine j_iconst h (q := 94) (0) dX1_clear_93 rfl (by decide) ?_
  refine j_put h (q := 97) inX1 (C := RX1) (T := TX1) (N := 9) (ci := 1) rfl tyX1_ok nmX1 8 (by decide) mF_X1_55 rfl rfl (by first | rfl | exact b2i_n _) (by first | rfl | decide) (by omega) (tab_0 _ _ _ _) (Nat.le_of_ble_eq_true rfl) dX1_clear_94 rfl ?_
  refine j_stk rfl tab_u0 ?_
  refine j_vret h rfl dX1_clear_97 ?_
  exact ⟨rfl, _, rfl, hT.1, ⟨hT.2.1, hT.2.2, rfl, rfl, rfl, rfl⟩⟩

set_option maxRecDepth 100000 in
set_option maxHeartbeats 4000000 in
theorem lp_shuffle (g : jG) (w : jW) (t : Nat) (ht : t + 6 ≤ NW) {K : jK} {Φ : Option Value → jW → Prop} (h : jH g K RX1 cX1_shuffle 7 (some (.long))) {p : Nat} (hp : p < 22) (hc : fpv p + 52 ≤ 650)  : ∀ k f x T, k < 52 → x < 2147483648 → (∀ i, i < 52 → Tcd T (fpv p + i) = nI (f i)) → (∀ T' l, (∀ i, i < 52 → Tcd T' (fpv p + i) = nI ((shufG k (f, x)).1 i)) → (∀ a, (a < fpv p ∨ fpv p + 52 ≤ a) → Tcd T' a = Tcd T a) → T'.2 = T.2 → J g 2 K 7 Φ 76 ((2, .long (lN (shufG k (f, x)).2)) :: l) [] (tab g w t T')) → J g 2 K 7 Φ 4 [(4, .int (nI (k))), (2, .long (lN (x))), (0, .ref (gr g t)), (1, .int (nI p))] [] (tab g w t T) := by
  intro k
  induction k with
  | zero =>
    intro f x T hk hx hraw kk
    refine j_iload h (q := 6) 0 dX1_shuffle_4 rfl rfl ?_
    refine j_iconst h (q := 7) (1) dX1_shuffle_6 rfl (by decide) ?_
    refine j_icmp_lt h (tgt := 76) (q := 10) dX1_shuffle_7 rfl (by decide) (fun c_7 => ?_) (fun c_7 => ?_)
    rotate_left
    · exact absurd (show nI 0 < (1 : Int32) by decide) c_7
    refine j_sub [1, 0, 2, 3] rfl ?_
    exact kk T _ hraw (fun _ _ => rfl) rfl
  | succ k ih =>
    intro f x T hk hx hraw kk
    refine j_iload h (q := 6) 0 dX1_shuffle_4 rfl rfl ?_
    refine j_iconst h (q := 7) (1) dX1_shuffle_6 rfl (by decide) ?_
    refine j_icmp_lt h (tgt := 76) (q := 10) dX1_shuffle_7 rfl (by decide) (fun c_7 => ?_) (fun c_7 => ?_)
    · exact absurd c_7 (by rw [i_ltL (by omega) (by decide)]; omega)
    refine j_lload_n h (q := 11) 1 dX1_shuffle_10 rfl rfl ?_
    refine j_ldc2 h (q := 14) mK_X1_59 dX1_shuffle_11 rfl ?_
    refine j_lmul h (q := 15) dX1_shuffle_14 rfl ?_
    refine j_ldc2 h (q := 18) mK_X1_61 dX1_shuffle_15 rfl ?_
    refine j_ladd h (q := 19) dX1_shuffle_18 rfl ?_
    refine j_ldc2 h (q := 22) mK_X1_63 dX1_shuffle_19 rfl ?_
    refine j_lrem h (q := 23) dX1_shuffle_22 rfl (by decide) ?_
    rw [lcg_l hx]
    refine j_lstore_n h (q := 24) (loc' := [(2, _), (4, _), (0, _), (1, _)]) dX1_shuffle_23 rfl (by decide) rfl ?_
    refine j_lload_n h (q := 25) 0 dX1_shuffle_24 rfl rfl ?_
    refine j_ldc2 h (q := 28) mK_X1_65 dX1_shuffle_25 rfl ?_
    refine j_ldiv h (q := 29) dX1_shuffle_28 rfl (by decide) ?_
    refine j_iload h (q := 31) 1 dX1_shuffle_29 rfl rfl ?_
    refine j_iconst h (q := 32) (1) dX1_shuffle_31 rfl (by decide) ?_
    refine j_iadd h (q := 33) dX1_shuffle_32 rfl ?_
    refine j_i2l h (q := 34) dX1_shuffle_33 rfl ?_
    rw [i_addL]
    refine j_lrem h (q := 35) dX1_shuffle_34 rfl (lN_ne (by omega)) ?_
    refine j_l2i h (q := 36) dX1_shuffle_35 rfl ?_
    rw [lcg_o (lcg_lt x) (by omega)]
    have ho : (lcg x / 65536 % (k + 1 + 1)) < 52 := by have := Nat.mod_lt (lcg x / 65536) (show k + 1 + 1 > 0 by omega); omega
    refine j_istore h (q := 38) (loc' := [(5, _), (2, _), (4, _), (0, _), (1, _)]) dX1_shuffle_36 rfl (by decide) rfl ?_
    refine j_aload_n h (q := 39) 3 dX1_shuffle_38 rfl rfl ?_
    refine j_iload_n h (q := 40) 4 dX1_shuffle_39 rfl rfl ?_
    refine j_iload h (q := 42) 2 dX1_shuffle_40 rfl rfl ?_
    refine j_cV h (q := 45) (C := RX1) (T := TX1) (N := 9) (ci := 1) mo_X1_cardIn mI_X1_cardIn mV_X1_cardIn mL_X1_67 (c_X1_cardIn g _ _ ht _ rfl hp (i := k + 1) rfl (by omega)) (by decide) (by omega) (tab_0 _ _ _ _) rfl rfl rfl (Nat.le_of_ble_eq_true rfl) dX1_shuffle_42 rfl ?_
    rintro _ w42 ⟨x42, rfl, e⟩
    obtain ⟨rfl, rfl⟩ := e
    rw [hraw (k + 1) (by omega)]
    refine j_istore h (q := 47) (loc' := [(6, _), (5, _), (2, _), (4, _), (0, _), (1, _)]) dX1_shuffle_45 rfl (by decide) rfl ?_
    refine j_aload_n h (q := 48) 4 dX1_shuffle_47 rfl rfl ?_
    refine j_iload_n h (q := 49) 5 dX1_shuffle_48 rfl rfl ?_
    refine j_iload h (q := 51) 3 dX1_shuffle_49 rfl rfl ?_
    refine j_aload_n h (q := 52) 4 dX1_shuffle_51 rfl rfl ?_
    refine j_iload_n h (q := 53) 5 dX1_shuffle_52 rfl rfl ?_
    refine j_iload h (q := 55) 1 dX1_shuffle_53 rfl rfl ?_
    refine j_cV h (q := 58) (C := RX1) (T := TX1) (N := 9) (ci := 1) mo_X1_cardIn mI_X1_cardIn mV_X1_cardIn mL_X1_67 (c_X1_cardIn g _ _ ht _ rfl hp (i := (lcg x / 65536 % (k + 1 + 1))) rfl (by omega)) (by decide) (by omega) (tab_0 _ _ _ _) rfl rfl rfl (Nat.le_of_ble_eq_true rfl) dX1_shuffle_55 rfl ?_
    rintro _ w55 ⟨x55, rfl, e⟩
    obtain ⟨rfl, rfl⟩ := e
    rw [hraw (lcg x / 65536 % (k + 1 + 1)) ho]
    refine j_cV h (q := 61) (C := RX1) (T := TX1) (N := 9) (ci := 1) mo_X1_setCard mI_X1_setCard mV_X1_setCard mL_X1_71 (c_X1_setCard g _ _ ht _ rfl hp (i := k + 1) rfl (by omega) _) (by decide) (by omega) (tab_0 _ _ _ _) rfl rfl rfl (Nat.le_of_ble_eq_true rfl) dX1_shuffle_58 rfl ?_
    rintro _ w58 ⟨rfl, e⟩
    subst e
    refine j_aload_n h (q := 62) 4 dX1_shuffle_61 rfl rfl ?_
    refine j_iload_n h (q := 63) 5 dX1_shuffle_62 rfl rfl ?_
    refine j_iload h (q := 65) 1 dX1_shuffle_63 rfl rfl ?_
    refine j_iload h (q := 67) 0 dX1_shuffle_65 rfl rfl ?_
    refine j_cV h (q := 70) (C := RX1) (T := TX1) (N := 9) (ci := 1) mo_X1_setCard mI_X1_setCard mV_X1_setCard mL_X1_71 (c_X1_setCard g _ _ ht _ rfl hp (i := (lcg x / 65536 % (k + 1 + 1))) rfl (by omega) _) (by decide) (by omega) (tab_0 _ _ _ _) rfl rfl rfl (Nat.le_of_ble_eq_true rfl) dX1_shuffle_67 rfl ?_
    rintro _ w67 ⟨rfl, e⟩
    subst e
    refine j_iinc h (q := 73) (loc' := [(4, _), (6, _), (5, _), (2, _), (0, _), (1, _)]) 3 _ dX1_shuffle_70 rfl rfl rfl (by decide) rfl ?_
    refine j_goto h (tgt := 4) dX1_shuffle_73 (by decide) ?_
    rw [show nI (k + 1) + Int32.ofInt (-1) = nI k from nI_m1 (Nat.succ_pos k)]
    refine j_sub [0, 3, 4, 5] rfl ?_
    refine ih (swapF f (k + 1) (lcg x / 65536 % (k + 1 + 1))) (lcg x) _ (by omega) (lcg_lt x) ?_ (fun T' l h1 h2 h3 => kk T' l h1 (fun a ha => ?_) (h3.trans rfl))
    · intro i hi
      show upd (upd (Tcd T) (fpv p + (k + 1)) (nI (f (lcg x / 65536 % (k + 1 + 1))))) (fpv p + (lcg x / 65536 % (k + 1 + 1))) (nI (f (k + 1))) (fpv p + i) = nI (swapF f (k + 1) (lcg x / 65536 % (k + 1 + 1)) i)
      unfold upd swapF
      by_cases z : i = (lcg x / 65536 % (k + 1 + 1))
      · rw [if_pos (by omega), if_pos z]
      · rw [if_neg (by omega), if_neg z]
        by_cases z2 : i = k + 1
        · rw [if_pos (by omega), if_pos z2]
        · rw [if_neg (by omega), if_neg z2]; exact hraw i hi
    · rw [h2 a ha]
      show upd (upd (Tcd T) (fpv p + (k + 1)) _) (fpv p + (lcg x / 65536 % (k + 1 + 1))) _ a = _
      unfold upd
      rw [if_neg (by omega), if_neg (by omega)]


set_option maxRecDepth 100000 in
set_option maxHeartbeats 4000000 in
theorem c_shuffle (g : jG) (w : jW) (t : Nat) (ht : t + 6 ≤ NW) (T : Ts) {a : Int32} {p : Nat} (ha : a = nI p) (hp : p < 22) (hc : fpv p + 52 ≤ 650) {x : Nat} (hx : x < 2147483648) {f : Nat → Nat} (hraw : (∀ i, i < 52 → Tcd T (fpv p + i) = nI (f i)))  : ConL g 2 yX1_shuffle cX1_shuffle 7 (some (.long)) [.ref (gr g t), .int a, .long (lN x)] (tab g w t T) (fun y w' => y = lN (shufG 51 (f, x)).2 ∧ ∃ T', w' = tab g w t T' ∧ (∀ i, i < 52 → Tcd T' (fpv p + i) = nI ((shufG 51 (f, x)).1 i)) ∧ (∀ a, (a < fpv p ∨ fpv p + 52 ≤ a) → Tcd T' a = Tcd T a) ∧ T'.2 = T.2) := by
  refine con_of (by decide +kernel) (Nat.le_of_ble_eq_true rfl) [(0, _), (1, _), (2, _)] rfl (fun K h => ?_)
  subst ha
  refine j_bipush h (q := 2) (51) dX1_shuffle_0 rfl (by decide) ?_
  refine j_istore h (q := 4) (loc' := [(4, _), (0, _), (1, _), (2, _)]) dX1_shuffle_2 rfl (by decide) rfl ?_
  refine j_sub [0, 3, 1, 2] rfl ?_
  refine lp_shuffle g w t ht h hp hc 51 f x T (by decide) hx hraw (fun T' l h1 h2 h3 => ?_)
  refine j_lload_n h (q := 77) 0 dX1_shuffle_76 rfl rfl ?_
  refine j_lret h rfl dX1_shuffle_77 ?_
  exact ⟨_, rfl, rfl, T', rfl, h1, h2, h3⟩
