set_option maxRecDepth 100000 in
set_option maxHeartbeats 4000000 in
theorem c_take (g : jG) (w : jW) (t : Nat) (ht : t + 6 ≤ NW) (T : Ts) {a : Int32} {p : Nat} (ha : a = nI p) (hp : p < 22) (n : Nat) (hn : Tsz T p = nI n) (hc : fpv p + n ≤ 650) (h0 : 0 < n) {k : Nat} (hk : k < 104) (hcd : Tcd T (fpv p + (n - 1)) = nI k)  : ConI g 2 yX1_takeFrom cX1_takeFrom 3 (some (.int)) [.ref (gr g t), .int a] (tab g w t T) (fun x w' => x = nI k ∧ w' = tab g w t (sSz T (upd (Tsz T) p (nI (n - 1))))) := by
  refine con_of (by decide +kernel) (Nat.le_of_ble_eq_true rfl) [(0, _), (1, _)] rfl (fun K h => ?_)
  subst ha
  refine j_aload_n h (q := 1) 0 dX1_takeFrom_0 rfl rfl ?_
  refine j_iload_n h (q := 2) 1 dX1_takeFrom_1 rfl rfl ?_
  refine j_cV h (q := 5) (C := RX1) (T := TX1) (N := 9) (ci := 1) mo_X1_topOf mI_X1_topOf mV_X1_topOf mL_X1_85 (c_X1_topOf g _ _ ht _ rfl hp n hn hc) (by decide) (by omega) (tab_0 _ _ _ _) rfl rfl rfl (Nat.le_of_ble_eq_true rfl) dX1_takeFrom_2 rfl ?_
  rintro _ w2 ⟨x2, rfl, e⟩
  obtain ⟨rfl, rfl⟩ := e
  rw [if_neg (by omega), hcd]
  refine j_istore_n h (q := 6) (loc' := [(2, _), (0, _), (1, _)]) dX1_takeFrom_5 rfl (by decide) rfl ?_
  refine j_iload_n h (q := 7) 0 dX1_takeFrom_6 rfl rfl ?_
  refine j_bipush h (q := 9) (-6) dX1_takeFrom_7 rfl (by decide) ?_
  refine j_icmp_eq h (tgt := 21) (q := 12) dX1_takeFrom_9 rfl (by decide) (fun c_9 => ?_) (fun c_9 => ?_)
  · exact absurd c_9 (ov_ne hk)
  refine j_aload_n h (q := 13) 1 dX1_takeFrom_12 rfl rfl ?_
  refine j_get h (q := 16) inX1 (C := RX1) (T := TX1) (N := 9) (ci := 1) rfl 1 (by decide) mF_X1_15 (by omega) (tab_0 _ _ _ _) rfl dX1_takeFrom_13 rfl ?_
  refine j_iload_n h (q := 17) 2 dX1_takeFrom_16 rfl rfl ?_
  refine j_iconst h (q := 18) (-1) dX1_takeFrom_17 rfl (by decide) ?_
  refine j_cSN h (q := 21) mo_X2_addAt mS_X2_addAt mL_X1_82 (c_X2_addAt g _ (by omega) (tab_2 _ _ _ _) (by decide) _ _) (by decide) rfl rfl (Nat.le_of_ble_eq_true rfl) dX1_takeFrom_18 rfl ?_
  rintro _ w18 ⟨rfl, e⟩
  rw [ati_n hp (by decide), hn, nI_m1 h0, sti_n hp (by decide), tab_u2] at e
  subst e
  refine j_iload_n h (q := 22) 0 dX1_takeFrom_21 rfl rfl ?_
  refine j_iret h rfl dX1_takeFrom_22 ?_
  exact ⟨_, rfl, rfl, rfl⟩

set_option maxRecDepth 100000 in
set_option maxHeartbeats 4000000 in
theorem c_take0 (g : jG) (w : jW) (t : Nat) (ht : t + 6 ≤ NW) (T : Ts) {a : Int32} {p : Nat} (ha : a = nI p) (hp : p < 22) (hn : Tsz T p = nI 0)  : ConI g 2 yX1_takeFrom cX1_takeFrom 3 (some (.int)) [.ref (gr g t), .int a] (tab g w t T) (fun x w' => x = -6 ∧ w' = tab g w t T) := by
  refine con_of (by decide +kernel) (Nat.le_of_ble_eq_true rfl) [(0, _), (1, _)] rfl (fun K h => ?_)
  subst ha
  refine j_aload_n h (q := 1) 0 dX1_takeFrom_0 rfl rfl ?_
  refine j_iload_n h (q := 2) 1 dX1_takeFrom_1 rfl rfl ?_
  refine j_cV h (q := 5) (C := RX1) (T := TX1) (N := 9) (ci := 1) mo_X1_topOf mI_X1_topOf mV_X1_topOf mL_X1_85 (c_X1_topOf g _ _ ht _ rfl hp 0 hn (by have := fpv_b hp; omega)) (by decide) (by omega) (tab_0 _ _ _ _) rfl rfl rfl (Nat.le_of_ble_eq_true rfl) dX1_takeFrom_2 rfl ?_
  rintro _ w2 ⟨x2, rfl, e⟩
  obtain ⟨rfl, rfl⟩ := e
  rw [if_pos rfl]
  refine j_istore_n h (q := 6) (loc' := [(2, _), (0, _), (1, _)]) dX1_takeFrom_5 rfl (by decide) rfl ?_
  refine j_iload_n h (q := 7) 0 dX1_takeFrom_6 rfl rfl ?_
  refine j_bipush h (q := 9) (-6) dX1_takeFrom_7 rfl (by decide) ?_
  refine j_icmp_eq h (tgt := 21) (q := 12) dX1_takeFrom_9 rfl (by decide) (fun c_9 => ?_) (fun c_9 => ?_)
  rotate_left
  · exact absurd rfl c_9
  refine j_iload_n h (q := 22) 0 dX1_takeFrom_21 rfl rfl ?_
  refine j_iret h rfl dX1_takeFrom_22 ?_
  exact ⟨_, rfl, rfl, rfl⟩

set_option maxRecDepth 100000 in
set_option maxHeartbeats 4000000 in
theorem c_leftOf (g : jG) (w : jW) (t : Nat) (ht : t + 6 ≤ NW) (T : Ts) {a : Int32} {s : Nat} (ha : a = nI s) (hs : s < 2)  : ConI g 2 yX1_leftOf cX1_leftOf 2 (some (.int)) [.ref (gr g t), .int a] (tab g w t T) (fun x w' => x = Tsz T s + Tsz T (2 + s) + Tsz T (4 + s) ∧ w' = tab g w t T) := by
  refine con_of (by decide +kernel) (Nat.le_of_ble_eq_true rfl) [(0, _), (1, _)] rfl (fun K h => ?_)
  subst ha
  refine j_aload_n h (q := 1) 0 dX1_leftOf_0 rfl rfl ?_
  refine j_iconst h (q := 2) (0) dX1_leftOf_1 rfl (by decide) ?_
  refine j_iload_n h (q := 3) 1 dX1_leftOf_2 rfl rfl ?_
  refine j_iadd h (q := 4) dX1_leftOf_3 rfl ?_
  refine j_cV h (q := 7) (C := RX1) (T := TX1) (N := 9) (ci := 1) mo_X1_sizeOf mI_X1_sizeOf mV_X1_sizeOf mL_X1_89 (c_X1_sizeOf g _ _ ht _ (p := s) (by rw [i_Ladd, Nat.zero_add]) (by omega)) (by decide) (by omega) (tab_0 _ _ _ _) rfl rfl rfl (Nat.le_of_ble_eq_true rfl) dX1_leftOf_4 rfl ?_
  rintro _ w4 ⟨x4, rfl, e⟩
  obtain ⟨rfl, rfl⟩ := e
  refine j_aload_n h (q := 8) 0 dX1_leftOf_7 rfl rfl ?_
  refine j_iconst h (q := 9) (2) dX1_leftOf_8 rfl (by decide) ?_
  refine j_iload_n h (q := 10) 1 dX1_leftOf_9 rfl rfl ?_
  refine j_iadd h (q := 11) dX1_leftOf_10 rfl ?_
  refine j_cV h (q := 14) (C := RX1) (T := TX1) (N := 9) (ci := 1) mo_X1_sizeOf mI_X1_sizeOf mV_X1_sizeOf mL_X1_89 (c_X1_sizeOf g _ _ ht _ (p := 2 + s) (i_Ladd s 2) (by omega)) (by decide) (by omega) (tab_0 _ _ _ _) rfl rfl rfl (Nat.le_of_ble_eq_true rfl) dX1_leftOf_11 rfl ?_
  rintro _ w11 ⟨x11, rfl, e⟩
  obtain ⟨rfl, rfl⟩ := e
  refine j_iadd h (q := 15) dX1_leftOf_14 rfl ?_
  refine j_aload_n h (q := 16) 0 dX1_leftOf_15 rfl rfl ?_
  refine j_iconst h (q := 17) (4) dX1_leftOf_16 rfl (by decide) ?_
  refine j_iload_n h (q := 18) 1 dX1_leftOf_17 rfl rfl ?_
  refine j_iadd h (q := 19) dX1_leftOf_18 rfl ?_
  refine j_cV h (q := 22) (C := RX1) (T := TX1) (N := 9) (ci := 1) mo_X1_sizeOf mI_X1_sizeOf mV_X1_sizeOf mL_X1_89 (c_X1_sizeOf g _ _ ht _ (p := 4 + s) (i_Ladd s 4) (by omega)) (by decide) (by omega) (tab_0 _ _ _ _) rfl rfl rfl (Nat.le_of_ble_eq_true rfl) dX1_leftOf_19 rfl ?_
  rintro _ w19 ⟨x19, rfl, e⟩
  obtain ⟨rfl, rfl⟩ := e
  refine j_iadd h (q := 23) dX1_leftOf_22 rfl ?_
  refine j_iret h rfl dX1_leftOf_23 ?_
  exact ⟨_, rfl, rfl, rfl⟩

set_option maxRecDepth 100000 in
set_option maxHeartbeats 4000000 in
theorem lp_longestHouse (g : jG) (w : jW) (t : Nat) (ht : t + 6 ≤ NW) (T : Ts) (γ : Gm) (R : TR T γ) (G : GI γ) {K : jK} {Φ : Option Value → jW → Prop} (h : jH g K RX1 cX1_longestHouse 4 (some (.int))) {s : Nat} (hs : s < 2) (k : J g 2 K 4 Φ 32 [(3, .int (nI 4)), (2, .int (nI (longG γ s 4))), (0, .ref (gr g t)), (1, .int (nI s))] [] (tab g w t T)) : ∀ n i, i + n = 4 → J g 2 K 4 Φ 4 [(3, .int (nI i)), (2, .int (nI (longG γ s i))), (0, .ref (gr g t)), (1, .int (nI s))] [] (tab g w t T) := by
  intro n
  induction n with
  | zero =>
    intro i hi
    have hiN : i = 4 := by omega
    subst hiN
    refine j_iload_n h (q := 5) 0 dX1_longestHouse_4 rfl rfl ?_
    refine j_iconst h (q := 6) (4) dX1_longestHouse_5 rfl (by decide) ?_
    refine j_icmp_ge h (tgt := 32) (q := 9) dX1_longestHouse_6 rfl (by decide) (fun c_6 => ?_) (fun c_6 => ?_)
    rotate_left
    · exact absurd (show (4 : Int32) ≤ nI 4 by decide) c_6
    exact k
  | succ n ih =>
    intro i hi
    have hb1 := long_b G hs i (by omega)
    have hb2 := G_n2 G (p := 6 + s * 4 + i) (by omega)
    refine j_iload_n h (q := 5) 0 dX1_longestHouse_4 rfl rfl ?_
    refine j_iconst h (q := 6) (4) dX1_longestHouse_5 rfl (by decide) ?_
    refine j_icmp_ge h (tgt := 32) (q := 9) dX1_longestHouse_6 rfl (by decide) (fun c_6 => ?_) (fun c_6 => ?_)
    · exact absurd c_6 (by rw [i_Lle (by omega) (by omega)]; omega)
    refine j_iload_n h (q := 10) 1 dX1_longestHouse_9 rfl rfl ?_
    refine j_aload_n h (q := 11) 2 dX1_longestHouse_10 rfl rfl ?_
    refine j_bipush h (q := 13) (6) dX1_longestHouse_11 rfl (by decide) ?_
    refine j_iload_n h (q := 14) 3 dX1_longestHouse_13 rfl rfl ?_
    refine j_iconst h (q := 15) (4) dX1_longestHouse_14 rfl (by decide) ?_
    refine j_imul h (q := 16) dX1_longestHouse_15 rfl ?_
    refine j_iadd h (q := 17) dX1_longestHouse_16 rfl ?_
    refine j_iload_n h (q := 18) 0 dX1_longestHouse_17 rfl rfl ?_
    refine j_iadd h (q := 19) dX1_longestHouse_18 rfl ?_
    refine j_cV h (q := 22) (C := RX1) (T := TX1) (N := 9) (ci := 1) mo_X1_sizeOf mI_X1_sizeOf mV_X1_sizeOf mL_X1_89 (c_size g _ _ ht _ γ R (p := 6 + s * 4 + i) (by rw [i_mulL, i_Ladd, nI_add]) (by omega)) (by decide) (by omega) (tab_0 _ _ _ _) rfl rfl rfl (Nat.le_of_ble_eq_true rfl) dX1_longestHouse_19 rfl ?_
    rintro _ w19 ⟨x19, rfl, e⟩
    obtain ⟨rfl, rfl⟩ := e
    refine j_cS h (q := 25) mo_J9_max_7cf53 mS_J9_max_7cf53 mL_X1_95 (c_J9_max_7cf53 g _ _ _) (by decide) rfl rfl (Nat.le_of_ble_eq_true rfl) dX1_longestHouse_22 rfl ?_
    rintro _ w22 ⟨x22, rfl, e⟩
    obtain ⟨rfl, rfl⟩ := e
    rw [show (if nI (longG γ s i) < nI (qn γ (6 + s * 4 + i)) then nI (qn γ (6 + s * 4 + i)) else nI (longG γ s i)) = nI (longG γ s (i + 1)) by
        simp only [longG, nI_ltS (show longG γ s i < 1000000 by omega) (show qn γ (6 + s * 4 + i) < 1000000 by omega)]; split <;> rfl]
    refine j_istore_n h (q := 26) (loc' := [(2, _), (3, _), (0, _), (1, _)]) dX1_longestHouse_25 rfl (by decide) rfl ?_
    refine j_iinc h (q := 29) (loc' := [(3, _), (2, _), (0, _), (1, _)]) 1 _ dX1_longestHouse_26 rfl rfl rfl (by decide) rfl ?_
    refine j_goto h (tgt := 4) dX1_longestHouse_29 (by decide) ?_
    rw [show nI i + Int32.ofInt 1 = nI (i + 1) from nI_1 i]
    exact ih (i + 1) (by omega)


set_option maxRecDepth 100000 in
set_option maxHeartbeats 4000000 in
theorem c_longestHouse (g : jG) (w : jW) (t : Nat) (ht : t + 6 ≤ NW) (T : Ts) (γ : Gm) (R : TR T γ) (G : GI γ) {a : Int32} {s : Nat} (ha : a = nI s) (hs : s < 2)  : ConI g 2 yX1_longestHouse cX1_longestHouse 4 (some (.int)) [.ref (gr g t), .int a] (tab g w t T) (fun x w' => x = nI (longG γ s 4) ∧ w' = tab g w t T) := by
  refine con_of (by decide +kernel) (Nat.le_of_ble_eq_true rfl) [(0, _), (1, _)] rfl (fun K h => ?_)
  subst ha
  refine j_iconst h (q := 1) (0) dX1_longestHouse_0 rfl (by decide) ?_
  refine j_istore_n h (q := 2) (loc' := [(2, _), (0, _), (1, _)]) dX1_longestHouse_1 rfl (by decide) rfl ?_
  refine j_iconst h (q := 3) (0) dX1_longestHouse_2 rfl (by decide) ?_
  refine j_istore_n h (q := 4) (loc' := [(3, _), (2, _), (0, _), (1, _)]) dX1_longestHouse_3 rfl (by decide) rfl ?_
  refine lp_longestHouse g w t ht T γ R G h hs ?_ 4 0 rfl
  refine j_iload_n h (q := 33) 1 dX1_longestHouse_32 rfl rfl ?_
  refine j_iret h rfl dX1_longestHouse_33 ?_
  exact ⟨_, rfl, rfl, rfl⟩

set_option maxRecDepth 100000 in
set_option maxHeartbeats 4000000 in
theorem lp_onAces (g : jG) (w : jW) (t : Nat) (ht : t + 6 ≤ NW) (T : Ts) (γ : Gm) (R : TR T γ) (G : GI γ) {K : jK} {Φ : Option Value → jW → Prop} (h : jH g K RX1 cX1_onAces 3 (some (.int))) (k : J g 2 K 3 Φ 25 [(2, .int (nI 22)), (1, .int (nI (acesG γ 8))), (0, .ref (gr g t))] [] (tab g w t T)) : ∀ n i, i + n = 22 → 14 ≤ i → J g 2 K 3 Φ 5 [(2, .int (nI i)), (1, .int (nI (acesG γ (i - 14)))), (0, .ref (gr g t))] [] (tab g w t T) := by
  intro n
  induction n with
  | zero =>
    intro i hi hge
    have hiN : i = 22 := by omega
    subst hiN
    refine j_iload_n h (q := 6) 0 dX1_onAces_5 rfl rfl ?_
    refine j_bipush h (q := 8) (22) dX1_onAces_6 rfl (by decide) ?_
    refine j_icmp_ge h (tgt := 25) (q := 11) dX1_onAces_8 rfl (by decide) (fun c_8 => ?_) (fun c_8 => ?_)
    rotate_left
    · exact absurd (show (22 : Int32) ≤ nI 22 by decide) c_8
    exact k
  | succ n ih =>
    intro i hi hge
    refine j_iload_n h (q := 6) 0 dX1_onAces_5 rfl rfl ?_
    refine j_bipush h (q := 8) (22) dX1_onAces_6 rfl (by decide) ?_
    refine j_icmp_ge h (tgt := 25) (q := 11) dX1_onAces_8 rfl (by decide) (fun c_8 => ?_) (fun c_8 => ?_)
    · exact absurd c_8 (by rw [i_Lle (by omega) (by omega)]; omega)
    refine j_iload_n h (q := 12) 1 dX1_onAces_11 rfl rfl ?_
    refine j_aload_n h (q := 13) 2 dX1_onAces_12 rfl rfl ?_
    refine j_iload_n h (q := 14) 0 dX1_onAces_13 rfl rfl ?_
    refine j_cV h (q := 17) (C := RX1) (T := TX1) (N := 9) (ci := 1) mo_X1_sizeOf mI_X1_sizeOf mV_X1_sizeOf mL_X1_89 (c_size g _ _ ht _ γ R (p := i) rfl (by omega)) (by decide) (by omega) (tab_0 _ _ _ _) rfl rfl rfl (Nat.le_of_ble_eq_true rfl) dX1_onAces_14 rfl ?_
    rintro _ w14 ⟨x14, rfl, e⟩
    obtain ⟨rfl, rfl⟩ := e
    refine j_iadd h (q := 18) dX1_onAces_17 rfl ?_
    refine j_istore_n h (q := 19) (loc' := [(1, _), (2, _), (0, _)]) dX1_onAces_18 rfl (by decide) rfl ?_
    refine j_iinc h (q := 22) (loc' := [(2, _), (1, _), (0, _)]) 1 _ dX1_onAces_19 rfl rfl rfl (by decide) rfl ?_
    refine j_goto h (tgt := 5) dX1_onAces_22 (by decide) ?_
    rw [show nI i + Int32.ofInt 1 = nI (i + 1) from nI_1 i]
    rw [nI_add, show acesG γ (i - 14) + qn γ i = acesG γ (i + 1 - 14) by rw [show i + 1 - 14 = (i - 14) + 1 by omega]; simp only [acesG]; rw [show 14 + (i - 14) = i by omega]]
    refine j_sub [0, 1, 2] rfl ?_
    exact ih (i + 1) (by omega) (by omega)


set_option maxRecDepth 100000 in
set_option maxHeartbeats 4000000 in
theorem c_onAces (g : jG) (w : jW) (t : Nat) (ht : t + 6 ≤ NW) (T : Ts) (γ : Gm) (R : TR T γ) (G : GI γ)  : ConI g 2 yX1_onAces cX1_onAces 3 (some (.int)) [.ref (gr g t)] (tab g w t T) (fun x w' => x = nI (acesG γ 8) ∧ w' = tab g w t T) := by
  refine con_of (by decide +kernel) (Nat.le_of_ble_eq_true rfl) [(0, _)] rfl (fun K h => ?_)
  refine j_iconst h (q := 1) (0) dX1_onAces_0 rfl (by decide) ?_
  refine j_istore_n h (q := 2) (loc' := [(1, _), (0, _)]) dX1_onAces_1 rfl (by decide) rfl ?_
  refine j_bipush h (q := 4) (14) dX1_onAces_2 rfl (by decide) ?_
  refine j_istore_n h (q := 5) (loc' := [(2, _), (1, _), (0, _)]) dX1_onAces_4 rfl (by decide) rfl ?_
  refine lp_onAces g w t ht T γ R G h ?_ 8 14 rfl (Nat.le_refl _)
  refine j_iload_n h (q := 26) 1 dX1_onAces_25 rfl rfl ?_
  refine j_iret h rfl dX1_onAces_26 ?_
  exact ⟨_, rfl, rfl, rfl⟩

set_option maxRecDepth 100000 in
set_option maxHeartbeats 4000000 in
theorem lp_frozenHouses (g : jG) (w : jW) (t : Nat) (ht : t + 6 ≤ NW) (T : Ts) (γ : Gm) (R : TR T γ) (G : GI γ) {K : jK} {Φ : Option Value → jW → Prop} (h : jH g K RX1 cX1_frozenHouses 3 (some (.int))) (k : J g 2 K 3 Φ 28 [(2, .int (nI 14)), (1, .int (nI (frzN γ 8))), (0, .ref (gr g t))] [] (tab g w t T)) : ∀ n i, i + n = 14 → 6 ≤ i → J g 2 K 3 Φ 5 [(2, .int (nI i)), (1, .int (nI (frzN γ (i - 6)))), (0, .ref (gr g t))] [] (tab g w t T) := by
  intro n
  induction n with
  | zero =>
    intro i hi hge
    have hiN : i = 14 := by omega
    subst hiN
    refine j_iload_n h (q := 6) 0 dX1_frozenHouses_5 rfl rfl ?_
    refine j_bipush h (q := 8) (14) dX1_frozenHouses_6 rfl (by decide) ?_
    refine j_icmp_ge h (tgt := 28) (q := 11) dX1_frozenHouses_8 rfl (by decide) (fun c_8 => ?_) (fun c_8 => ?_)
    rotate_left
    · exact absurd (show (14 : Int32) ≤ nI 14 by decide) c_8
    exact k
  | succ n ih =>
    intro i hi hge
    have hb1 := frz_b G i
    have hfn : frzN γ (i + 1 - 6) = if 0 < frzG γ i then frzN γ (i - 6) + 1 else frzN γ (i - 6) := by
      rw [show i + 1 - 6 = (i - 6) + 1 by omega]; simp only [frzN]; rw [show 6 + (i - 6) = i by omega]
    refine j_iload_n h (q := 6) 0 dX1_frozenHouses_5 rfl rfl ?_
    refine j_bipush h (q := 8) (14) dX1_frozenHouses_6 rfl (by decide) ?_
    refine j_icmp_ge h (tgt := 28) (q := 11) dX1_frozenHouses_8 rfl (by decide) (fun c_8 => ?_) (fun c_8 => ?_)
    · exact absurd c_8 (by rw [i_Lle (by omega) (by omega)]; omega)
    refine j_aload_n h (q := 12) 2 dX1_frozenHouses_11 rfl rfl ?_
    refine j_iload_n h (q := 13) 0 dX1_frozenHouses_12 rfl rfl ?_
    refine j_cV h (q := 16) (C := RX1) (T := TX1) (N := 9) (ci := 1) mo_X1_frozenFor mI_X1_frozenFor mV_X1_frozenFor mL_X1_104 (c_frozenFor g _ _ ht _ γ R G (p := i) rfl (by omega)) (by decide) (by omega) (tab_0 _ _ _ _) rfl rfl rfl (Nat.le_of_ble_eq_true rfl) dX1_frozenHouses_13 rfl ?_
    rintro _ w13 ⟨x13, rfl, e⟩
    obtain ⟨rfl, rfl⟩ := e
    refine j_if_le h (tgt := 22) (q := 19) dX1_frozenHouses_16 rfl (by decide) (fun c_16 => ?_) (fun c_16 => ?_)
    · refine j_iinc h (q := 25) (loc' := [(2, _), (1, _), (0, _)]) 0 _ dX1_frozenHouses_22 rfl rfl rfl (by decide) rfl ?_
      refine j_goto h (tgt := 5) dX1_frozenHouses_25 (by decide) ?_
      rw [show nI i + Int32.ofInt 1 = nI (i + 1) from nI_1 i]
      rw [i_leL (by omega) (by decide)] at c_16
      first
        | (rw [if_neg (by omega)] at hfn; rw [← hfn]; exact j_sub [0, 1, 2] rfl (ih (i + 1) (by omega) (by omega)))
        | (rw [if_pos (by omega)] at hfn; rw [show nI (frzN γ (i - 6)) + Int32.ofInt 1 = nI (frzN γ (i - 6) + 1) from nI_1 _, ← hfn]; exact j_sub [0, 1, 2] rfl (ih (i + 1) (by omega) (by omega)))
    · refine j_iinc h (q := 22) (loc' := [(1, _), (2, _), (0, _)]) 1 _ dX1_frozenHouses_19 rfl rfl rfl (by decide) rfl ?_
      refine j_iinc h (q := 25) (loc' := [(2, _), (1, _), (0, _)]) 1 _ dX1_frozenHouses_22 rfl rfl rfl (by decide) rfl ?_
      refine j_goto h (tgt := 5) dX1_frozenHouses_25 (by decide) ?_
      rw [show nI i + Int32.ofInt 1 = nI (i + 1) from nI_1 i]
      rw [i_leL (by omega) (by decide)] at c_16
      first
        | (rw [if_neg (by omega)] at hfn; rw [← hfn]; exact j_sub [0, 1, 2] rfl (ih (i + 1) (by omega) (by omega)))
        | (rw [if_pos (by omega)] at hfn; rw [show nI (frzN γ (i - 6)) + Int32.ofInt 1 = nI (frzN γ (i - 6) + 1) from nI_1 _, ← hfn]; exact j_sub [0, 1, 2] rfl (ih (i + 1) (by omega) (by omega)))


set_option maxRecDepth 100000 in
set_option maxHeartbeats 4000000 in
theorem c_frozenHouses (g : jG) (w : jW) (t : Nat) (ht : t + 6 ≤ NW) (T : Ts) (γ : Gm) (R : TR T γ) (G : GI γ)  : ConI g 2 yX1_frozenHouses cX1_frozenHouses 3 (some (.int)) [.ref (gr g t)] (tab g w t T) (fun x w' => x = nI (frzN γ 8) ∧ w' = tab g w t T) := by
  refine con_of (by decide +kernel) (Nat.le_of_ble_eq_true rfl) [(0, _)] rfl (fun K h => ?_)
  refine j_iconst h (q := 1) (0) dX1_frozenHouses_0 rfl (by decide) ?_
  refine j_istore_n h (q := 2) (loc' := [(1, _), (0, _)]) dX1_frozenHouses_1 rfl (by decide) rfl ?_
  refine j_bipush h (q := 4) (6) dX1_frozenHouses_2 rfl (by decide) ?_
  refine j_istore_n h (q := 5) (loc' := [(2, _), (1, _), (0, _)]) dX1_frozenHouses_4 rfl (by decide) rfl ?_
  refine lp_frozenHouses g w t ht T γ R G h ?_ 8 6 rfl (Nat.le_refl _)
  refine j_iload_n h (q := 29) 1 dX1_frozenHouses_28 rfl rfl ?_
  refine j_iret h rfl dX1_frozenHouses_29 ?_
  exact ⟨_, rfl, rfl, rfl⟩

theorem isp_n {f : Nat} (hf : f < 22) : b2i (decide (¬ nI f < 0 ∧ nI f < 22)) = 1 := by
  rw [decide_eq_true]
  · rfl
  · exact ⟨nI_pos (by omega), by rw [i_ltL (by omega) (by decide)]; exact hf⟩

set_option maxRecDepth 100000 in
set_option maxHeartbeats 4000000 in
theorem c_allowsMove (g : jG) (w : jW) (t : Nat) (ht : t + 6 ≤ NW) (T : Ts) (γ : Gm) (R : TR T γ) (G : GI γ) {a b : Int32} {f u : Nat} (ha : a = nI f) (hb : b = nI u) (hf : f < 22) (hu : u < 22)  : ConI g 3 yX1_allowsMove cX1_allowsMove 3 (some (.boolean)) [.ref (gr g t), .int a, .int b] (tab g w t T) (fun x w' => x = b2i (okG γ f u) ∧ w' = tab g w t T) := by
  refine con_of (by decide +kernel) (Nat.le_of_ble_eq_true rfl) [(0, _), (1, _), (2, _)] rfl (fun K h => ?_)
  subst ha; subst hb
  refine j_iload_n h (q := 1) 1 dX1_allowsMove_0 rfl rfl ?_
  refine j_cSN h (q := 4) mo_X2_isPile mS_X2_isPile mL_X1_121 (c_X2_isPile g _ _) (by decide) rfl rfl (Nat.le_of_ble_eq_true rfl) dX1_allowsMove_1 rfl ?_
  rintro _ w1 ⟨x1, rfl, e⟩
  obtain ⟨rfl, rfl⟩ := e
  rw [isp_n hf]
  refine j_if_eq h (tgt := 39) (q := 7) dX1_allowsMove_4 rfl (by decide) (fun c_4 => ?_) (fun c_4 => ?_)
  · exact absurd c_4 (by decide)
  refine j_iload_n h (q := 8) 2 dX1_allowsMove_7 rfl rfl ?_
  refine j_cSN h (q := 11) mo_X2_isPile mS_X2_isPile mL_X1_121 (c_X2_isPile g _ _) (by decide) rfl rfl (Nat.le_of_ble_eq_true rfl) dX1_allowsMove_8 rfl ?_
  rintro _ w8 ⟨x8, rfl, e⟩
  obtain ⟨rfl, rfl⟩ := e
  rw [isp_n hu]
  refine j_if_eq h (tgt := 39) (q := 14) dX1_allowsMove_11 rfl (by decide) (fun c_11 => ?_) (fun c_11 => ?_)
  · exact absurd c_11 (by decide)
  refine j_aload_n h (q := 15) 0 dX1_allowsMove_14 rfl rfl ?_
  refine j_iload_n h (q := 16) 1 dX1_allowsMove_15 rfl rfl ?_
  refine j_cV h (q := 19) (C := RX1) (T := TX1) (N := 9) (ci := 1) mo_X1_mayGive mI_X1_mayGive mV_X1_mayGive mL_X1_124 (c_mayGive g _ _ ht _ γ R G rfl hf) (by decide) (by omega) (tab_0 _ _ _ _) rfl rfl rfl (Nat.le_of_ble_eq_true rfl) dX1_allowsMove_16 rfl ?_
  rintro _ w16 ⟨x16, rfl, e⟩
  obtain ⟨rfl, rfl⟩ := e
  refine j_if_eq h (tgt := 39) (q := 22) dX1_allowsMove_19 rfl (by decide) (fun c_19 => ?_) (fun c_19 => ?_)
  · refine j_iconst h (q := 40) (0) dX1_allowsMove_39 rfl (by decide) ?_
    refine j_zret h rfl (by first | rfl | decide) dX1_allowsMove_40 ?_
    simp (disch := omega) only [nI_add, i_addL, i_Ladd, i_subL, i_Lsub, nI_ltS, nI_leS, nI_eqS, i_ltL, i_Llt, i_leL, i_Lle, i_eqL, i_Leq, b2i_0, Bool.not_eq_false] at c_19
    try simp (disch := omega) only [nI_add, i_addL, i_Ladd, i_subL, i_Lsub, nI_ltS, nI_leS, nI_eqS, i_ltL, i_Llt, i_leL, i_Lle, i_eqL, i_Leq, b2i_0, Bool.not_eq_false] at c_32
    first
      | exact ⟨_, rfl, b2i_t (by unfold okG; rw [c_19, c_32]; rfl), rfl⟩
      | exact ⟨_, rfl, b2i_f (by unfold okG; rw [c_32, Bool.and_false]), rfl⟩
      | exact ⟨_, rfl, b2i_f (by unfold okG; rw [c_19]; rfl), rfl⟩
  · refine j_aload_n h (q := 23) 0 dX1_allowsMove_22 rfl rfl ?_
    refine j_iload_n h (q := 24) 2 dX1_allowsMove_23 rfl rfl ?_
    refine j_aload_n h (q := 25) 0 dX1_allowsMove_24 rfl rfl ?_
    refine j_iload_n h (q := 26) 1 dX1_allowsMove_25 rfl rfl ?_
    refine j_cV h (q := 29) (C := RX1) (T := TX1) (N := 9) (ci := 1) mo_X1_topOf mI_X1_topOf mV_X1_topOf mL_X1_85 (c_top g _ _ ht _ γ R G rfl hf) (by decide) (by omega) (tab_0 _ _ _ _) rfl rfl rfl (Nat.le_of_ble_eq_true rfl) dX1_allowsMove_26 rfl ?_
    rintro _ w26 ⟨x26, rfl, e⟩
    obtain ⟨rfl, rfl⟩ := e
    have hg : mayGiveG γ f = true := by rw [b2i_0, Bool.not_eq_false] at c_19; exact c_19
    have hn := (mayGive_iff.mp hg).2.1
    rw [show topO γ f = some (topK γ f) by unfold topO topK; rw [if_neg (by omega)]]
    refine j_cV h (q := 32) (C := RX1) (T := TX1) (N := 9) (ci := 1) mo_X1_mayTake mI_X1_mayTake mV_X1_mayTake mL_X1_127 (c_mayTake g _ _ ht _ γ R G rfl hu (G_k G hf hn)) (by decide) (by omega) (tab_0 _ _ _ _) rfl rfl rfl (Nat.le_of_ble_eq_true rfl) dX1_allowsMove_29 rfl ?_
    rintro _ w29 ⟨x29, rfl, e⟩
    obtain ⟨rfl, rfl⟩ := e
    refine j_if_eq h (tgt := 39) (q := 35) dX1_allowsMove_32 rfl (by decide) (fun c_32 => ?_) (fun c_32 => ?_)
    · refine j_iconst h (q := 40) (0) dX1_allowsMove_39 rfl (by decide) ?_
      refine j_zret h rfl (by first | rfl | decide) dX1_allowsMove_40 ?_
      simp (disch := omega) only [nI_add, i_addL, i_Ladd, i_subL, i_Lsub, nI_ltS, nI_leS, nI_eqS, i_ltL, i_Llt, i_leL, i_Lle, i_eqL, i_Leq, b2i_0, Bool.not_eq_false] at c_19
      try simp (disch := omega) only [nI_add, i_addL, i_Ladd, i_subL, i_Lsub, nI_ltS, nI_leS, nI_eqS, i_ltL, i_Llt, i_leL, i_Lle, i_eqL, i_Leq, b2i_0, Bool.not_eq_false] at c_32
      first
        | exact ⟨_, rfl, b2i_t (by unfold okG; rw [c_19, c_32]; rfl), rfl⟩
        | exact ⟨_, rfl, b2i_f (by unfold okG; rw [c_32, Bool.and_false]), rfl⟩
        | exact ⟨_, rfl, b2i_f (by unfold okG; rw [c_19]; rfl), rfl⟩
    · refine j_iconst h (q := 36) (1) dX1_allowsMove_35 rfl (by decide) ?_
      refine j_goto h (tgt := 40) dX1_allowsMove_36 (by decide) ?_
      refine j_zret h rfl (by first | rfl | decide) dX1_allowsMove_40 ?_
      simp (disch := omega) only [nI_add, i_addL, i_Ladd, i_subL, i_Lsub, nI_ltS, nI_leS, nI_eqS, i_ltL, i_Llt, i_leL, i_Lle, i_eqL, i_Leq, b2i_0, Bool.not_eq_false] at c_19
      try simp (disch := omega) only [nI_add, i_addL, i_Ladd, i_subL, i_Lsub, nI_ltS, nI_leS, nI_eqS, i_ltL, i_Llt, i_leL, i_Lle, i_eqL, i_Leq, b2i_0, Bool.not_eq_false] at c_32
      first
        | exact ⟨_, rfl, b2i_t (by unfold okG; rw [c_19, c_32]; rfl), rfl⟩
        | exact ⟨_, rfl, b2i_f (by unfold okG; rw [c_32, Bool.and_false]), rfl⟩
        | exact ⟨_, rfl, b2i_f (by unfold okG; rw [c_19]; rfl), rfl⟩

set_option maxRecDepth 100000 in
set_option maxHeartbeats 4000000 in
theorem c_pointsFor (g : jG) (w : jW) (t : Nat) (ht : t + 6 ≤ NW) (T : Ts) (γ : Gm) (R : TR T γ) (G : GI γ) {a b : Int32} {f u : Nat} (ha : a = nI f) (hb : b = nI u) (hf : f < 22) (hu : u < 22)  : ConI g 2 yX1_pointsFor cX1_pointsFor 4 (some (.int)) [.ref (gr g t), .int a, .int b] (tab g w t T) (fun x w' => x = nI (ptsG γ f u) ∧ w' = tab g w t T) := by
  refine con_of (by decide +kernel) (Nat.le_of_ble_eq_true rfl) [(0, _), (1, _), (2, _)] rfl (fun K h => ?_)
  subst ha; subst hb
  refine j_iload_n h (q := 1) 1 dX1_pointsFor_0 rfl rfl ?_
  refine j_iconst h (q := 2) (0) dX1_pointsFor_1 rfl (by decide) ?_
  refine j_aload_n h (q := 3) 0 dX1_pointsFor_2 rfl rfl ?_
  refine j_get h (q := 6) inX1 (C := RX1) (T := TX1) (N := 9) (ci := 1) rfl 5 (by decide) mF_X1_45 (by omega) (tab_0 _ _ _ _) rfl dX1_pointsFor_3 rfl ?_
  refine j_iadd h (q := 7) dX1_pointsFor_6 rfl ?_
  rw [R_tp R, i_Ladd, Nat.zero_add]
  have e3 := G_t G
  refine j_icmp_ne h (tgt := 14) (q := 10) dX1_pointsFor_7 rfl (by decide) (fun c_7 => ?_) (fun c_7 => ?_)
  · refine j_iconst h (q := 15) (0) dX1_pointsFor_14 rfl (by decide) ?_
    refine j_istore_n h (q := 16) (loc' := [(3, _), (0, _), (1, _), (2, _)]) dX1_pointsFor_15 rfl (by decide) rfl ?_
    refine j_iload_n h (q := 17) 3 dX1_pointsFor_16 rfl rfl ?_
    refine j_bipush h (q := 19) (14) dX1_pointsFor_17 rfl (by decide) ?_
    refine j_icmp_lt h (tgt := 49) (q := 22) dX1_pointsFor_19 rfl (by decide) (fun c_19 => ?_) (fun c_19 => ?_)
    · refine j_iload_n h (q := 50) 0 dX1_pointsFor_49 rfl rfl ?_
      refine j_if_eq h (tgt := 55) (q := 53) dX1_pointsFor_50 rfl (by decide) (fun c_50 => ?_) (fun c_50 => ?_)
      rotate_left
      · exact absurd rfl c_50
      refine j_iload_n h (q := 56) 3 dX1_pointsFor_55 rfl rfl ?_
      refine j_aload_n h (q := 57) 1 dX1_pointsFor_56 rfl rfl ?_
      refine j_cV h (q := 60) (C := RX1) (T := TX1) (N := 9) (ci := 1) mo_X1_otherWaste mI_X1_otherWaste mV_X1_otherWaste mL_X1_114 (c_otherWaste g _ _ ht _ γ R G) (by decide) (by omega) (tab_0 _ _ _ _) rfl rfl rfl (Nat.le_of_ble_eq_true rfl) dX1_pointsFor_57 rfl ?_
      rintro _ w57 ⟨x57, rfl, e⟩
      obtain ⟨rfl, rfl⟩ := e
      refine j_icmp_ne h (tgt := 67) (q := 63) dX1_pointsFor_60 rfl (by decide) (fun c_60 => ?_) (fun c_60 => ?_)
      · refine j_iconst h (q := 68) (0) dX1_pointsFor_67 rfl (by decide) ?_
        refine j_iret h rfl dX1_pointsFor_68 ?_
        simp (disch := omega) only [nI_add, i_addL, i_Ladd, i_subL, i_Lsub, nI_ltS, nI_leS, nI_eqS, i_ltL, i_Llt, i_leL, i_Lle, i_eqL, i_Leq, b2i_0, Bool.not_eq_false] at c_7 c_19 c_50 c_60
        have e3 := G_t G
        unfold ptsG
        first
          | exact ⟨_, rfl, by rw [if_pos (by omega), if_pos (by omega)]; rfl, rfl⟩
          | exact ⟨_, rfl, by rw [if_neg (by omega), if_pos (by omega)]; rfl, rfl⟩
          | exact ⟨_, rfl, by rw [if_neg (by omega), if_neg (by omega), if_pos (by omega)]; rfl, rfl⟩
          | exact ⟨_, rfl, by rw [if_neg (by omega), if_neg (by omega), if_neg (by omega)]; rfl, rfl⟩
          | exact ⟨_, rfl, by rw [if_pos (by omega), if_neg (by omega), if_neg (fun z => by rw [c_32] at z; exact absurd z.1 (by decide))]; rfl, rfl⟩
          | exact ⟨_, rfl, by rw [if_pos (by omega), if_neg (by omega), if_pos ⟨c_32, fun z => by unfold ownG at c_40; rw [c_32, z] at c_40; simp at c_40⟩]; rfl, rfl⟩
          | exact ⟨_, rfl, by rw [if_pos (by omega), if_neg (by omega), if_neg (fun z => by unfold ownG at c_40; rw [c_32, Bool.true_and, beq_iff_eq] at c_40; exact z.2 c_40)]; rfl, rfl⟩
      · refine j_iconst h (q := 64) (1) dX1_pointsFor_63 rfl (by decide) ?_
        refine j_goto h (tgt := 68) dX1_pointsFor_64 (by decide) ?_
        refine j_iret h rfl dX1_pointsFor_68 ?_
        simp (disch := omega) only [nI_add, i_addL, i_Ladd, i_subL, i_Lsub, nI_ltS, nI_leS, nI_eqS, i_ltL, i_Llt, i_leL, i_Lle, i_eqL, i_Leq, b2i_0, Bool.not_eq_false] at c_7 c_19 c_50 c_60
        have e3 := G_t G
        unfold ptsG
        first
          | exact ⟨_, rfl, by rw [if_pos (by omega), if_pos (by omega)]; rfl, rfl⟩
          | exact ⟨_, rfl, by rw [if_neg (by omega), if_pos (by omega)]; rfl, rfl⟩
          | exact ⟨_, rfl, by rw [if_neg (by omega), if_neg (by omega), if_pos (by omega)]; rfl, rfl⟩
          | exact ⟨_, rfl, by rw [if_neg (by omega), if_neg (by omega), if_neg (by omega)]; rfl, rfl⟩
          | exact ⟨_, rfl, by rw [if_pos (by omega), if_neg (by omega), if_neg (fun z => by rw [c_32] at z; exact absurd z.1 (by decide))]; rfl, rfl⟩
          | exact ⟨_, rfl, by rw [if_pos (by omega), if_neg (by omega), if_pos ⟨c_32, fun z => by unfold ownG at c_40; rw [c_32, z] at c_40; simp at c_40⟩]; rfl, rfl⟩
          | exact ⟨_, rfl, by rw [if_pos (by omega), if_neg (by omega), if_neg (fun z => by unfold ownG at c_40; rw [c_32, Bool.true_and, beq_iff_eq] at c_40; exact z.2 c_40)]; rfl, rfl⟩
    · refine j_iload_n h (q := 23) 0 dX1_pointsFor_22 rfl rfl ?_
      refine j_if_eq h (tgt := 28) (q := 26) dX1_pointsFor_23 rfl (by decide) (fun c_23 => ?_) (fun c_23 => ?_)
      rotate_left
      · exact absurd rfl c_23
      refine j_iload_n h (q := 29) 2 dX1_pointsFor_28 rfl rfl ?_
      refine j_cS h (q := 32) mo_X1_isHouse mS_X1_isHouse mL_X1_100 (c_isHouse g _ rfl hf) (by decide) rfl rfl (Nat.le_of_ble_eq_true rfl) dX1_pointsFor_29 rfl ?_
      rintro _ w29 ⟨x29, rfl, e⟩
      obtain ⟨rfl, rfl⟩ := e
      refine j_if_eq h (tgt := 47) (q := 35) dX1_pointsFor_32 rfl (by decide) (fun c_32 => ?_) (fun c_32 => ?_)
      · refine j_iconst h (q := 48) (1) dX1_pointsFor_47 rfl (by decide) ?_
        refine j_iret h rfl dX1_pointsFor_48 ?_
        simp (disch := omega) only [nI_add, i_addL, i_Ladd, i_subL, i_Lsub, nI_ltS, nI_leS, nI_eqS, i_ltL, i_Llt, i_leL, i_Lle, i_eqL, i_Leq, b2i_0, Bool.not_eq_false] at c_7 c_19 c_23 c_32
        have e3 := G_t G
        unfold ptsG
        first
          | exact ⟨_, rfl, by rw [if_pos (by omega), if_pos (by omega)]; rfl, rfl⟩
          | exact ⟨_, rfl, by rw [if_neg (by omega), if_pos (by omega)]; rfl, rfl⟩
          | exact ⟨_, rfl, by rw [if_neg (by omega), if_neg (by omega), if_pos (by omega)]; rfl, rfl⟩
          | exact ⟨_, rfl, by rw [if_neg (by omega), if_neg (by omega), if_neg (by omega)]; rfl, rfl⟩
          | exact ⟨_, rfl, by rw [if_pos (by omega), if_neg (by omega), if_neg (fun z => by rw [c_32] at z; exact absurd z.1 (by decide))]; rfl, rfl⟩
          | exact ⟨_, rfl, by rw [if_pos (by omega), if_neg (by omega), if_pos ⟨c_32, fun z => by unfold ownG at c_40; rw [c_32, z] at c_40; simp at c_40⟩]; rfl, rfl⟩
          | exact ⟨_, rfl, by rw [if_pos (by omega), if_neg (by omega), if_neg (fun z => by unfold ownG at c_40; rw [c_32, Bool.true_and, beq_iff_eq] at c_40; exact z.2 c_40)]; rfl, rfl⟩
      · refine j_aload_n h (q := 36) 1 dX1_pointsFor_35 rfl rfl ?_
        refine j_iload_n h (q := 37) 2 dX1_pointsFor_36 rfl rfl ?_
        refine j_cV h (q := 40) (C := RX1) (T := TX1) (N := 9) (ci := 1) mo_X1_isOwnHouse mI_X1_isOwnHouse mV_X1_isOwnHouse mL_X1_133 (c_isOwnHouse g _ _ ht _ γ R G rfl hf) (by decide) (by omega) (tab_0 _ _ _ _) rfl rfl rfl (Nat.le_of_ble_eq_true rfl) dX1_pointsFor_37 rfl ?_
        rintro _ w37 ⟨x37, rfl, e⟩
        obtain ⟨rfl, rfl⟩ := e
        refine j_if_ne h (tgt := 47) (q := 43) dX1_pointsFor_40 rfl (by decide) (fun c_40 => ?_) (fun c_40 => ?_)
        · refine j_iconst h (q := 48) (1) dX1_pointsFor_47 rfl (by decide) ?_
          refine j_iret h rfl dX1_pointsFor_48 ?_
          simp (disch := omega) only [nI_add, i_addL, i_Ladd, i_subL, i_Lsub, nI_ltS, nI_leS, nI_eqS, i_ltL, i_Llt, i_leL, i_Lle, i_eqL, i_Leq, b2i_0, Bool.not_eq_false] at c_7 c_19 c_23 c_32 c_40
          have e3 := G_t G
          unfold ptsG
          first
            | exact ⟨_, rfl, by rw [if_pos (by omega), if_pos (by omega)]; rfl, rfl⟩
            | exact ⟨_, rfl, by rw [if_neg (by omega), if_pos (by omega)]; rfl, rfl⟩
            | exact ⟨_, rfl, by rw [if_neg (by omega), if_neg (by omega), if_pos (by omega)]; rfl, rfl⟩
            | exact ⟨_, rfl, by rw [if_neg (by omega), if_neg (by omega), if_neg (by omega)]; rfl, rfl⟩
            | exact ⟨_, rfl, by rw [if_pos (by omega), if_neg (by omega), if_neg (fun z => by rw [c_32] at z; exact absurd z.1 (by decide))]; rfl, rfl⟩
            | exact ⟨_, rfl, by rw [if_pos (by omega), if_neg (by omega), if_pos ⟨c_32, fun z => by unfold ownG at c_40; rw [c_32, z] at c_40; simp at c_40⟩]; rfl, rfl⟩
            | exact ⟨_, rfl, by rw [if_pos (by omega), if_neg (by omega), if_neg (fun z => by unfold ownG at c_40; rw [c_32, Bool.true_and, beq_iff_eq] at c_40; exact z.2 c_40)]; rfl, rfl⟩
        · refine j_iconst h (q := 44) (2) dX1_pointsFor_43 rfl (by decide) ?_
          refine j_goto h (tgt := 48) dX1_pointsFor_44 (by decide) ?_
          refine j_iret h rfl dX1_pointsFor_48 ?_
          simp (disch := omega) only [nI_add, i_addL, i_Ladd, i_subL, i_Lsub, nI_ltS, nI_leS, nI_eqS, i_ltL, i_Llt, i_leL, i_Lle, i_eqL, i_Leq, b2i_0, Bool.not_eq_false] at c_7 c_19 c_23 c_32 c_40
          have e3 := G_t G
          unfold ptsG
          first
            | exact ⟨_, rfl, by rw [if_pos (by omega), if_pos (by omega)]; rfl, rfl⟩
            | exact ⟨_, rfl, by rw [if_neg (by omega), if_pos (by omega)]; rfl, rfl⟩
            | exact ⟨_, rfl, by rw [if_neg (by omega), if_neg (by omega), if_pos (by omega)]; rfl, rfl⟩
            | exact ⟨_, rfl, by rw [if_neg (by omega), if_neg (by omega), if_neg (by omega)]; rfl, rfl⟩
            | exact ⟨_, rfl, by rw [if_pos (by omega), if_neg (by omega), if_neg (fun z => by rw [c_32] at z; exact absurd z.1 (by decide))]; rfl, rfl⟩
            | exact ⟨_, rfl, by rw [if_pos (by omega), if_neg (by omega), if_pos ⟨c_32, fun z => by unfold ownG at c_40; rw [c_32, z] at c_40; simp at c_40⟩]; rfl, rfl⟩
            | exact ⟨_, rfl, by rw [if_pos (by omega), if_neg (by omega), if_neg (fun z => by unfold ownG at c_40; rw [c_32, Bool.true_and, beq_iff_eq] at c_40; exact z.2 c_40)]; rfl, rfl⟩
  · refine j_iconst h (q := 11) (1) dX1_pointsFor_10 rfl (by decide) ?_
    refine j_goto h (tgt := 15) dX1_pointsFor_11 (by decide) ?_
    refine j_istore_n h (q := 16) (loc' := [(3, _), (0, _), (1, _), (2, _)]) dX1_pointsFor_15 rfl (by decide) rfl ?_
    refine j_iload_n h (q := 17) 3 dX1_pointsFor_16 rfl rfl ?_
    refine j_bipush h (q := 19) (14) dX1_pointsFor_17 rfl (by decide) ?_
    refine j_icmp_lt h (tgt := 49) (q := 22) dX1_pointsFor_19 rfl (by decide) (fun c_19 => ?_) (fun c_19 => ?_)
    · refine j_iload_n h (q := 50) 0 dX1_pointsFor_49 rfl rfl ?_
      refine j_if_eq h (tgt := 55) (q := 53) dX1_pointsFor_50 rfl (by decide) (fun c_50 => ?_) (fun c_50 => ?_)
      · exact absurd c_50 (by decide)
      refine j_iconst h (q := 54) (2) dX1_pointsFor_53 rfl (by decide) ?_
      refine j_iret h rfl dX1_pointsFor_54 ?_
      simp (disch := omega) only [nI_add, i_addL, i_Ladd, i_subL, i_Lsub, nI_ltS, nI_leS, nI_eqS, i_ltL, i_Llt, i_leL, i_Lle, i_eqL, i_Leq, b2i_0, Bool.not_eq_false] at c_7 c_19 c_50
      have e3 := G_t G
      unfold ptsG
      first
        | exact ⟨_, rfl, by rw [if_pos (by omega), if_pos (by omega)]; rfl, rfl⟩
        | exact ⟨_, rfl, by rw [if_neg (by omega), if_pos (by omega)]; rfl, rfl⟩
        | exact ⟨_, rfl, by rw [if_neg (by omega), if_neg (by omega), if_pos (by omega)]; rfl, rfl⟩
        | exact ⟨_, rfl, by rw [if_neg (by omega), if_neg (by omega), if_neg (by omega)]; rfl, rfl⟩
        | exact ⟨_, rfl, by rw [if_pos (by omega), if_neg (by omega), if_neg (fun z => by rw [c_32] at z; exact absurd z.1 (by decide))]; rfl, rfl⟩
        | exact ⟨_, rfl, by rw [if_pos (by omega), if_neg (by omega), if_pos ⟨c_32, fun z => by unfold ownG at c_40; rw [c_32, z] at c_40; simp at c_40⟩]; rfl, rfl⟩
        | exact ⟨_, rfl, by rw [if_pos (by omega), if_neg (by omega), if_neg (fun z => by unfold ownG at c_40; rw [c_32, Bool.true_and, beq_iff_eq] at c_40; exact z.2 c_40)]; rfl, rfl⟩
    · refine j_iload_n h (q := 23) 0 dX1_pointsFor_22 rfl rfl ?_
      refine j_if_eq h (tgt := 28) (q := 26) dX1_pointsFor_23 rfl (by decide) (fun c_23 => ?_) (fun c_23 => ?_)
      · exact absurd c_23 (by decide)
      refine j_iconst h (q := 27) (3) dX1_pointsFor_26 rfl (by decide) ?_
      refine j_iret h rfl dX1_pointsFor_27 ?_
      simp (disch := omega) only [nI_add, i_addL, i_Ladd, i_subL, i_Lsub, nI_ltS, nI_leS, nI_eqS, i_ltL, i_Llt, i_leL, i_Lle, i_eqL, i_Leq, b2i_0, Bool.not_eq_false] at c_7 c_19 c_23
      have e3 := G_t G
      unfold ptsG
      first
        | exact ⟨_, rfl, by rw [if_pos (by omega), if_pos (by omega)]; rfl, rfl⟩
        | exact ⟨_, rfl, by rw [if_neg (by omega), if_pos (by omega)]; rfl, rfl⟩
        | exact ⟨_, rfl, by rw [if_neg (by omega), if_neg (by omega), if_pos (by omega)]; rfl, rfl⟩
        | exact ⟨_, rfl, by rw [if_neg (by omega), if_neg (by omega), if_neg (by omega)]; rfl, rfl⟩
        | exact ⟨_, rfl, by rw [if_pos (by omega), if_neg (by omega), if_neg (fun z => by rw [c_32] at z; exact absurd z.1 (by decide))]; rfl, rfl⟩
        | exact ⟨_, rfl, by rw [if_pos (by omega), if_neg (by omega), if_pos ⟨c_32, fun z => by unfold ownG at c_40; rw [c_32, z] at c_40; simp at c_40⟩]; rfl, rfl⟩
        | exact ⟨_, rfl, by rw [if_pos (by omega), if_neg (by omega), if_neg (fun z => by unfold ownG at c_40; rw [c_32, Bool.true_and, beq_iff_eq] at c_40; exact z.2 c_40)]; rfl, rfl⟩
