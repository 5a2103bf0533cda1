set_option maxRecDepth 100000 in
set_option maxHeartbeats 4000000 in
theorem c_X1_sizeOf (g : jG) (w : jW) (t : Nat) (ht : t + 6 ≤ NW) (T : Ts) {a : Int32} {p : Nat} (ha : a = nI p) (hp : p < 22)  : ConI g 1 yX1_sizeOf cX1_sizeOf 2 (some (.int)) [.ref (gr g t), .int a] (tab g w t T) (fun x w' => x = Tsz T p ∧ w' = tab g w t T) := by
  refine con_of (by decide +kernel) (Nat.le_of_ble_eq_true rfl) [(0, _), (1, _)] rfl (fun K h => ?_)
  subst ha
  refine j_aload_n h (q := 1) 0 dX1_sizeOf_0 rfl rfl ?_
  refine j_get h (q := 4) inX1 (C := RX1) (T := TX1) (N := 9) (ci := 1) rfl 1 (by decide) mF_X1_15 (by omega) (tab_0 _ _ _ _) rfl dX1_sizeOf_1 rfl ?_
  refine j_iload_n h (q := 5) 1 dX1_sizeOf_4 rfl rfl ?_
  refine j_cSN h (q := 8) mo_X2_at mS_X2_at mL_X1_75 (c_X2_at g _ (by omega) (tab_2 _ _ _ _) (by decide) _) (by decide) rfl rfl (Nat.le_of_ble_eq_true rfl) dX1_sizeOf_5 rfl ?_
  rintro _ w5 ⟨x5, rfl, e⟩
  obtain ⟨rfl, rfl⟩ := e
  rw [ati_n hp (by decide)]
  refine j_iret h rfl dX1_sizeOf_8 ?_
  exact ⟨_, rfl, rfl, rfl⟩

set_option maxRecDepth 100000 in
set_option maxHeartbeats 4000000 in
theorem c_X1_cardIn (g : jG) (w : jW) (t : Nat) (ht : t + 6 ≤ NW) (T : Ts) {a : Int32} {p : Nat} (ha : a = nI p) (hp : p < 22) {b : Int32} {i : Nat} (hb : b = nI i) (hi : fpv p + i < 650)  : ConI g 1 yX1_cardIn cX1_cardIn 3 (some (.int)) [.ref (gr g t), .int a, .int b] (tab g w t T) (fun x w' => x = Tcd T (fpv p + i) ∧ w' = tab g w t T) := by
  refine con_of (by decide +kernel) (Nat.le_of_ble_eq_true rfl) [(0, _), (1, _), (2, _)] rfl (fun K h => ?_)
  subst ha; subst hb
  refine j_aload_n h (q := 1) 0 dX1_cardIn_0 rfl rfl ?_
  refine j_get h (q := 4) inX1 (C := RX1) (T := TX1) (N := 9) (ci := 1) rfl 0 (by decide) mF_X1_9 (by omega) (tab_0 _ _ _ _) rfl dX1_cardIn_1 rfl ?_
  refine j_getsN h (q := 7) dX1_cardIn_4 rfl ?_
  refine j_iload_n h (q := 8) 1 dX1_cardIn_7 rfl rfl ?_
  refine j_cSN h (q := 11) mo_X2_at mS_X2_at mL_X1_75 (c_X2_atF g _ _) (by decide) rfl rfl (Nat.le_of_ble_eq_true rfl) dX1_cardIn_8 rfl ?_
  rintro _ w8 ⟨x8, rfl, e⟩
  obtain ⟨rfl, rfl⟩ := e
  rw [ati_n hp (by decide)]
  refine j_iload_n h (q := 12) 2 dX1_cardIn_11 rfl rfl ?_
  refine j_iadd h (q := 13) dX1_cardIn_12 rfl ?_
  refine j_cSN h (q := 16) mo_X2_at mS_X2_at mL_X1_75 (c_X2_at g _ (by omega) (tab_1 _ _ _ _) (by decide) _) (by decide) rfl rfl (Nat.le_of_ble_eq_true rfl) dX1_cardIn_13 rfl ?_
  rintro _ w13 ⟨x13, rfl, e⟩
  obtain ⟨rfl, rfl⟩ := e
  rw [nI_add, ati_n hi (by decide)]
  refine j_iret h rfl dX1_cardIn_16 ?_
  exact ⟨_, rfl, rfl, rfl⟩

set_option maxRecDepth 100000 in
set_option maxHeartbeats 4000000 in
theorem c_X1_setCard (g : jG) (w : jW) (t : Nat) (ht : t + 6 ≤ NW) (T : Ts) {a : Int32} {p : Nat} (ha : a = nI p) (hp : p < 22) {b : Int32} {i : Nat} (hb : b = nI i) (hi : fpv p + i < 650) (v : Int32) : ConV g 1 yX1_setCard cX1_setCard 4 none [.ref (gr g t), .int a, .int b, .int v] (tab g w t T) (fun w' => w' = tab g w t (sCd T (upd (Tcd T) (fpv p + i) v))) := by
  refine con_of (by decide +kernel) (Nat.le_of_ble_eq_true rfl) [(0, _), (1, _), (2, _), (3, _)] rfl (fun K h => ?_)
  subst ha; subst hb
  refine j_aload_n h (q := 1) 0 dX1_setCard_0 rfl rfl ?_
  refine j_get h (q := 4) inX1 (C := RX1) (T := TX1) (N := 9) (ci := 1) rfl 0 (by decide) mF_X1_9 (by omega) (tab_0 _ _ _ _) rfl dX1_setCard_1 rfl ?_
  refine j_getsN h (q := 7) dX1_setCard_4 rfl ?_
  refine j_iload_n h (q := 8) 1 dX1_setCard_7 rfl rfl ?_
  refine j_cSN h (q := 11) mo_X2_at mS_X2_at mL_X1_75 (c_X2_atF g _ _) (by decide) rfl rfl (Nat.le_of_ble_eq_true rfl) dX1_setCard_8 rfl ?_
  rintro _ w8 ⟨x8, rfl, e⟩
  obtain ⟨rfl, rfl⟩ := e
  rw [ati_n hp (by decide)]
  refine j_iload_n h (q := 12) 2 dX1_setCard_11 rfl rfl ?_
  refine j_iadd h (q := 13) dX1_setCard_12 rfl ?_
  refine j_iload_n h (q := 14) 3 dX1_setCard_13 rfl rfl ?_
  refine j_cSN h (q := 17) mo_X2_setAt mS_X2_setAt mL_X1_41 (c_X2_setAt g _ (by omega) (tab_1 _ _ _ _) (by decide) _ _) (by decide) rfl rfl (Nat.le_of_ble_eq_true rfl) dX1_setCard_14 rfl ?_
  rintro _ w14 ⟨rfl, e⟩
  rw [nI_add, sti_n hi (by decide), tab_u1] at e
  subst e
  refine j_vret h rfl dX1_setCard_17 ?_
  exact ⟨rfl, rfl⟩

set_option maxRecDepth 100000 in
set_option maxHeartbeats 4000000 in
theorem c_X1_topOf (g : jG) (w : jW) (t : Nat) (ht : t + 6 ≤ NW) (T : Ts) {a : Int32} {p : Nat} (ha : a = nI p) (hp : p < 22) (n : Nat) (hn : Tsz T p = nI n) (hc : fpv p + n ≤ 650) : ConI g 1 yX1_topOf cX1_topOf 3 (some (.int)) [.ref (gr g t), .int a] (tab g w t T) (fun x w' => x = (if n = 0 then -6 else Tcd T (fpv p + (n - 1))) ∧ w' = tab g w t T) := by
  refine con_of (by decide +kernel) (Nat.le_of_ble_eq_true rfl) [(0, _), (1, _)] rfl (fun K h => ?_)
  subst ha
  refine j_aload_n h (q := 1) 0 dX1_topOf_0 rfl rfl ?_
  refine j_get h (q := 4) inX1 (C := RX1) (T := TX1) (N := 9) (ci := 1) rfl 1 (by decide) mF_X1_15 (by omega) (tab_0 _ _ _ _) rfl dX1_topOf_1 rfl ?_
  refine j_iload_n h (q := 5) 1 dX1_topOf_4 rfl rfl ?_
  refine j_cSN h (q := 8) mo_X2_at mS_X2_at mL_X1_75 (c_X2_at g _ (by omega) (tab_2 _ _ _ _) (by decide) _) (by decide) rfl rfl (Nat.le_of_ble_eq_true rfl) dX1_topOf_5 rfl ?_
  rintro _ w5 ⟨x5, rfl, e⟩
  obtain ⟨rfl, rfl⟩ := e
  rw [ati_n hp (by decide), hn]
  have hn2 : n < 1000000 := by omega
  refine j_istore_n h (q := 9) (loc' := [(2, _), (0, _), (1, _)]) dX1_topOf_8 rfl (by decide) rfl ?_
  refine j_iload_n h (q := 10) 0 dX1_topOf_9 rfl rfl ?_
  refine j_if_le h (tgt := 34) (q := 13) dX1_topOf_10 rfl (by decide) (fun c_10 => ?_) (fun c_10 => ?_)
  · refine j_bipush h (q := 36) (-6) dX1_topOf_34 rfl (by decide) ?_
    refine j_iret h rfl dX1_topOf_36 ?_
    first | exact ⟨_, rfl, by rw [if_neg (by omega)]; rfl, rfl⟩ | exact ⟨_, rfl, by rw [if_pos (by simp only [i32_le, i32_nI, i32_lit] at c_10; omega)], rfl⟩
  · refine j_aload_n h (q := 14) 1 dX1_topOf_13 rfl rfl ?_
    refine j_get h (q := 17) inX1 (C := RX1) (T := TX1) (N := 9) (ci := 1) rfl 0 (by decide) mF_X1_9 (by omega) (tab_0 _ _ _ _) rfl dX1_topOf_14 rfl ?_
    refine j_getsN h (q := 20) dX1_topOf_17 rfl ?_
    refine j_iload_n h (q := 21) 2 dX1_topOf_20 rfl rfl ?_
    refine j_cSN h (q := 24) mo_X2_at mS_X2_at mL_X1_75 (c_X2_atF g _ _) (by decide) rfl rfl (Nat.le_of_ble_eq_true rfl) dX1_topOf_21 rfl ?_
    rintro _ w21 ⟨x21, rfl, e⟩
    obtain ⟨rfl, rfl⟩ := e
    rw [ati_n hp (by decide)]
    refine j_iload_n h (q := 25) 0 dX1_topOf_24 rfl rfl ?_
    refine j_iadd h (q := 26) dX1_topOf_25 rfl ?_
    refine j_iconst h (q := 27) (1) dX1_topOf_26 rfl (by decide) ?_
    refine j_isub h (q := 28) dX1_topOf_27 rfl ?_
    refine j_cSN h (q := 31) mo_X2_at mS_X2_at mL_X1_75 (c_X2_at g _ (by omega) (tab_1 _ _ _ _) (by decide) _) (by decide) rfl rfl (Nat.le_of_ble_eq_true rfl) dX1_topOf_28 rfl ?_
    rintro _ w28 ⟨x28, rfl, e⟩
    obtain ⟨rfl, rfl⟩ := e
    rw [nI_add]
    have hn0 : ¬ n = 0 := by simp only [i32_le, i32_nI, i32_lit] at c_10; omega
    obtain ⟨k, rfl⟩ : ∃ k, n = k + 1 := ⟨n - 1, by omega⟩
    rw [← Nat.add_assoc, nI_pred, ati_n (by omega) (by decide)]
    refine j_goto h (tgt := 36) dX1_topOf_31 (by decide) ?_
    refine j_iret h rfl dX1_topOf_36 ?_
    first | exact ⟨_, rfl, by rw [if_neg (by omega)]; rfl, rfl⟩ | exact ⟨_, rfl, by rw [if_pos (by simp only [i32_le, i32_nI, i32_lit] at c_10; omega)], rfl⟩

set_option maxRecDepth 100000 in
set_option maxHeartbeats 4000000 in
theorem c_X1_layOn (g : jG) (w : jW) (t : Nat) (ht : t + 6 ≤ NW) (T : Ts) {a : Int32} {p : Nat} (ha : a = nI p) (hp : p < 22) (n : Nat) (hn : Tsz T p = nI n) (hc : fpv p + n < 650) (v : Int32) : ConV g 2 yX1_layOn cX1_layOn 3 none [.ref (gr g t), .int a, .int v] (tab g w t T) (fun w' => w' = tab g w t (sSz (sCd T (upd (Tcd T) (fpv p + n) v)) (upd (Tsz T) p (nI (n + 1))))) := by
  refine con_of (by decide +kernel) (Nat.le_of_ble_eq_true rfl) [(0, _), (1, _), (2, _)] rfl (fun K h => ?_)
  subst ha
  refine j_aload_n h (q := 1) 0 dX1_layOn_0 rfl rfl ?_
  refine j_iload_n h (q := 2) 1 dX1_layOn_1 rfl rfl ?_
  refine j_aload_n h (q := 3) 0 dX1_layOn_2 rfl rfl ?_
  refine j_get h (q := 6) inX1 (C := RX1) (T := TX1) (N := 9) (ci := 1) rfl 1 (by decide) mF_X1_15 (by omega) (tab_0 _ _ _ _) rfl dX1_layOn_3 rfl ?_
  refine j_iload_n h (q := 7) 1 dX1_layOn_6 rfl rfl ?_
  refine j_cSN h (q := 10) mo_X2_at mS_X2_at mL_X1_75 (c_X2_at g _ (by omega) (tab_2 _ _ _ _) (by decide) _) (by decide) rfl rfl (Nat.le_of_ble_eq_true rfl) dX1_layOn_7 rfl ?_
  rintro _ w7 ⟨x7, rfl, e⟩
  obtain ⟨rfl, rfl⟩ := e
  rw [ati_n hp (by decide), hn]
  refine j_iload_n h (q := 11) 2 dX1_layOn_10 rfl rfl ?_
  refine j_cV h (q := 14) (C := RX1) (T := TX1) (N := 9) (ci := 1) mo_X1_setCard mI_X1_setCard mV_X1_setCard mL_X1_71 (c_X1_setCard g _ _ ht _ rfl hp rfl hc _) (by decide) (by omega) (tab_0 _ _ _ _) rfl rfl rfl (Nat.le_of_ble_eq_true rfl) dX1_layOn_11 rfl ?_
  rintro _ w11 ⟨rfl, e⟩
  subst e
  refine j_aload_n h (q := 15) 0 dX1_layOn_14 rfl rfl ?_
  refine j_get h (q := 18) inX1 (C := RX1) (T := TX1) (N := 9) (ci := 1) rfl 1 (by decide) mF_X1_15 (by omega) (tab_0 _ _ _ _) rfl dX1_layOn_15 rfl ?_
  refine j_iload_n h (q := 19) 1 dX1_layOn_18 rfl rfl ?_
  refine j_iconst h (q := 20) (1) dX1_layOn_19 rfl (by decide) ?_
  refine j_cSN h (q := 23) mo_X2_addAt mS_X2_addAt mL_X1_82 (c_X2_addAt g _ (by omega) (tab_2 _ _ _ _) (by decide) _ _) (by decide) rfl rfl (Nat.le_of_ble_eq_true rfl) dX1_layOn_20 rfl ?_
  rintro _ w20 ⟨rfl, e⟩
  rw [ati_n hp (by decide), sti_n hp (by decide), tab_u2] at e
  subst e
  refine j_vret h rfl dX1_layOn_23 ?_
  exact ⟨rfl, by rw [show Tsz (sCd T (upd (Tcd T) (fpv p + n) v)) p = nI n from hn, nI_1]⟩
