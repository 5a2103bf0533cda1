set_option maxRecDepth 100000 in
set_option maxHeartbeats 4000000 in
theorem c_copyRow (g : jG) (w : jW) {z0 z1 n : Nat} {f f1 : Nat → Int32} (hz0 : z0 < NW) (hz1 : z1 < NW) (hw0 : w z0 = .inl (gI g, n, .inl f)) (hw1 : w z1 = .inl (gI g, n, .inl f1)) (hn : n < 1000000)  : ConV g 1 yX2_copyRow cX2_copyRow 2 none [.ref (gr g z0), .ref (gr g z1)] (w) (fun w' => w' = va_up w z1 (.inl (gI g, n, .inl (va_cpy f f1 0 0 n)))) := by
  refine con_of (by decide +kernel) (Nat.le_of_ble_eq_true rfl) [(0, _), (1, _)] rfl (fun K h => ?_)
  refine j_aload_n h (q := 1) 0 dX2_copyRow_0 rfl rfl ?_
  refine j_iconst h (q := 2) (0) dX2_copyRow_1 rfl (by decide) ?_
  refine j_aload_n h (q := 3) 1 dX2_copyRow_2 rfl rfl ?_
  refine j_iconst h (q := 4) (0) dX2_copyRow_3 rfl (by decide) ?_
  refine j_aload_n h (q := 5) 0 dX2_copyRow_4 rfl rfl ?_
  refine j_alen h (q := 6) 0 (nI n) hz0 hw0 rfl rfl dX2_copyRow_5 rfl ?_
  refine j_aload_n h (q := 7) 1 dX2_copyRow_6 rfl rfl ?_
  refine j_alen h (q := 8) 0 (nI n) hz1 hw1 rfl rfl dX2_copyRow_7 rfl ?_
  refine j_cS h (q := 11) mo_J9_min_7cf53 mS_J9_min_7cf53 mL_X2_194 (c_J9_min_7cf53 g _ _ _) (by decide) rfl rfl (Nat.le_of_ble_eq_true rfl) dX2_copyRow_8 rfl ?_
  rintro _ w8 ⟨x8, rfl, e⟩
  obtain ⟨rfl, rfl⟩ := e
  rw [ite_self]
  refine j_copyi h (q := 14) mL_X2_210 hz0 hz1 hw0 hw1 (by decide) (by decide) (nI_pos (by omega)) (by rw [nI_clamp (by omega)]; exact Nat.le_of_eq (Nat.zero_add n)) (by rw [nI_clamp (by omega)]; exact Nat.le_of_eq (Nat.zero_add n)) (by decide) (Nat.zero_le _) dX2_copyRow_11 rfl ?_
  rw [nI_clamp (by omega), show (0 : Int32).toNatClampNeg = 0 from rfl]
  refine j_vret h rfl dX2_copyRow_14 ?_
  exact ⟨rfl, rfl⟩

set_option maxRecDepth 100000 in
set_option maxHeartbeats 4000000 in
theorem c_copyTable (g : jG) (w : jW) {t u : Nat} (ht : t + 6 ≤ NW) (hu : u + 6 ≤ NW) (htu : t + 6 ≤ u ∨ u + 6 ≤ t) (T U : Ts) {ob : Bool} (hov : Tov T = b2i ob)  : ConV g 2 yX2_copyTable cX2_copyTable 2 none [.ref (gr g t), .ref (gr g u)] (tab g (tab g w u U) t T) (fun w' => ∃ U', w' = tab g (tab g w u U') t T ∧ CPY T U') := by
  refine con_of (by decide +kernel) (Nat.le_of_ble_eq_true rfl) [(0, _), (1, _)] rfl (fun K h => ?_)
  refine j_aload_n h (q := 1) 0 dX2_copyTable_0 rfl rfl ?_
  refine j_ifnull h (q := 4) dX2_copyTable_1 rfl ?_
  refine j_aload_n h (q := 5) 1 dX2_copyTable_4 rfl rfl ?_
  refine j_ifnonnull h (tgt := 9) dX2_copyTable_5 (by decide) ?_
  refine j_aload_n h (q := 10) 0 dX2_copyTable_9 rfl rfl ?_
  refine j_get h (q := 13) inX1 (C := RX1) (T := TX1) (N := 9) (ci := 1) rfl 0 (by decide) mF_X2_197 (by omega) (tab_0 _ _ _ _) rfl dX2_copyTable_10 rfl ?_
  refine j_aload_n h (q := 14) 1 dX2_copyTable_13 rfl rfl ?_
  refine j_get h (q := 17) inX1 (C := RX1) (T := TX1) (N := 9) (ci := 1) rfl 0 (by decide) mF_X2_197 (by omega) ((tab_ne _ _ _ _ (by omega)).trans (tab_0 _ _ _ _)) rfl dX2_copyTable_14 rfl ?_
  refine j_cS h (q := 20) mo_X2_copyRow mS_X2_copyRow mL_X2_200 (c_copyRow g _ (z0 := t + 1) (z1 := u + 1) (by omega) (by omega) (tab_1 _ _ _ _) ((tab_ne _ _ _ _ (by omega)).trans (tab_1 _ _ _ _)) (by decide)) (by decide) rfl rfl (Nat.le_of_ble_eq_true rfl) dX2_copyTable_17 rfl ?_
  rintro _ w17 ⟨rfl, e⟩
  obtain ⟨f1, hf1, rfl⟩ : ∃ f1, (∀ k, k < 650 → f1 k = Tcd T k) ∧ w17 = tab g (tab g w u (sCd U f1)) t T := ⟨_, fun k hk => cpy_in hk, e.trans ((tab_up _ _ _ _ _ (by omega)).trans (congrArg (fun z => tab g z t T) tab_u1))⟩
  refine j_aload_n h (q := 21) 0 dX2_copyTable_20 rfl rfl ?_
  refine j_get h (q := 24) inX1 (C := RX1) (T := TX1) (N := 9) (ci := 1) rfl 1 (by decide) mF_X2_204 (by omega) (tab_0 _ _ _ _) rfl dX2_copyTable_21 rfl ?_
  refine j_aload_n h (q := 25) 1 dX2_copyTable_24 rfl rfl ?_
  refine j_get h (q := 28) inX1 (C := RX1) (T := TX1) (N := 9) (ci := 1) rfl 1 (by decide) mF_X2_204 (by omega) ((tab_ne _ _ _ _ (by omega)).trans (tab_0 _ _ _ _)) rfl dX2_copyTable_25 rfl ?_
  refine j_cS h (q := 31) mo_X2_copyRow mS_X2_copyRow mL_X2_200 (c_copyRow g _ (z0 := t + 2) (z1 := u + 2) (by omega) (by omega) (tab_2 _ _ _ _) ((tab_ne _ _ _ _ (by omega)).trans (tab_2 _ _ _ _)) (by decide)) (by decide) rfl rfl (Nat.le_of_ble_eq_true rfl) dX2_copyTable_28 rfl ?_
  rintro _ w28 ⟨rfl, e⟩
  obtain ⟨f2, hf2, rfl⟩ : ∃ f2, (∀ k, k < 22 → f2 k = Tsz T k) ∧ w28 = tab g (tab g w u (sSz (sCd U f1) f2)) t T := ⟨_, fun k hk => cpy_in hk, e.trans ((tab_up _ _ _ _ _ (by omega)).trans (congrArg (fun z => tab g z t T) tab_u2))⟩
  refine j_aload_n h (q := 32) 0 dX2_copyTable_31 rfl rfl ?_
  refine j_get h (q := 35) inX1 (C := RX1) (T := TX1) (N := 9) (ci := 1) rfl 2 (by decide) mF_X2_122 (by omega) (tab_0 _ _ _ _) rfl dX2_copyTable_32 rfl ?_
  refine j_aload_n h (q := 36) 1 dX2_copyTable_35 rfl rfl ?_
  refine j_get h (q := 39) inX1 (C := RX1) (T := TX1) (N := 9) (ci := 1) rfl 2 (by decide) mF_X2_122 (by omega) ((tab_ne _ _ _ _ (by omega)).trans (tab_0 _ _ _ _)) rfl dX2_copyTable_36 rfl ?_
  refine j_cS h (q := 42) mo_X2_copyRow mS_X2_copyRow mL_X2_200 (c_copyRow g _ (z0 := t + 3) (z1 := u + 3) (by omega) (by omega) (tab_3 _ _ _ _) ((tab_ne _ _ _ _ (by omega)).trans (tab_3 _ _ _ _)) (by decide)) (by decide) rfl rfl (Nat.le_of_ble_eq_true rfl) dX2_copyTable_39 rfl ?_
  rintro _ w39 ⟨rfl, e⟩
  obtain ⟨f3, hf3, rfl⟩ : ∃ f3, (∀ k, k < 2 → f3 k = Tpt T k) ∧ w39 = tab g (tab g w u (sPt (sSz (sCd U f1) f2) f3)) t T := ⟨_, fun k hk => cpy_in hk, e.trans ((tab_up _ _ _ _ _ (by omega)).trans (congrArg (fun z => tab g z t T) tab_u3))⟩
  refine j_aload_n h (q := 43) 0 dX2_copyTable_42 rfl rfl ?_
  refine j_get h (q := 46) inX1 (C := RX1) (T := TX1) (N := 9) (ci := 1) rfl 3 (by decide) mF_X2_129 (by omega) (tab_0 _ _ _ _) rfl dX2_copyTable_43 rfl ?_
  refine j_aload_n h (q := 47) 1 dX2_copyTable_46 rfl rfl ?_
  refine j_get h (q := 50) inX1 (C := RX1) (T := TX1) (N := 9) (ci := 1) rfl 3 (by decide) mF_X2_129 (by omega) ((tab_ne _ _ _ _ (by omega)).trans (tab_0 _ _ _ _)) rfl dX2_copyTable_47 rfl ?_
  refine j_cS h (q := 53) mo_X2_copyRow mS_X2_copyRow mL_X2_200 (c_copyRow g _ (z0 := t + 4) (z1 := u + 4) (by omega) (by omega) (tab_4 _ _ _ _) ((tab_ne _ _ _ _ (by omega)).trans (tab_4 _ _ _ _)) (by decide)) (by decide) rfl rfl (Nat.le_of_ble_eq_true rfl) dX2_copyTable_50 rfl ?_
  rintro _ w50 ⟨rfl, e⟩
  obtain ⟨f4, hf4, rfl⟩ : ∃ f4, (∀ k, k < 2 → f4 k = Tfz T k) ∧ w50 = tab g (tab g w u (sFz (sPt (sSz (sCd U f1) f2) f3) f4)) t T := ⟨_, fun k hk => cpy_in hk, e.trans ((tab_up _ _ _ _ _ (by omega)).trans (congrArg (fun z => tab g z t T) tab_u4))⟩
  refine j_aload_n h (q := 54) 0 dX2_copyTable_53 rfl rfl ?_
  refine j_get h (q := 57) inX1 (C := RX1) (T := TX1) (N := 9) (ci := 1) rfl 4 (by decide) mF_X2_207 (by omega) (tab_0 _ _ _ _) rfl dX2_copyTable_54 rfl ?_
  refine j_aload_n h (q := 58) 1 dX2_copyTable_57 rfl rfl ?_
  refine j_get h (q := 61) inX1 (C := RX1) (T := TX1) (N := 9) (ci := 1) rfl 4 (by decide) mF_X2_207 (by omega) ((tab_ne _ _ _ _ (by omega)).trans (tab_0 _ _ _ _)) rfl dX2_copyTable_58 rfl ?_
  refine j_cS h (q := 64) mo_X2_copyRow mS_X2_copyRow mL_X2_200 (c_copyRow g _ (z0 := t + 5) (z1 := u + 5) (by omega) (by omega) (tab_5 _ _ _ _) ((tab_ne _ _ _ _ (by omega)).trans (tab_5 _ _ _ _)) (by decide)) (by decide) rfl rfl (Nat.le_of_ble_eq_true rfl) dX2_copyTable_61 rfl ?_
  rintro _ w61 ⟨rfl, e⟩
  obtain ⟨f5, hf5, rfl⟩ : ∃ f5, (∀ k, k < 8 → f5 k = Tth T k) ∧ w61 = tab g (tab g w u (sTh (sFz (sPt (sSz (sCd U f1) f2) f3) f4) f5)) t T := ⟨_, fun k hk => cpy_in hk, e.trans ((tab_up _ _ _ _ _ (by omega)).trans (congrArg (fun z => tab g z t T) tab_u5))⟩
  refine j_aload_n h (q := 65) 1 dX2_copyTable_64 rfl rfl ?_
  refine j_aload_n h (q := 66) 0 dX2_copyTable_65 rfl rfl ?_
  refine j_get h (q := 69) inX1 (C := RX1) (T := TX1) (N := 9) (ci := 1) rfl 5 (by decide) mF_X2_138 (by omega) (tab_0 _ _ _ _) rfl dX2_copyTable_66 rfl ?_
  refine j_put h (q := 72) inX1 (C := RX1) (T := TX1) (N := 9) (ci := 1) rfl tyX1_ok nmX1 5 (by decide) mF_X2_138 rfl rfl rfl (by first | rfl | decide) (by omega) ((tab_ne _ _ _ _ (by omega)).trans (tab_0 _ _ _ _)) (Nat.le_of_ble_eq_true rfl) dX2_copyTable_69 rfl ?_
  refine j_stk rfl ((tab_up _ _ _ _ _ (by omega)).trans (congrArg (fun z => tab g z t T) tab_u0)) ?_
  refine j_aload_n h (q := 73) 1 dX2_copyTable_72 rfl rfl ?_
  refine j_aload_n h (q := 74) 0 dX2_copyTable_73 rfl rfl ?_
  refine j_get h (q := 77) inX1 (C := RX1) (T := TX1) (N := 9) (ci := 1) rfl 6 (by decide) mF_X2_141 (by omega) (tab_0 _ _ _ _) rfl dX2_copyTable_74 rfl ?_
  refine j_put h (q := 80) inX1 (C := RX1) (T := TX1) (N := 9) (ci := 1) rfl tyX1_ok nmX1 6 (by decide) mF_X2_141 rfl rfl rfl (by first | rfl | decide) (by omega) ((tab_ne _ _ _ _ (by omega)).trans (tab_0 _ _ _ _)) (Nat.le_of_ble_eq_true rfl) dX2_copyTable_77 rfl ?_
  refine j_stk rfl ((tab_up _ _ _ _ _ (by omega)).trans (congrArg (fun z => tab g z t T) tab_u0)) ?_
  refine j_aload_n h (q := 81) 1 dX2_copyTable_80 rfl rfl ?_
  refine j_aload_n h (q := 82) 0 dX2_copyTable_81 rfl rfl ?_
  refine j_get h (q := 85) inX1 (C := RX1) (T := TX1) (N := 9) (ci := 1) rfl 7 (by decide) mF_X2_144 (by omega) (tab_0 _ _ _ _) rfl dX2_copyTable_82 rfl ?_
  refine j_put h (q := 88) inX1 (C := RX1) (T := TX1) (N := 9) (ci := 1) rfl tyX1_ok nmX1 7 (by decide) mF_X2_144 rfl rfl rfl (by first | rfl | decide) (by omega) ((tab_ne _ _ _ _ (by omega)).trans (tab_0 _ _ _ _)) (Nat.le_of_ble_eq_true rfl) dX2_copyTable_85 rfl ?_
  refine j_stk rfl ((tab_up _ _ _ _ _ (by omega)).trans (congrArg (fun z => tab g z t T) tab_u0)) ?_
  refine j_aload_n h (q := 89) 1 dX2_copyTable_88 rfl rfl ?_
  refine j_aload_n h (q := 90) 0 dX2_copyTable_89 rfl rfl ?_
  refine j_get h (q := 93) inX1 (C := RX1) (T := TX1) (N := 9) (ci := 1) rfl 8 (by decide) mF_X2_71 (by omega) (tab_0 _ _ _ _) rfl dX2_copyTable_90 rfl ?_
  refine j_put h (q := 96) inX1 (C := RX1) (T := TX1) (N := 9) (ci := 1) rfl tyX1_ok nmX1 8 (by decide) mF_X2_71 rfl rfl (by show narrow .boolean (.int (Tov T)) = _; rw [hov]; exact b2i_n _) (by show fits .boolean (.int (Tov T)) = true; rw [hov]; cases ob <;> rfl) (by omega) ((tab_ne _ _ _ _ (by omega)).trans (tab_0 _ _ _ _)) (Nat.le_of_ble_eq_true rfl) dX2_copyTable_93 rfl ?_
  refine j_stk rfl ((tab_up _ _ _ _ _ (by omega)).trans (congrArg (fun z => tab g z t T) tab_u0)) ?_
  refine j_vret h rfl dX2_copyTable_96 ?_
  refine ⟨rfl, _, rfl, ?_⟩
  exact ⟨hf1, hf2, hf3, hf4, hf5, rfl, rfl, rfl, rfl⟩
