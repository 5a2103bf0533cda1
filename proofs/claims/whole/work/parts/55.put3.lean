/-- a text behind which the first c of a long's n signs stand -/
def apR (sg : Nat → Int32) (L U n c : Nat) : Nat → Int32 := fun j => if L ≤ j ∧ j < L + c then nI (U / 256 ^ (n - 1 - (j - L)) % 256) else sg j
theorem apR_0 (sg : Nat → Int32) (L U n : Nat) : apR sg L U n 0 = sg := by funext j; unfold apR; rw [if_neg (by omega)]
theorem apR_s (sg : Nat → Int32) (L U n c : Nat) {r : Nat} (h : c + (r + 1) = n) : upd (apR sg L U n c) (L + c) (nI (U / 256 ^ r % 256)) = apR sg L U n (c + 1) := by
  funext j
  unfold upd apR
  by_cases z : j = L + c
  · subst z; rw [if_pos rfl, if_pos (by omega), show n - 1 - (L + c - L) = r by omega]
  · rw [if_neg z]
    by_cases y : L ≤ j ∧ j < L + c
    · rw [if_pos y, if_pos (by omega)]
    · rw [if_neg y, if_neg (by omega)]
theorem nI_dec (r : Nat) : nI r + Int32.ofInt (-1) = nI r - 1 := by
  cases r with
  | zero => decide
  | succ r => rw [show nI (r + 1) + Int32.ofInt (-1) = nI (r + 1 - 1) from nI_m1 (Nat.succ_pos r), nI_pred]; rfl
theorem by_at (x : Int64) {r : Nat} (hr : r < 8) : ((x.toUInt64 >>> ((nI (8 * r)).toInt64.toUInt64 &&& Int64.toUInt64 63)).toInt64 &&& 255).toInt32 = nI (x.toUInt64.toNat / 256 ^ r % 256) := by
  rw [put_and, put_sh x (show 8 * r < 64 by omega), lN_i, Nat.pow_mul]

set_option maxRecDepth 100000 in
set_option maxHeartbeats 4000000 in
theorem lp_append (g : jG) (w : jW) (X0 : Xs) {K : jK} (h : jH g K RX0 cX0_append 5 none) (x : Int64) {L n : Nat} (hn : n ≤ 8) (hL : L + n ≤ 60) : ∀ r c X, c + r = n → X = yLn (ySg X0 (apR (Xsg X0) L x.toUInt64.toNat n c)) (nI (L + c)) → J g 1 K 5 (fun v w' => v = none ∧ (fun w' => w' = xw g w (yLn (ySg X0 (apR (Xsg X0) L x.toUInt64.toNat n n)) (nI (L + n)))) w') 5 [(4, .int (nI (r) - 1)), (0, .ref (gr g 5)), (1, .long x), (3, .int (nI n))] [] (xw g w X) := by
  intro r
  induction r with
  | zero =>
    intro c X hc hX
    refine j_iload h (q := 7) 0 dX0_append_5 rfl rfl ?_
    refine j_if_lt h (tgt := 49) (q := 10) dX0_append_7 rfl (by decide) (fun c_7 => ?_) (fun c_7 => ?_)
    rotate_left
    · exact absurd (show nI 0 - 1 < (0 : Int32) by decide) c_7
    refine j_vret h rfl dX0_append_49 ?_
    exact ⟨rfl, by rw [hX, show c = n by omega]⟩
  | succ r ih =>
    intro c X hc hX
    have hln : Xln X = nI (L + c) := by rw [hX]
    rw [nI_pred]
    refine j_iload h (q := 7) 0 dX0_append_5 rfl rfl ?_
    refine j_if_lt h (tgt := 49) (q := 10) dX0_append_7 rfl (by decide) (fun c_7 => ?_) (fun c_7 => ?_)
    · exact absurd c_7 (nI_pos (by omega))
    refine j_aload_n h (q := 11) 1 dX0_append_10 rfl rfl ?_
    refine j_get h (q := 14) inX0 (C := RX0) (T := TX0) (N := 2) (ci := 0) rfl 0 (by decide) mF_X0_9 (by decide) (xw_5 _ _ _) rfl dX0_append_11 rfl ?_
    refine j_aload_n h (q := 15) 1 dX0_append_14 rfl rfl ?_
    refine j_get h (q := 18) inX0 (C := RX0) (T := TX0) (N := 2) (ci := 0) rfl 1 (by decide) mF_X0_15 (by decide) (xw_5 _ _ _) rfl dX0_append_15 rfl ?_
    refine j_lload_n h (q := 19) 2 dX0_append_18 rfl rfl ?_
    refine j_bipush h (q := 21) (8) dX0_append_19 rfl (by decide) ?_
    refine j_iload h (q := 23) 0 dX0_append_21 rfl rfl ?_
    refine j_imul h (q := 24) dX0_append_23 rfl ?_
    rw [i_Lmul]
    refine j_lushr h (q := 25) dX0_append_24 rfl ?_
    refine j_ldc2 h (q := 28) mK_X0_19 dX0_append_25 rfl ?_
    refine j_land h (q := 29) dX0_append_28 rfl ?_
    refine j_l2i h (q := 30) dX0_append_29 rfl ?_
    rw [by_at x (show r < 8 by omega), hln]
    refine j_cSN h (q := 33) mo_X2_setAt mS_X2_setAt mL_X0_25 (c_X2_setAt g _ (z := 6) (n := 60) (by decide) (xw_6 _ _ _) (by decide) _ _) (by decide) rfl rfl (Nat.le_of_ble_eq_true rfl) dX0_append_30 rfl ?_
    rintro _ w30 ⟨rfl, e⟩
    rw [sti_n (by omega) (by decide), xw_u6] at e
    subst e
    refine j_aload_n h (q := 34) 1 dX0_append_33 rfl rfl ?_
    refine j_dup h (q := 35) dX0_append_34 rfl rfl ?_
    refine j_get h (q := 38) inX0 (C := RX0) (T := TX0) (N := 2) (ci := 0) rfl 1 (by decide) mF_X0_15 (by decide) (xw_5 _ _ _) rfl dX0_append_35 rfl ?_
    refine j_iconst h (q := 39) (1) dX0_append_38 rfl (by decide) ?_
    refine j_iadd h (q := 40) dX0_append_39 rfl ?_
    refine j_put h (q := 43) inX0 (C := RX0) (T := TX0) (N := 2) (ci := 0) rfl tyX0_ok nmX0 1 (by decide) mF_X0_15 rfl rfl rfl (by first | rfl | decide) (by decide) (xw_5 _ _ _) (Nat.le_of_ble_eq_true rfl) dX0_append_40 rfl ?_
    refine j_stk rfl xw_u5 ?_
    refine j_iinc h (q := 46) (loc' := [(4, _), (0, _), (1, _), (3, _)]) 0 _ dX0_append_43 rfl rfl rfl (by decide) rfl ?_
    refine j_goto h (tgt := 5) dX0_append_46 (by decide) ?_
    rw [nI_dec]
    refine j_sub [0, 1, 2, 3] rfl ?_
    refine ih (c + 1) _ (by omega) ?_
    subst hX
    rw [← apR_s (Xsg X0) L x.toUInt64.toNat n c hc, show nI (L + (c + 1)) = nI (L + c) + 1 from (nI_1 _).symm]

set_option maxRecDepth 100000 in
set_option maxHeartbeats 4000000 in
theorem p_append (g : jG) (w : jW) (X : Xs) (x : Int64) {L n : Nat} (hln : Xln X = nI L) (hn : n ≤ 8) (hL : L + n ≤ 60)  : ConV g 1 yX0_append cX0_append 5 none [.ref (gr g 5), .long x, .int (nI n)] (xw g w X) (fun w' => w' = xw g w (yLn (ySg X (apR (Xsg X) L x.toUInt64.toNat n n)) (nI (L + n)))) := by
  refine con_of (by decide +kernel) (Nat.le_of_ble_eq_true rfl) [(0, _), (1, _), (3, _)] rfl (fun K h => ?_)
  refine j_iload_n h (q := 1) 2 dX0_append_0 rfl rfl ?_
  refine j_iconst h (q := 2) (1) dX0_append_1 rfl (by decide) ?_
  refine j_isub h (q := 3) dX0_append_2 rfl ?_
  refine j_istore h (q := 5) (loc' := [(4, _), (0, _), (1, _), (3, _)]) dX0_append_3 rfl (by decide) rfl ?_
  refine j_sub [0, 1, 2, 3] rfl ?_
  exact lp_append g w X h x hn hL n 0 X (Nat.zero_add n) (by rw [apR_0, Nat.add_zero, ← hln])
