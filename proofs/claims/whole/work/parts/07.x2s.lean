def fmj (x y : Int32) : Int32 := if 0 ≤ x ^^^ y then x - x / y * y else if x - x / y * y = 0 then x - x / y * y else x - x / y * y + y
theorem abs_ranks (k t : Nat) : ((if (0 : Int32) ≤ nI (rank k) - nI (rank t) then nI (rank k) - nI (rank t) else -(nI (rank k) - nI (rank t))) = 1) ↔ (rank k = rank t + 1 ∨ rank k + 1 = rank t) := by
  have key : ∀ a, a < 13 → ∀ b, b < 13 → (((if (0 : Int32) ≤ nI a - nI b then nI a - nI b else -(nI a - nI b)) = 1) ↔ (a = b + 1 ∨ a + 1 = b)) := by decide +kernel
  exact key _ (rank_lt k) _ (rank_lt t)
set_option maxRecDepth 100000 in
set_option maxHeartbeats 4000000 in
theorem c_J9_abs_0f7a4 (g : jG) (w : jW) (x : Int32) : ConI g 0 yJ9_abs_0f7a4 cJ9_abs_0f7a4 1 (some (.int)) [.int x] (w) (fun v w' => v = (if 0 ≤ x then x else -x) ∧ w' = w) := by
  refine con_of (by decide +kernel) (Nat.le_of_ble_eq_true rfl) [(0, _)] rfl (fun K h => ?_)
  refine j_iload_n h (q := 1) 0 dJ9_abs_0f7a4_0 rfl rfl ?_
  refine j_if_ge h (tgt := 9) (q := 4) dJ9_abs_0f7a4_1 rfl (by decide) (fun c_1 => ?_) (fun c_1 => ?_)
  · refine j_iload_n h (q := 10) 0 dJ9_abs_0f7a4_9 rfl rfl ?_
    refine j_iret h rfl dJ9_abs_0f7a4_10 ?_
    exact ⟨_, rfl, by simp [c_1], rfl⟩
  · refine j_iload_n h (q := 5) 0 dJ9_abs_0f7a4_4 rfl rfl ?_
    refine j_ineg h (q := 6) dJ9_abs_0f7a4_5 rfl ?_
    refine j_goto h (tgt := 10) dJ9_abs_0f7a4_6 (by decide) ?_
    refine j_iret h rfl dJ9_abs_0f7a4_10 ?_
    exact ⟨_, rfl, by simp [c_1], rfl⟩

set_option maxRecDepth 100000 in
set_option maxHeartbeats 4000000 in
theorem c_J9_max_7cf53 (g : jG) (w : jW) (x y : Int32) : ConI g 0 yJ9_max_7cf53 cJ9_max_7cf53 2 (some (.int)) [.int x, .int y] (w) (fun v w' => v = (if x < y then y else x) ∧ w' = w) := by
  refine con_of (by decide +kernel) (Nat.le_of_ble_eq_true rfl) [(0, _), (1, _)] rfl (fun K h => ?_)
  refine j_iload_n h (q := 1) 0 dJ9_max_7cf53_0 rfl rfl ?_
  refine j_iload_n h (q := 2) 1 dJ9_max_7cf53_1 rfl rfl ?_
  refine j_icmp_lt h (tgt := 9) (q := 5) dJ9_max_7cf53_2 rfl (by decide) (fun c_2 => ?_) (fun c_2 => ?_)
  · refine j_iload_n h (q := 10) 1 dJ9_max_7cf53_9 rfl rfl ?_
    refine j_iret h rfl dJ9_max_7cf53_10 ?_
    exact ⟨_, rfl, by simp [c_2], rfl⟩
  · refine j_iload_n h (q := 6) 0 dJ9_max_7cf53_5 rfl rfl ?_
    refine j_goto h (tgt := 10) dJ9_max_7cf53_6 (by decide) ?_
    refine j_iret h rfl dJ9_max_7cf53_10 ?_
    exact ⟨_, rfl, by simp [c_2], rfl⟩

set_option maxRecDepth 100000 in
set_option maxHeartbeats 4000000 in
theorem c_J9_min_7cf53 (g : jG) (w : jW) (x y : Int32) : ConI g 0 yJ9_min_7cf53 cJ9_min_7cf53 2 (some (.int)) [.int x, .int y] (w) (fun v w' => v = (if y < x then y else x) ∧ w' = w) := by
  refine con_of (by decide +kernel) (Nat.le_of_ble_eq_true rfl) [(0, _), (1, _)] rfl (fun K h => ?_)
  refine j_iload_n h (q := 1) 0 dJ9_min_7cf53_0 rfl rfl ?_
  refine j_iload_n h (q := 2) 1 dJ9_min_7cf53_1 rfl rfl ?_
  refine j_icmp_gt h (tgt := 9) (q := 5) dJ9_min_7cf53_2 rfl (by decide) (fun c_2 => ?_) (fun c_2 => ?_)
  · refine j_iload_n h (q := 10) 1 dJ9_min_7cf53_9 rfl rfl ?_
    refine j_iret h rfl dJ9_min_7cf53_10 ?_
    exact ⟨_, rfl, by simp [c_2], rfl⟩
  · refine j_iload_n h (q := 6) 0 dJ9_min_7cf53_5 rfl rfl ?_
    refine j_goto h (tgt := 10) dJ9_min_7cf53_6 (by decide) ?_
    refine j_iret h rfl dJ9_min_7cf53_10 ?_
    exact ⟨_, rfl, by simp [c_2], rfl⟩

set_option maxRecDepth 100000 in
set_option maxHeartbeats 4000000 in
theorem c_J9_floorMod_7cf53 (g : jG) (w : jW) (x y : Int32) (hy : ¬ y = 0) : ConI g 0 yJ9_floorMod_7cf53 cJ9_floorMod_7cf53 3 (some (.int)) [.int x, .int y] (w) (fun v w' => v = fmj x y ∧ w' = w) := by
  refine con_of (by decide +kernel) (Nat.le_of_ble_eq_true rfl) [(0, _), (1, _)] rfl (fun K h => ?_)
  refine j_iload_n h (q := 1) 0 dJ9_floorMod_7cf53_0 rfl rfl ?_
  refine j_iload_n h (q := 2) 1 dJ9_floorMod_7cf53_1 rfl rfl ?_
  refine j_irem h (q := 3) dJ9_floorMod_7cf53_2 rfl (hy) ?_
  refine j_istore_n h (q := 4) (loc' := [(2, _), (0, _), (1, _)]) dJ9_floorMod_7cf53_3 rfl (by decide) rfl ?_
  refine j_iload_n h (q := 5) 1 dJ9_floorMod_7cf53_4 rfl rfl ?_
  refine j_iload_n h (q := 6) 2 dJ9_floorMod_7cf53_5 rfl rfl ?_
  refine j_ixor h (q := 7) dJ9_floorMod_7cf53_6 rfl ?_
  refine j_if_ge h (tgt := 18) (q := 10) dJ9_floorMod_7cf53_7 rfl (by decide) (fun c_7 => ?_) (fun c_7 => ?_)
  · refine j_iload_n h (q := 19) 0 dJ9_floorMod_7cf53_18 rfl rfl ?_
    refine j_iret h rfl dJ9_floorMod_7cf53_19 ?_
    exact ⟨_, rfl, by simp [fmj, c_7], rfl⟩
  · refine j_iload_n h (q := 11) 0 dJ9_floorMod_7cf53_10 rfl rfl ?_
    refine j_if_eq h (tgt := 18) (q := 14) dJ9_floorMod_7cf53_11 rfl (by decide) (fun c_11 => ?_) (fun c_11 => ?_)
    · refine j_iload_n h (q := 19) 0 dJ9_floorMod_7cf53_18 rfl rfl ?_
      refine j_iret h rfl dJ9_floorMod_7cf53_19 ?_
      exact ⟨_, rfl, by simp [fmj, c_7, c_11], rfl⟩
    · refine j_iload_n h (q := 15) 0 dJ9_floorMod_7cf53_14 rfl rfl ?_
      refine j_iload_n h (q := 16) 2 dJ9_floorMod_7cf53_15 rfl rfl ?_
      refine j_iadd h (q := 17) dJ9_floorMod_7cf53_16 rfl ?_
      refine j_iret h rfl dJ9_floorMod_7cf53_17 ?_
      exact ⟨_, rfl, by simp [fmj, c_7, c_11], rfl⟩

set_option maxRecDepth 100000 in
set_option maxHeartbeats 4000000 in
theorem c_X2_isBelow (g : jG) (w : jW) (a l : Int32) : ConI g 0 yX2_isBelow cX2_isBelow 2 (some (.boolean)) [.int a, .int l] (w) (fun x w' => x = b2i (decide (¬ a < 0 ∧ a < l)) ∧ w' = w) := by
  refine con_of (by decide +kernel) (Nat.le_of_ble_eq_true rfl) [(0, _), (1, _)] rfl (fun K h => ?_)
  refine j_iload_n h (q := 1) 0 dX2_isBelow_0 rfl rfl ?_
  refine j_if_lt h (tgt := 13) (q := 4) dX2_isBelow_1 rfl (by decide) (fun c_1 => ?_) (fun c_1 => ?_)
  · refine j_iconst h (q := 14) (0) dX2_isBelow_13 rfl (by decide) ?_
    refine j_zret h rfl (by first | rfl | decide) dX2_isBelow_14 ?_
    first | exact ⟨_, rfl, b2i_dt (by simp only [i32_lt, i32_le, i32_0] at *; omega), rfl⟩ | exact ⟨_, rfl, b2i_df (by simp only [i32_lt, i32_le, i32_0] at *; omega), rfl⟩
  · refine j_iload_n h (q := 5) 0 dX2_isBelow_4 rfl rfl ?_
    refine j_iload_n h (q := 6) 1 dX2_isBelow_5 rfl rfl ?_
    refine j_icmp_ge h (tgt := 13) (q := 9) dX2_isBelow_6 rfl (by decide) (fun c_6 => ?_) (fun c_6 => ?_)
    · refine j_iconst h (q := 14) (0) dX2_isBelow_13 rfl (by decide) ?_
      refine j_zret h rfl (by first | rfl | decide) dX2_isBelow_14 ?_
      first | exact ⟨_, rfl, b2i_dt (by simp only [i32_lt, i32_le, i32_0] at *; omega), rfl⟩ | exact ⟨_, rfl, b2i_df (by simp only [i32_lt, i32_le, i32_0] at *; omega), rfl⟩
    · refine j_iconst h (q := 10) (1) dX2_isBelow_9 rfl (by decide) ?_
      refine j_goto h (tgt := 14) dX2_isBelow_10 (by decide) ?_
      refine j_zret h rfl (by first | rfl | decide) dX2_isBelow_14 ?_
      first | exact ⟨_, rfl, b2i_dt (by simp only [i32_lt, i32_le, i32_0] at *; omega), rfl⟩ | exact ⟨_, rfl, b2i_df (by simp only [i32_lt, i32_le, i32_0] at *; omega), rfl⟩

set_option maxRecDepth 100000 in
set_option maxHeartbeats 4000000 in
theorem c_X2_isPile (g : jG) (w : jW) (a : Int32) : ConI g 1 yX2_isPile cX2_isPile 1 (some (.boolean)) [.int a] (w) (fun x w' => x = b2i (decide (¬ a < 0 ∧ a < 22)) ∧ w' = w) := by
  refine con_of (by decide +kernel) (Nat.le_of_ble_eq_true rfl) [(0, _)] rfl (fun K h => ?_)
  refine j_iload_n h (q := 1) 0 dX2_isPile_0 rfl rfl ?_
  refine j_bipush h (q := 3) (22) dX2_isPile_1 rfl (by decide) ?_
  refine j_cS h (q := 6) mo_X2_isBelow mS_X2_isBelow mL_X2_79 (c_X2_isBelow g _ _ _) (by decide) rfl rfl (Nat.le_of_ble_eq_true rfl) dX2_isPile_3 rfl ?_
  rintro _ w3 ⟨x3, rfl, e⟩
  obtain ⟨rfl, rfl⟩ := e
  refine j_zret h rfl (b2i_n _) dX2_isPile_6 ?_
  exact ⟨_, rfl, rfl, rfl⟩

set_option maxRecDepth 100000 in
set_option maxHeartbeats 4000000 in
theorem c_X2_at (g : jG) (w : jW) {z n : Nat} {f : Nat → Int32} (hz : z < NW) (hw : w z = .inl (gI g, n, .inl f)) (hn : n < 2 ^ 31) (i : Int32) : ConI g 0 yX2_at cX2_at 2 (some (.int)) [.ref (gr g z), .int i] (w) (fun x w' => x = ati n f i ∧ w' = w) := by
  refine con_of (by decide +kernel) (Nat.le_of_ble_eq_true rfl) [(0, _), (1, _)] rfl (fun K h => ?_)
  refine j_iload_n h (q := 1) 1 dX2_at_0 rfl rfl ?_
  refine j_if_lt h (tgt := 16) (q := 4) dX2_at_1 rfl (by decide) (fun c_1 => ?_) (fun c_1 => ?_)
  · refine j_bipush h (q := 18) (-6) dX2_at_16 rfl (by decide) ?_
    refine j_iret h rfl dX2_at_18 ?_
    first | exact ⟨_, rfl, (ati_in (vp_in_c hn c_1 c_7)).symm, rfl⟩ | exact ⟨_, rfl, (ati_out (vp_nin_c hn (Or.inl c_1))).symm, rfl⟩ | exact ⟨_, rfl, (ati_out (vp_nin_c hn (Or.inr c_7))).symm, rfl⟩
  · refine j_iload_n h (q := 5) 1 dX2_at_4 rfl rfl ?_
    refine j_aload_n h (q := 6) 0 dX2_at_5 rfl rfl ?_
    refine j_alen h (q := 7) 0 (nI n) hz hw rfl rfl dX2_at_6 rfl ?_
    refine j_icmp_ge h (tgt := 16) (q := 10) dX2_at_7 rfl (by decide) (fun c_7 => ?_) (fun c_7 => ?_)
    · refine j_bipush h (q := 18) (-6) dX2_at_16 rfl (by decide) ?_
      refine j_iret h rfl dX2_at_18 ?_
      first | exact ⟨_, rfl, (ati_in (vp_in_c hn c_1 c_7)).symm, rfl⟩ | exact ⟨_, rfl, (ati_out (vp_nin_c hn (Or.inl c_1))).symm, rfl⟩ | exact ⟨_, rfl, (ati_out (vp_nin_c hn (Or.inr c_7))).symm, rfl⟩
    · refine j_aload_n h (q := 11) 0 dX2_at_10 rfl rfl ?_
      refine j_iload_n h (q := 12) 1 dX2_at_11 rfl rfl ?_
      refine j_iald h (q := 13) hz hw (vp_in_c hn c_1 c_7) dX2_at_12 rfl ?_
      refine j_goto h (tgt := 18) dX2_at_13 (by decide) ?_
      refine j_iret h rfl dX2_at_18 ?_
      first | exact ⟨_, rfl, (ati_in (vp_in_c hn c_1 c_7)).symm, rfl⟩ | exact ⟨_, rfl, (ati_out (vp_nin_c hn (Or.inl c_1))).symm, rfl⟩ | exact ⟨_, rfl, (ati_out (vp_nin_c hn (Or.inr c_7))).symm, rfl⟩

set_option maxRecDepth 100000 in
set_option maxHeartbeats 4000000 in
theorem c_X2_atF (g : jG) (w : jW) (i : Int32) : ConI g 0 yX2_at cX2_at 2 (some (.int)) [.ref (gF g), .int i] (w) (fun x w' => x = ati 22 (fun j => nI (fpv j)) i ∧ w' = w) := by
  refine con_of (by decide +kernel) (Nat.le_of_ble_eq_true rfl) [(0, _), (1, _)] rfl (fun K h => ?_)
  refine j_iload_n h (q := 1) 1 dX2_at_0 rfl rfl ?_
  refine j_if_lt h (tgt := 16) (q := 4) dX2_at_1 rfl (by decide) (fun c_1 => ?_) (fun c_1 => ?_)
  · refine j_bipush h (q := 18) (-6) dX2_at_16 rfl (by decide) ?_
    refine j_iret h rfl dX2_at_18 ?_
    have hn : 22 < 2 ^ 31 := by decide
    first | exact ⟨_, rfl, (ati_in (f := fun j => nI (fpv j)) (vp_in_c (n := 22) hn c_1 c_7)).symm, rfl⟩ | exact ⟨_, rfl, (ati_out (f := fun j => nI (fpv j)) (vp_nin_c (n := 22) hn (Or.inl c_1))).symm, rfl⟩ | exact ⟨_, rfl, (ati_out (f := fun j => nI (fpv j)) (vp_nin_c (n := 22) hn (Or.inr c_7))).symm, rfl⟩
  · refine j_iload_n h (q := 5) 1 dX2_at_4 rfl rfl ?_
    refine j_aload_n h (q := 6) 0 dX2_at_5 rfl rfl ?_
    refine j_Flen h (q := 7) dX2_at_6 rfl ?_
    refine j_icmp_ge h (tgt := 16) (q := 10) dX2_at_7 rfl (by decide) (fun c_7 => ?_) (fun c_7 => ?_)
    · refine j_bipush h (q := 18) (-6) dX2_at_16 rfl (by decide) ?_
      refine j_iret h rfl dX2_at_18 ?_
      have hn : 22 < 2 ^ 31 := by decide
      first | exact ⟨_, rfl, (ati_in (f := fun j => nI (fpv j)) (vp_in_c (n := 22) hn c_1 c_7)).symm, rfl⟩ | exact ⟨_, rfl, (ati_out (f := fun j => nI (fpv j)) (vp_nin_c (n := 22) hn (Or.inl c_1))).symm, rfl⟩ | exact ⟨_, rfl, (ati_out (f := fun j => nI (fpv j)) (vp_nin_c (n := 22) hn (Or.inr c_7))).symm, rfl⟩
    · refine j_aload_n h (q := 11) 0 dX2_at_10 rfl rfl ?_
      refine j_iload_n h (q := 12) 1 dX2_at_11 rfl rfl ?_
      refine j_Fald h (q := 13) (vp_in_c (n := 22) (by decide) c_1 c_7) dX2_at_12 rfl ?_
      refine j_goto h (tgt := 18) dX2_at_13 (by decide) ?_
      refine j_iret h rfl dX2_at_18 ?_
      have hn : 22 < 2 ^ 31 := by decide
      first | exact ⟨_, rfl, (ati_in (f := fun j => nI (fpv j)) (vp_in_c (n := 22) hn c_1 c_7)).symm, rfl⟩ | exact ⟨_, rfl, (ati_out (f := fun j => nI (fpv j)) (vp_nin_c (n := 22) hn (Or.inl c_1))).symm, rfl⟩ | exact ⟨_, rfl, (ati_out (f := fun j => nI (fpv j)) (vp_nin_c (n := 22) hn (Or.inr c_7))).symm, rfl⟩

set_option maxRecDepth 100000 in
set_option maxHeartbeats 4000000 in
theorem c_X2_setAt (g : jG) (w : jW) {z n : Nat} {f : Nat → Int32} (hz : z < NW) (hw : w z = .inl (gI g, n, .inl f)) (hn : n < 2 ^ 31) (i v : Int32) : ConV g 0 yX2_setAt cX2_setAt 3 none [.ref (gr g z), .int i, .int v] (w) (fun w' => w' = va_up w z (.inl (gI g, n, .inl (sti n f i v)))) := by
  refine con_of (by decide +kernel) (Nat.le_of_ble_eq_true rfl) [(0, _), (1, _), (2, _)] rfl (fun K h => ?_)
  refine j_iload_n h (q := 1) 1 dX2_setAt_0 rfl rfl ?_
  refine j_if_lt h (tgt := 14) (q := 4) dX2_setAt_1 rfl (by decide) (fun c_1 => ?_) (fun c_1 => ?_)
  · refine j_vret h rfl dX2_setAt_14 ?_
    first | exact ⟨rfl, by rw [sti_in (vp_in_c hn c_1 c_7)]⟩ | exact ⟨rfl, by rw [sti_out (vp_nin_c hn (Or.inl c_1)), up_id hw]⟩ | exact ⟨rfl, by rw [sti_out (vp_nin_c hn (Or.inr c_7)), up_id hw]⟩
  · refine j_iload_n h (q := 5) 1 dX2_setAt_4 rfl rfl ?_
    refine j_aload_n h (q := 6) 0 dX2_setAt_5 rfl rfl ?_
    refine j_alen h (q := 7) 0 (nI n) hz hw rfl rfl dX2_setAt_6 rfl ?_
    refine j_icmp_ge h (tgt := 14) (q := 10) dX2_setAt_7 rfl (by decide) (fun c_7 => ?_) (fun c_7 => ?_)
    · refine j_vret h rfl dX2_setAt_14 ?_
      first | exact ⟨rfl, by rw [sti_in (vp_in_c hn c_1 c_7)]⟩ | exact ⟨rfl, by rw [sti_out (vp_nin_c hn (Or.inl c_1)), up_id hw]⟩ | exact ⟨rfl, by rw [sti_out (vp_nin_c hn (Or.inr c_7)), up_id hw]⟩
    · refine j_aload_n h (q := 11) 0 dX2_setAt_10 rfl rfl ?_
      refine j_iload_n h (q := 12) 1 dX2_setAt_11 rfl rfl ?_
      refine j_iload_n h (q := 13) 2 dX2_setAt_12 rfl rfl ?_
      refine j_iast h (q := 14) hz hw (vp_in_c hn c_1 c_7) dX2_setAt_13 rfl ?_
      refine j_vret h rfl dX2_setAt_14 ?_
      first | exact ⟨rfl, by rw [sti_in (vp_in_c hn c_1 c_7)]⟩ | exact ⟨rfl, by rw [sti_out (vp_nin_c hn (Or.inl c_1)), up_id hw]⟩ | exact ⟨rfl, by rw [sti_out (vp_nin_c hn (Or.inr c_7)), up_id hw]⟩

set_option maxRecDepth 100000 in
set_option maxHeartbeats 4000000 in
theorem c_X2_addAt (g : jG) (w : jW) {z n : Nat} {f : Nat → Int32} (hz : z < NW) (hw : w z = .inl (gI g, n, .inl f)) (hn : n < 2 ^ 31) (i v : Int32) : ConV g 1 yX2_addAt cX2_addAt 3 none [.ref (gr g z), .int i, .int v] (w) (fun w' => w' = va_up w z (.inl (gI g, n, .inl (sti n f i (ati n f i + v))))) := by
  refine con_of (by decide +kernel) (Nat.le_of_ble_eq_true rfl) [(0, _), (1, _), (2, _)] rfl (fun K h => ?_)
  refine j_aload_n h (q := 1) 0 dX2_addAt_0 rfl rfl ?_
  refine j_iload_n h (q := 2) 1 dX2_addAt_1 rfl rfl ?_
  refine j_aload_n h (q := 3) 0 dX2_addAt_2 rfl rfl ?_
  refine j_iload_n h (q := 4) 1 dX2_addAt_3 rfl rfl ?_
  refine j_cS h (q := 7) mo_X2_at mS_X2_at mL_X2_125 (c_X2_at g _ hz hw hn _) (by decide) rfl rfl (Nat.le_of_ble_eq_true rfl) dX2_addAt_4 rfl ?_
  rintro _ w4 ⟨x4, rfl, e⟩
  obtain ⟨rfl, rfl⟩ := e
  refine j_iload_n h (q := 8) 2 dX2_addAt_7 rfl rfl ?_
  refine j_iadd h (q := 9) dX2_addAt_8 rfl ?_
  refine j_cS h (q := 12) mo_X2_setAt mS_X2_setAt mL_X2_225 (c_X2_setAt g _ hz hw hn _ _) (by decide) rfl rfl (Nat.le_of_ble_eq_true rfl) dX2_addAt_9 rfl ?_
  rintro _ w9 ⟨rfl, e⟩
  subst e
  refine j_vret h rfl dX2_addAt_12 ?_
  exact ⟨rfl, rfl⟩

set_option maxRecDepth 100000 in
set_option maxHeartbeats 4000000 in
theorem c_X2_moveOf (g : jG) (w : jW) (a c : Int32) : ConI g 0 yX2_moveOf cX2_moveOf 2 (some (.int)) [.int a, .int c] (w) (fun x w' => x = a * 22 + c ∧ w' = w) := by
  refine con_of (by decide +kernel) (Nat.le_of_ble_eq_true rfl) [(0, _), (1, _)] rfl (fun K h => ?_)
  refine j_iload_n h (q := 1) 0 dX2_moveOf_0 rfl rfl ?_
  refine j_bipush h (q := 3) (22) dX2_moveOf_1 rfl (by decide) ?_
  refine j_imul h (q := 4) dX2_moveOf_3 rfl ?_
  refine j_iload_n h (q := 5) 1 dX2_moveOf_4 rfl rfl ?_
  refine j_iadd h (q := 6) dX2_moveOf_5 rfl ?_
  refine j_iret h rfl dX2_moveOf_6 ?_
  exact ⟨_, rfl, rfl, rfl⟩

set_option maxRecDepth 100000 in
set_option maxHeartbeats 4000000 in
theorem c_X2_fromOf (g : jG) (w : jW) (a : Int32) : ConI g 0 yX2_fromOf cX2_fromOf 1 (some (.int)) [.int a] (w) (fun x w' => x = a / 22 ∧ w' = w) := by
  refine con_of (by decide +kernel) (Nat.le_of_ble_eq_true rfl) [(0, _)] rfl (fun K h => ?_)
  refine j_iload_n h (q := 1) 0 dX2_fromOf_0 rfl rfl ?_
  refine j_bipush h (q := 3) (22) dX2_fromOf_1 rfl (by decide) ?_
  refine j_idiv h (q := 4) dX2_fromOf_3 rfl (by decide) ?_
  refine j_iret h rfl dX2_fromOf_4 ?_
  exact ⟨_, rfl, rfl, rfl⟩

set_option maxRecDepth 100000 in
set_option maxHeartbeats 4000000 in
theorem c_X2_toOf (g : jG) (w : jW) (a : Int32) : ConI g 0 yX2_toOf cX2_toOf 1 (some (.int)) [.int a] (w) (fun x w' => x = a - a / 22 * 22 ∧ w' = w) := by
  refine con_of (by decide +kernel) (Nat.le_of_ble_eq_true rfl) [(0, _)] rfl (fun K h => ?_)
  refine j_iload_n h (q := 1) 0 dX2_toOf_0 rfl rfl ?_
  refine j_bipush h (q := 3) (22) dX2_toOf_1 rfl (by decide) ?_
  refine j_irem h (q := 4) dX2_toOf_3 rfl (by decide) ?_
  refine j_iret h rfl dX2_toOf_4 ?_
  exact ⟨_, rfl, rfl, rfl⟩

set_option maxRecDepth 100000 in
set_option maxHeartbeats 4000000 in
theorem c_X2_suitOf (g : jG) (w : jW) {k : Nat} (hk : k < 104)  : ConI g 0 yX2_suitOf cX2_suitOf 1 (some (.int)) [.int (nI k)] (w) (fun x w' => x = nI (suit k) ∧ w' = w) := by
  refine con_of (by decide +kernel) (Nat.le_of_ble_eq_true rfl) [(0, _)] rfl (fun K h => ?_)
  refine j_iload_n h (q := 1) 0 dX2_suitOf_0 rfl rfl ?_
  refine j_bipush h (q := 3) (52) dX2_suitOf_1 rfl (by decide) ?_
  refine j_irem h (q := 4) dX2_suitOf_3 rfl (by decide) ?_
  refine j_bipush h (q := 6) (13) dX2_suitOf_4 rfl (by decide) ?_
  refine j_idiv h (q := 7) dX2_suitOf_6 rfl (by decide) ?_
  refine j_iret h rfl dX2_suitOf_7 ?_
  exact ⟨_, rfl, suit_i hk, rfl⟩

set_option maxRecDepth 100000 in
set_option maxHeartbeats 4000000 in
theorem c_X2_rankOf (g : jG) (w : jW) {k : Nat} (hk : k < 104)  : ConI g 0 yX2_rankOf cX2_rankOf 1 (some (.int)) [.int (nI k)] (w) (fun x w' => x = nI (rank k) ∧ w' = w) := by
  refine con_of (by decide +kernel) (Nat.le_of_ble_eq_true rfl) [(0, _)] rfl (fun K h => ?_)
  refine j_iload_n h (q := 1) 0 dX2_rankOf_0 rfl rfl ?_
  refine j_bipush h (q := 3) (13) dX2_rankOf_1 rfl (by decide) ?_
  refine j_irem h (q := 4) dX2_rankOf_3 rfl (by decide) ?_
  refine j_iret h rfl dX2_rankOf_4 ?_
  exact ⟨_, rfl, rank_i hk, rfl⟩

set_option maxRecDepth 100000 in
set_option maxHeartbeats 4000000 in
theorem c_X2_isRed (g : jG) (w : jW) {k : Nat} (hk : k < 104)  : ConI g 0 yX2_isRed cX2_isRed 1 (some (.boolean)) [.int (nI k)] (w) (fun x w' => x = b2i (red k) ∧ w' = w) := by
  refine con_of (by decide +kernel) (Nat.le_of_ble_eq_true rfl) [(0, _)] rfl (fun K h => ?_)
  refine j_iload_n h (q := 1) 0 dX2_isRed_0 rfl rfl ?_
  refine j_bipush h (q := 3) (52) dX2_isRed_1 rfl (by decide) ?_
  refine j_irem h (q := 4) dX2_isRed_3 rfl (by decide) ?_
  refine j_bipush h (q := 6) (26) dX2_isRed_4 rfl (by decide) ?_
  refine j_icmp_lt h (tgt := 13) (q := 9) dX2_isRed_6 rfl (by decide) (fun c_6 => ?_) (fun c_6 => ?_)
  · refine j_iconst h (q := 14) (0) dX2_isRed_13 rfl (by decide) ?_
    refine j_zret h rfl (by first | rfl | decide) dX2_isRed_14 ?_
    rw [mod52_i hk] at c_6
    simp only [i32_lt, i32_nI, i32_lit] at c_6
    first | exact ⟨_, rfl, b2i_dt (by omega), rfl⟩ | exact ⟨_, rfl, b2i_df (by omega), rfl⟩
  · refine j_iconst h (q := 10) (1) dX2_isRed_9 rfl (by decide) ?_
    refine j_goto h (tgt := 14) dX2_isRed_10 (by decide) ?_
    refine j_zret h rfl (by first | rfl | decide) dX2_isRed_14 ?_
    rw [mod52_i hk] at c_6
    simp only [i32_lt, i32_nI, i32_lit] at c_6
    first | exact ⟨_, rfl, b2i_dt (by omega), rfl⟩ | exact ⟨_, rfl, b2i_df (by omega), rfl⟩

set_option maxRecDepth 100000 in
set_option maxHeartbeats 4000000 in
theorem c_X2_fitsAces (g : jG) (w : jW) {k : Nat} (hk : k < 104) {o : Option Nat} (ho : oC o)  : ConI g 1 yX2_fitsAces cX2_fitsAces 2 (some (.boolean)) [.int (nI k), .int (ov o)] (w) (fun x w' => x = b2i (fA k o) ∧ w' = w) := by
  refine con_of (by decide +kernel) (Nat.le_of_ble_eq_true rfl) [(0, _), (1, _)] rfl (fun K h => ?_)
  rcases o with _ | t
  · refine j_iload_n h (q := 1) 1 dX2_fitsAces_0 rfl rfl ?_
    refine j_bipush h (q := 3) (-6) dX2_fitsAces_1 rfl (by decide) ?_
    refine j_icmp_ne h (tgt := 19) (q := 6) dX2_fitsAces_3 rfl (by decide) (fun c_3 => ?_) (fun c_3 => ?_)
    · exact absurd rfl c_3
    refine j_iload_n h (q := 7) 0 dX2_fitsAces_6 rfl rfl ?_
    refine j_cS h (q := 10) mo_X2_rankOf mS_X2_rankOf mL_X2_229 (c_X2_rankOf g _ hk) (by decide) rfl rfl (Nat.le_of_ble_eq_true rfl) dX2_fitsAces_7 rfl ?_
    rintro _ w7 ⟨x7, rfl, e⟩
    obtain ⟨rfl, rfl⟩ := e
    refine j_if_ne h (tgt := 17) (q := 13) dX2_fitsAces_10 rfl (by decide) (fun c_10 => ?_) (fun c_10 => ?_)
    · refine j_iconst h (q := 18) (0) dX2_fitsAces_17 rfl (by decide) ?_
      refine j_zret h rfl (by first | rfl | decide) dX2_fitsAces_18 ?_
      first | exact ⟨_, rfl, b2i_t (by simp_all [fA, fH, fW, rankI_0, rankI_s, rankI_p, suitI_eq]), rfl⟩ | exact ⟨_, rfl, b2i_f (by simp_all [fA, fH, fW, rankI_0, rankI_s, rankI_p, suitI_eq]), rfl⟩
    · refine j_iconst h (q := 14) (1) dX2_fitsAces_13 rfl (by decide) ?_
      refine j_goto h (tgt := 18) dX2_fitsAces_14 (by decide) ?_
      refine j_zret h rfl (by first | rfl | decide) dX2_fitsAces_18 ?_
      first | exact ⟨_, rfl, b2i_t (by simp_all [fA, fH, fW, rankI_0, rankI_s, rankI_p, suitI_eq]), rfl⟩ | exact ⟨_, rfl, b2i_f (by simp_all [fA, fH, fW, rankI_0, rankI_s, rankI_p, suitI_eq]), rfl⟩
  · have ht : t < 104 := ho t rfl
    refine j_iload_n h (q := 1) 1 dX2_fitsAces_0 rfl rfl ?_
    refine j_bipush h (q := 3) (-6) dX2_fitsAces_1 rfl (by decide) ?_
    refine j_icmp_ne h (tgt := 19) (q := 6) dX2_fitsAces_3 rfl (by decide) (fun c_3 => ?_) (fun c_3 => ?_)
    rotate_left
    · exact absurd c_3 (ov_ne ht)
    refine j_iload_n h (q := 20) 0 dX2_fitsAces_19 rfl rfl ?_
    refine j_cS h (q := 23) mo_X2_suitOf mS_X2_suitOf mL_X2_232 (c_X2_suitOf g _ hk) (by decide) rfl rfl (Nat.le_of_ble_eq_true rfl) dX2_fitsAces_20 rfl ?_
    rintro _ w20 ⟨x20, rfl, e⟩
    obtain ⟨rfl, rfl⟩ := e
    refine j_iload_n h (q := 24) 1 dX2_fitsAces_23 rfl rfl ?_
    refine j_cS h (q := 27) mo_X2_suitOf mS_X2_suitOf mL_X2_232 (c_X2_suitOf g _ ht) (by decide) rfl rfl (Nat.le_of_ble_eq_true rfl) dX2_fitsAces_24 rfl ?_
    rintro _ w24 ⟨x24, rfl, e⟩
    obtain ⟨rfl, rfl⟩ := e
    refine j_icmp_ne h (tgt := 47) (q := 30) dX2_fitsAces_27 rfl (by decide) (fun c_27 => ?_) (fun c_27 => ?_)
    · refine j_iconst h (q := 48) (0) dX2_fitsAces_47 rfl (by decide) ?_
      refine j_zret h rfl (by first | rfl | decide) dX2_fitsAces_48 ?_
      first | exact ⟨_, rfl, b2i_t (by simp_all [fA, fH, fW, rankI_0, rankI_s, rankI_p, suitI_eq]), rfl⟩ | exact ⟨_, rfl, b2i_f (by simp_all [fA, fH, fW, rankI_0, rankI_s, rankI_p, suitI_eq]), rfl⟩
    · refine j_iload_n h (q := 31) 0 dX2_fitsAces_30 rfl rfl ?_
      refine j_cS h (q := 34) mo_X2_rankOf mS_X2_rankOf mL_X2_229 (c_X2_rankOf g _ hk) (by decide) rfl rfl (Nat.le_of_ble_eq_true rfl) dX2_fitsAces_31 rfl ?_
      rintro _ w31 ⟨x31, rfl, e⟩
      obtain ⟨rfl, rfl⟩ := e
      refine j_iload_n h (q := 35) 1 dX2_fitsAces_34 rfl rfl ?_
      refine j_cS h (q := 38) mo_X2_rankOf mS_X2_rankOf mL_X2_229 (c_X2_rankOf g _ ht) (by decide) rfl rfl (Nat.le_of_ble_eq_true rfl) dX2_fitsAces_35 rfl ?_
      rintro _ w35 ⟨x35, rfl, e⟩
      obtain ⟨rfl, rfl⟩ := e
      refine j_iconst h (q := 39) (1) dX2_fitsAces_38 rfl (by decide) ?_
      refine j_iadd h (q := 40) dX2_fitsAces_39 rfl ?_
      refine j_icmp_ne h (tgt := 47) (q := 43) dX2_fitsAces_40 rfl (by decide) (fun c_40 => ?_) (fun c_40 => ?_)
      · refine j_iconst h (q := 48) (0) dX2_fitsAces_47 rfl (by decide) ?_
        refine j_zret h rfl (by first | rfl | decide) dX2_fitsAces_48 ?_
        first | exact ⟨_, rfl, b2i_t (by simp_all [fA, fH, fW, rankI_0, rankI_s, rankI_p, suitI_eq]), rfl⟩ | exact ⟨_, rfl, b2i_f (by simp_all [fA, fH, fW, rankI_0, rankI_s, rankI_p, suitI_eq]), rfl⟩
      · refine j_iconst h (q := 44) (1) dX2_fitsAces_43 rfl (by decide) ?_
        refine j_goto h (tgt := 48) dX2_fitsAces_44 (by decide) ?_
        refine j_zret h rfl (by first | rfl | decide) dX2_fitsAces_48 ?_
        first | exact ⟨_, rfl, b2i_t (by simp_all [fA, fH, fW, rankI_0, rankI_s, rankI_p, suitI_eq]), rfl⟩ | exact ⟨_, rfl, b2i_f (by simp_all [fA, fH, fW, rankI_0, rankI_s, rankI_p, suitI_eq]), rfl⟩

set_option maxRecDepth 100000 in
set_option maxHeartbeats 4000000 in
theorem c_X2_fitsHouse (g : jG) (w : jW) {k : Nat} (hk : k < 104) {o : Option Nat} (ho : oC o)  : ConI g 1 yX2_fitsHouse cX2_fitsHouse 2 (some (.boolean)) [.int (nI k), .int (ov o)] (w) (fun x w' => x = b2i (fH k o) ∧ w' = w) := by
  refine con_of (by decide +kernel) (Nat.le_of_ble_eq_true rfl) [(0, _), (1, _)] rfl (fun K h => ?_)
  rcases o with _ | t
  · refine j_iload_n h (q := 1) 1 dX2_fitsHouse_0 rfl rfl ?_
    refine j_bipush h (q := 3) (-6) dX2_fitsHouse_1 rfl (by decide) ?_
    refine j_icmp_eq h (tgt := 30) (q := 6) dX2_fitsHouse_3 rfl (by decide) (fun c_3 => ?_) (fun c_3 => ?_)
    rotate_left
    · exact absurd rfl c_3
    refine j_iconst h (q := 31) (1) dX2_fitsHouse_30 rfl (by decide) ?_
    refine j_goto h (tgt := 35) dX2_fitsHouse_31 (by decide) ?_
    refine j_zret h rfl (by first | rfl | decide) dX2_fitsHouse_35 ?_
    first | exact ⟨_, rfl, b2i_t (by simp_all [fA, fH, fW, rankI_0, rankI_s, rankI_p, suitI_eq]), rfl⟩ | exact ⟨_, rfl, b2i_f (by simp_all [fA, fH, fW, rankI_0, rankI_s, rankI_p, suitI_eq]), rfl⟩
  · have ht : t < 104 := ho t rfl
    refine j_iload_n h (q := 1) 1 dX2_fitsHouse_0 rfl rfl ?_
    refine j_bipush h (q := 3) (-6) dX2_fitsHouse_1 rfl (by decide) ?_
    refine j_icmp_eq h (tgt := 30) (q := 6) dX2_fitsHouse_3 rfl (by decide) (fun c_3 => ?_) (fun c_3 => ?_)
    · exact absurd c_3 (ov_ne ht)
    refine j_iload_n h (q := 7) 0 dX2_fitsHouse_6 rfl rfl ?_
    refine j_cS h (q := 10) mo_X2_isRed mS_X2_isRed mL_X2_235 (c_X2_isRed g _ hk) (by decide) rfl rfl (Nat.le_of_ble_eq_true rfl) dX2_fitsHouse_7 rfl ?_
    rintro _ w7 ⟨x7, rfl, e⟩
    obtain ⟨rfl, rfl⟩ := e
    refine j_iload_n h (q := 11) 1 dX2_fitsHouse_10 rfl rfl ?_
    refine j_cS h (q := 14) mo_X2_isRed mS_X2_isRed mL_X2_235 (c_X2_isRed g _ ht) (by decide) rfl rfl (Nat.le_of_ble_eq_true rfl) dX2_fitsHouse_11 rfl ?_
    rintro _ w11 ⟨x11, rfl, e⟩
    obtain ⟨rfl, rfl⟩ := e
    refine j_icmp_eq h (tgt := 34) (q := 17) dX2_fitsHouse_14 rfl (by decide) (fun c_14 => ?_) (fun c_14 => ?_)
    · refine j_iconst h (q := 35) (0) dX2_fitsHouse_34 rfl (by decide) ?_
      refine j_zret h rfl (by first | rfl | decide) dX2_fitsHouse_35 ?_
      rw [b2i_inj] at c_14
      first | exact ⟨_, rfl, b2i_t (by simp_all [fA, fH, fW, rankI_0, rankI_s, rankI_p, suitI_eq]), rfl⟩ | exact ⟨_, rfl, b2i_f (by simp_all [fA, fH, fW, rankI_0, rankI_s, rankI_p, suitI_eq]), rfl⟩
    · refine j_iload_n h (q := 18) 0 dX2_fitsHouse_17 rfl rfl ?_
      refine j_cS h (q := 21) mo_X2_rankOf mS_X2_rankOf mL_X2_229 (c_X2_rankOf g _ hk) (by decide) rfl rfl (Nat.le_of_ble_eq_true rfl) dX2_fitsHouse_18 rfl ?_
      rintro _ w18 ⟨x18, rfl, e⟩
      obtain ⟨rfl, rfl⟩ := e
      refine j_iload_n h (q := 22) 1 dX2_fitsHouse_21 rfl rfl ?_
      refine j_cS h (q := 25) mo_X2_rankOf mS_X2_rankOf mL_X2_229 (c_X2_rankOf g _ ht) (by decide) rfl rfl (Nat.le_of_ble_eq_true rfl) dX2_fitsHouse_22 rfl ?_
      rintro _ w22 ⟨x22, rfl, e⟩
      obtain ⟨rfl, rfl⟩ := e
      refine j_iconst h (q := 26) (1) dX2_fitsHouse_25 rfl (by decide) ?_
      refine j_isub h (q := 27) dX2_fitsHouse_26 rfl ?_
      refine j_icmp_ne h (tgt := 34) (q := 30) dX2_fitsHouse_27 rfl (by decide) (fun c_27 => ?_) (fun c_27 => ?_)
      · refine j_iconst h (q := 35) (0) dX2_fitsHouse_34 rfl (by decide) ?_
        refine j_zret h rfl (by first | rfl | decide) dX2_fitsHouse_35 ?_
        rw [b2i_inj] at c_14
        first | exact ⟨_, rfl, b2i_t (by simp_all [fA, fH, fW, rankI_0, rankI_s, rankI_p, suitI_eq]), rfl⟩ | exact ⟨_, rfl, b2i_f (by simp_all [fA, fH, fW, rankI_0, rankI_s, rankI_p, suitI_eq]), rfl⟩
      · refine j_iconst h (q := 31) (1) dX2_fitsHouse_30 rfl (by decide) ?_
        refine j_goto h (tgt := 35) dX2_fitsHouse_31 (by decide) ?_
        refine j_zret h rfl (by first | rfl | decide) dX2_fitsHouse_35 ?_
        rw [b2i_inj] at c_14
        first | exact ⟨_, rfl, b2i_t (by simp_all [fA, fH, fW, rankI_0, rankI_s, rankI_p, suitI_eq]), rfl⟩ | exact ⟨_, rfl, b2i_f (by simp_all [fA, fH, fW, rankI_0, rankI_s, rankI_p, suitI_eq]), rfl⟩

set_option maxRecDepth 100000 in
set_option maxHeartbeats 4000000 in
theorem c_X2_fitsWaste (g : jG) (w : jW) {k : Nat} (hk : k < 104) {o : Option Nat} (ho : oC o)  : ConI g 1 yX2_fitsWaste cX2_fitsWaste 2 (some (.boolean)) [.int (nI k), .int (ov o)] (w) (fun x w' => x = b2i (fW k o) ∧ w' = w) := by
  refine con_of (by decide +kernel) (Nat.le_of_ble_eq_true rfl) [(0, _), (1, _)] rfl (fun K h => ?_)
  rcases o with _ | t
  · refine j_iload_n h (q := 1) 1 dX2_fitsWaste_0 rfl rfl ?_
    refine j_bipush h (q := 3) (-6) dX2_fitsWaste_1 rfl (by decide) ?_
    refine j_icmp_eq h (tgt := 37) (q := 6) dX2_fitsWaste_3 rfl (by decide) (fun c_3 => ?_) (fun c_3 => ?_)
    rotate_left
    · exact absurd rfl c_3
    refine j_iconst h (q := 38) (0) dX2_fitsWaste_37 rfl (by decide) ?_
    refine j_zret h rfl (by first | rfl | decide) dX2_fitsWaste_38 ?_
    first | exact ⟨_, rfl, b2i_t (by simp_all [fA, fH, fW, rankI_0, rankI_s, rankI_p, suitI_eq]), rfl⟩ | exact ⟨_, rfl, b2i_f (by simp_all [fA, fH, fW, rankI_0, rankI_s, rankI_p, suitI_eq]), rfl⟩
  · have ht : t < 104 := ho t rfl
    refine j_iload_n h (q := 1) 1 dX2_fitsWaste_0 rfl rfl ?_
    refine j_bipush h (q := 3) (-6) dX2_fitsWaste_1 rfl (by decide) ?_
    refine j_icmp_eq h (tgt := 37) (q := 6) dX2_fitsWaste_3 rfl (by decide) (fun c_3 => ?_) (fun c_3 => ?_)
    · exact absurd c_3 (ov_ne ht)
    refine j_iload_n h (q := 7) 0 dX2_fitsWaste_6 rfl rfl ?_
    refine j_cS h (q := 10) mo_X2_suitOf mS_X2_suitOf mL_X2_232 (c_X2_suitOf g _ hk) (by decide) rfl rfl (Nat.le_of_ble_eq_true rfl) dX2_fitsWaste_7 rfl ?_
    rintro _ w7 ⟨x7, rfl, e⟩
    obtain ⟨rfl, rfl⟩ := e
    refine j_iload_n h (q := 11) 1 dX2_fitsWaste_10 rfl rfl ?_
    refine j_cS h (q := 14) mo_X2_suitOf mS_X2_suitOf mL_X2_232 (c_X2_suitOf g _ ht) (by decide) rfl rfl (Nat.le_of_ble_eq_true rfl) dX2_fitsWaste_11 rfl ?_
    rintro _ w11 ⟨x11, rfl, e⟩
    obtain ⟨rfl, rfl⟩ := e
    refine j_icmp_ne h (tgt := 37) (q := 17) dX2_fitsWaste_14 rfl (by decide) (fun c_14 => ?_) (fun c_14 => ?_)
    · refine j_iconst h (q := 38) (0) dX2_fitsWaste_37 rfl (by decide) ?_
      refine j_zret h rfl (by first | rfl | decide) dX2_fitsWaste_38 ?_
      try rw [abs_ranks] at c_30
      first | exact ⟨_, rfl, b2i_t (by simp_all [fA, fH, fW, rankI_0, rankI_s, rankI_p, suitI_eq]), rfl⟩ | exact ⟨_, rfl, b2i_f (by simp_all [fA, fH, fW, rankI_0, rankI_s, rankI_p, suitI_eq]), rfl⟩
    · refine j_iload_n h (q := 18) 0 dX2_fitsWaste_17 rfl rfl ?_
      refine j_cS h (q := 21) mo_X2_rankOf mS_X2_rankOf mL_X2_229 (c_X2_rankOf g _ hk) (by decide) rfl rfl (Nat.le_of_ble_eq_true rfl) dX2_fitsWaste_18 rfl ?_
      rintro _ w18 ⟨x18, rfl, e⟩
      obtain ⟨rfl, rfl⟩ := e
      refine j_iload_n h (q := 22) 1 dX2_fitsWaste_21 rfl rfl ?_
      refine j_cS h (q := 25) mo_X2_rankOf mS_X2_rankOf mL_X2_229 (c_X2_rankOf g _ ht) (by decide) rfl rfl (Nat.le_of_ble_eq_true rfl) dX2_fitsWaste_22 rfl ?_
      rintro _ w22 ⟨x22, rfl, e⟩
      obtain ⟨rfl, rfl⟩ := e
      refine j_isub h (q := 26) dX2_fitsWaste_25 rfl ?_
      refine j_cS h (q := 29) mo_J9_abs_0f7a4 mS_J9_abs_0f7a4 mL_X2_238 (c_J9_abs_0f7a4 g _ _) (by decide) rfl rfl (Nat.le_of_ble_eq_true rfl) dX2_fitsWaste_26 rfl ?_
      rintro _ w26 ⟨x26, rfl, e⟩
      obtain ⟨rfl, rfl⟩ := e
      refine j_iconst h (q := 30) (1) dX2_fitsWaste_29 rfl (by decide) ?_
      refine j_icmp_ne h (tgt := 37) (q := 33) dX2_fitsWaste_30 rfl (by decide) (fun c_30 => ?_) (fun c_30 => ?_)
      · refine j_iconst h (q := 38) (0) dX2_fitsWaste_37 rfl (by decide) ?_
        refine j_zret h rfl (by first | rfl | decide) dX2_fitsWaste_38 ?_
        try rw [abs_ranks] at c_30
        first | exact ⟨_, rfl, b2i_t (by simp_all [fA, fH, fW, rankI_0, rankI_s, rankI_p, suitI_eq]), rfl⟩ | exact ⟨_, rfl, b2i_f (by simp_all [fA, fH, fW, rankI_0, rankI_s, rankI_p, suitI_eq]), rfl⟩
      · refine j_iconst h (q := 34) (1) dX2_fitsWaste_33 rfl (by decide) ?_
        refine j_goto h (tgt := 38) dX2_fitsWaste_34 (by decide) ?_
        refine j_zret h rfl (by first | rfl | decide) dX2_fitsWaste_38 ?_
        try rw [abs_ranks] at c_30
        first | exact ⟨_, rfl, b2i_t (by simp_all [fA, fH, fW, rankI_0, rankI_s, rankI_p, suitI_eq]), rfl⟩ | exact ⟨_, rfl, b2i_f (by simp_all [fA, fH, fW, rankI_0, rankI_s, rankI_p, suitI_eq]), rfl⟩
