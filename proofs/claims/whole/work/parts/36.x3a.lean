theorem in_21 (a : Int32) : (¬ a < 0 ∧ ¬ 21 < a) ↔ inn 22 a := by
  have e1 : (21 : Int32).toInt = 21 := by decide
  have e2 : (nI 22).toInt = 22 := by decide
  rw [inn, i32_lt (21 : Int32) a, i32_lt a (nI 22), e1, e2]
  constructor <;> rintro ⟨x, y⟩ <;> exact ⟨x, by omega⟩

set_option maxRecDepth 100000 in
set_option maxHeartbeats 4000000 in
theorem m_within (g : jG) (w : jW) (v lo hi : Int32)  : ConI g 0 yX3_within cX3_within 3 (some (.boolean)) [.int v, .int lo, .int hi] (w) (fun x w' => x = b2i (decide (¬ v < lo ∧ ¬ hi < v)) ∧ w' = w) := by
  refine con_of (by decide +kernel) (Nat.le_of_ble_eq_true rfl) [(0, _), (1, _), (2, _)] rfl (fun K h => ?_)
  refine j_iload_n h (q := 1) 0 dX3_within_0 rfl rfl ?_
  refine j_iload_n h (q := 2) 1 dX3_within_1 rfl rfl ?_
  refine j_icmp_lt h (tgt := 14) (q := 5) dX3_within_2 rfl (by decide) (fun c_2 => ?_) (fun c_2 => ?_)
  · refine j_iconst h (q := 15) (0) dX3_within_14 rfl (by decide) ?_
    refine j_zret h rfl (by first | rfl | exact b2i_n _) dX3_within_15 ?_
    first | exact ⟨_, rfl, b2i_dt ⟨c_2, c_7⟩, rfl⟩ | exact ⟨_, rfl, b2i_df (fun z => z.1 c_2), rfl⟩ | exact ⟨_, rfl, b2i_df (fun z => z.2 c_7), rfl⟩
  · refine j_iload_n h (q := 6) 0 dX3_within_5 rfl rfl ?_
    refine j_iload_n h (q := 7) 2 dX3_within_6 rfl rfl ?_
    refine j_icmp_gt h (tgt := 14) (q := 10) dX3_within_7 rfl (by decide) (fun c_7 => ?_) (fun c_7 => ?_)
    · refine j_iconst h (q := 15) (0) dX3_within_14 rfl (by decide) ?_
      refine j_zret h rfl (by first | rfl | exact b2i_n _) dX3_within_15 ?_
      first | exact ⟨_, rfl, b2i_dt ⟨c_2, c_7⟩, rfl⟩ | exact ⟨_, rfl, b2i_df (fun z => z.1 c_2), rfl⟩ | exact ⟨_, rfl, b2i_df (fun z => z.2 c_7), rfl⟩
    · refine j_iconst h (q := 11) (1) dX3_within_10 rfl (by decide) ?_
      refine j_goto h (tgt := 15) dX3_within_11 (by decide) ?_
      refine j_zret h rfl (by first | rfl | exact b2i_n _) dX3_within_15 ?_
      first | exact ⟨_, rfl, b2i_dt ⟨c_2, c_7⟩, rfl⟩ | exact ⟨_, rfl, b2i_df (fun z => z.1 c_2), rfl⟩ | exact ⟨_, rfl, b2i_df (fun z => z.2 c_7), rfl⟩

set_option maxRecDepth 100000 in
set_option maxHeartbeats 4000000 in
theorem m_isPile (g : jG) (w : jW) (a : Int32)  : ConI g 1 yX3_isPile cX3_isPile 1 (some (.boolean)) [.int a] (w) (fun x w' => x = b2i (decide (inn 22 a)) ∧ w' = w) := by
  refine con_of (by decide +kernel) (Nat.le_of_ble_eq_true rfl) [(0, _)] rfl (fun K h => ?_)
  refine j_iload_n h (q := 1) 0 dX3_isPile_0 rfl rfl ?_
  refine j_iconst h (q := 2) (0) dX3_isPile_1 rfl (by decide) ?_
  refine j_bipush h (q := 4) (21) dX3_isPile_2 rfl (by decide) ?_
  refine j_cS h (q := 7) mo_X3_within mS_X3_within mL_X3_64 (m_within g _ _ _ _) (by decide) rfl rfl (Nat.le_of_ble_eq_true rfl) dX3_isPile_4 rfl ?_
  rintro _ w4 ⟨x4, rfl, e⟩
  obtain ⟨rfl, rfl⟩ := e
  refine j_zret h rfl (b2i_n _) dX3_isPile_7 ?_
  exact ⟨_, rfl, by congr 1; exact decide_eq_decide.mpr (in_21 a), rfl⟩

set_option maxRecDepth 100000 in
set_option maxHeartbeats 4000000 in
theorem m_isHouse (g : jG) (w : jW) {a : Int32} {p : Nat} (ha : a = nI p) (hp : p < 1000)  : ConI g 1 yX3_isHouse cX3_isHouse 1 (some (.boolean)) [.int a] (w) (fun x w' => x = b2i (isH p) ∧ w' = w) := by
  refine con_of (by decide +kernel) (Nat.le_of_ble_eq_true rfl) [(0, _)] rfl (fun K h => ?_)
  subst ha
  refine j_iload_n h (q := 1) 0 dX3_isHouse_0 rfl rfl ?_
  refine j_bipush h (q := 3) (6) dX3_isHouse_1 rfl (by decide) ?_
  refine j_bipush h (q := 5) (13) dX3_isHouse_3 rfl (by decide) ?_
  refine j_cS h (q := 8) mo_X3_within mS_X3_within mL_X3_64 (m_within g _ _ _ _) (by decide) rfl rfl (Nat.le_of_ble_eq_true rfl) dX3_isHouse_5 rfl ?_
  rintro _ w5 ⟨x5, rfl, e⟩
  obtain ⟨rfl, rfl⟩ := e
  refine j_zret h rfl (b2i_n _) dX3_isHouse_8 ?_
  refine ⟨_, rfl, ?_, rfl⟩
  unfold isH
  congr 1
  rw [decide_eq_decide, i_ltL (by omega) (by decide), i_Llt (by omega) (by decide)]
  omega

set_option maxRecDepth 100000 in
set_option maxHeartbeats 4000000 in
theorem m_suitOf (g : jG) (w : jW) {k : Nat} (hk : k < 104)  : ConI g 0 yX3_suitOf cX3_suitOf 1 (some (.int)) [.int (nI k)] (w) (fun x w' => x = nI (suit k) ∧ w' = w) := by
  refine con_of (by decide +kernel) (Nat.le_of_ble_eq_true rfl) [(0, _)] rfl (fun K h => ?_)
  refine j_iload_n h (q := 1) 0 dX3_suitOf_0 rfl rfl ?_
  refine j_bipush h (q := 3) (52) dX3_suitOf_1 rfl (by decide) ?_
  refine j_irem h (q := 4) dX3_suitOf_3 rfl (by decide) ?_
  refine j_bipush h (q := 6) (13) dX3_suitOf_4 rfl (by decide) ?_
  refine j_idiv h (q := 7) dX3_suitOf_6 rfl (by decide) ?_
  refine j_iret h rfl dX3_suitOf_7 ?_
  exact ⟨_, rfl, suit_i hk, rfl⟩

set_option maxRecDepth 100000 in
set_option maxHeartbeats 4000000 in
theorem m_rankOf (g : jG) (w : jW) {k : Nat} (hk : k < 104)  : ConI g 0 yX3_rankOf cX3_rankOf 1 (some (.int)) [.int (nI k)] (w) (fun x w' => x = nI (rank k) ∧ w' = w) := by
  refine con_of (by decide +kernel) (Nat.le_of_ble_eq_true rfl) [(0, _)] rfl (fun K h => ?_)
  refine j_iload_n h (q := 1) 0 dX3_rankOf_0 rfl rfl ?_
  refine j_bipush h (q := 3) (13) dX3_rankOf_1 rfl (by decide) ?_
  refine j_irem h (q := 4) dX3_rankOf_3 rfl (by decide) ?_
  refine j_iret h rfl dX3_rankOf_4 ?_
  exact ⟨_, rfl, rank_i hk, rfl⟩

set_option maxRecDepth 100000 in
set_option maxHeartbeats 4000000 in
theorem m_isRed (g : jG) (w : jW) {k : Nat} (hk : k < 104)  : ConI g 1 yX3_isRed cX3_isRed 1 (some (.boolean)) [.int (nI k)] (w) (fun x w' => x = b2i (red k) ∧ w' = w) := by
  refine con_of (by decide +kernel) (Nat.le_of_ble_eq_true rfl) [(0, _)] rfl (fun K h => ?_)
  refine j_iload_n h (q := 1) 0 dX3_isRed_0 rfl rfl ?_
  refine j_cS h (q := 4) mo_X3_suitOf mS_X3_suitOf mL_X3_72 (m_suitOf g _ hk) (by decide) rfl rfl (Nat.le_of_ble_eq_true rfl) dX3_isRed_1 rfl ?_
  rintro _ w1 ⟨x1, rfl, e⟩
  obtain ⟨rfl, rfl⟩ := e
  refine j_iconst h (q := 5) (1) dX3_isRed_4 rfl (by decide) ?_
  refine j_icmp_le h (tgt := 12) (q := 8) dX3_isRed_5 rfl (by decide) (fun c_5 => ?_) (fun c_5 => ?_)
  · refine j_iconst h (q := 13) (0) dX3_isRed_12 rfl (by decide) ?_
    refine j_zret h rfl (by first | rfl | decide) dX3_isRed_13 ?_
    have hl := suit_lt k
    rw [i_leL (by omega) (by decide)] at c_5
    unfold red suit at *
    first | exact ⟨_, rfl, b2i_dt (by omega), rfl⟩ | exact ⟨_, rfl, b2i_df (by omega), rfl⟩
  · refine j_iconst h (q := 9) (1) dX3_isRed_8 rfl (by decide) ?_
    refine j_goto h (tgt := 13) dX3_isRed_9 (by decide) ?_
    refine j_zret h rfl (by first | rfl | decide) dX3_isRed_13 ?_
    have hl := suit_lt k
    rw [i_leL (by omega) (by decide)] at c_5
    unfold red suit at *
    first | exact ⟨_, rfl, b2i_dt (by omega), rfl⟩ | exact ⟨_, rfl, b2i_df (by omega), rfl⟩

theorem isH_t {p : Nat} (h : isH p = true) : 6 ≤ p ∧ p < 14 := by simp only [isH, decide_eq_true_eq] at h; exact h
def frozG (γ : Gm) (p : Nat) : Bool := isH p && decide (0 < qz γ (p - 6))

set_option maxRecDepth 100000 in
set_option maxHeartbeats 4000000 in
theorem m_isFrozen (g : jG) (w : jW) (M : Ms) (γ : Gm) (R : MR (Mst M) γ) (G : GI γ) (L : LK M γ) {a : Int32} {p : Nat} (ha : a = nI p) (hp : p < 22)  : ConI g 2 yX3_isFrozen cX3_isFrozen 2 (some (.boolean)) [.ref (gr g 67), .int a] (mw g w M) (fun x w' => x = b2i (frozG γ p) ∧ w' = mw g w M) := by
  refine con_of (by decide +kernel) (Nat.le_of_ble_eq_true rfl) [(0, _), (1, _)] rfl (fun K h => ?_)
  subst ha
  refine j_iload_n h (q := 1) 1 dX3_isFrozen_0 rfl rfl ?_
  refine j_cS h (q := 4) mo_X3_isHouse mS_X3_isHouse mL_X3_68 (m_isHouse g _ rfl (by omega)) (by decide) rfl rfl (Nat.le_of_ble_eq_true rfl) dX3_isFrozen_1 rfl ?_
  rintro _ w1 ⟨x1, rfl, e⟩
  obtain ⟨rfl, rfl⟩ := e
  refine j_if_eq h (tgt := 27) (q := 7) dX3_isFrozen_4 rfl (by decide) (fun c_4 => ?_) (fun c_4 => ?_)
  · rw [b2i_0] at c_4
    refine j_iconst h (q := 28) (0) dX3_isFrozen_27 rfl (by decide) ?_
    refine j_zret h rfl (by first | rfl | decide) dX3_isFrozen_28 ?_
    unfold frozG
    first
      | exact ⟨_, rfl, b2i_f (by rw [c_4]; rfl), rfl⟩
      | exact ⟨_, rfl, b2i_t (by rw [c_4, decide_eq_true (by rw [i_leL (by omega) (by decide)] at c_20; omega)]; rfl), rfl⟩
      | exact ⟨_, rfl, b2i_f (by rw [decide_eq_false (by rw [i_leL (by omega) (by decide)] at c_20; omega), Bool.and_false]), rfl⟩
  · rw [b2i_1] at c_4
    refine j_aload_n h (q := 8) 0 dX3_isFrozen_7 rfl rfl ?_
    refine j_get h (q := 11) inX3 (C := RX3) (T := TX3) (N := 17) (ci := 3) rfl 0 (by decide) mF_X3_7 (by decide) (mw_0 _ _ _) rfl dX3_isFrozen_8 rfl ?_
    refine j_sipush h (q := 14) (212) dX3_isFrozen_11 rfl (by decide) ?_
    refine j_iload_n h (q := 15) 1 dX3_isFrozen_14 rfl rfl ?_
    refine j_iadd h (q := 16) dX3_isFrozen_15 rfl ?_
    refine j_bipush h (q := 18) (6) dX3_isFrozen_16 rfl (by decide) ?_
    refine j_isub h (q := 19) dX3_isFrozen_18 rfl ?_
    have hh := isH_t c_4
    have hz := G.2.2.2.1 (p - 6) (by omega)
    refine j_ldn h (q := 20) (212 + (p - 6)) (by decide) (mw_st _ _ _) (by rw [i_Ladd, i_subL (by omega)]; congr 1; omega) (by omega) (by decide) dX3_isFrozen_19 rfl ?_
    rw [M_fr R (h := p - 6) (by omega)]
    refine j_if_le h (tgt := 27) (q := 23) dX3_isFrozen_20 rfl (by decide) (fun c_20 => ?_) (fun c_20 => ?_)
    · refine j_iconst h (q := 28) (0) dX3_isFrozen_27 rfl (by decide) ?_
      refine j_zret h rfl (by first | rfl | decide) dX3_isFrozen_28 ?_
      unfold frozG
      first
        | exact ⟨_, rfl, b2i_f (by rw [c_4]; rfl), rfl⟩
        | exact ⟨_, rfl, b2i_t (by rw [c_4, decide_eq_true (by rw [i_leL (by omega) (by decide)] at c_20; omega)]; rfl), rfl⟩
        | exact ⟨_, rfl, b2i_f (by rw [decide_eq_false (by rw [i_leL (by omega) (by decide)] at c_20; omega), Bool.and_false]), rfl⟩
    · refine j_iconst h (q := 24) (1) dX3_isFrozen_23 rfl (by decide) ?_
      refine j_goto h (tgt := 28) dX3_isFrozen_24 (by decide) ?_
      refine j_zret h rfl (by first | rfl | decide) dX3_isFrozen_28 ?_
      unfold frozG
      first
        | exact ⟨_, rfl, b2i_f (by rw [c_4]; rfl), rfl⟩
        | exact ⟨_, rfl, b2i_t (by rw [c_4, decide_eq_true (by rw [i_leL (by omega) (by decide)] at c_20; omega)]; rfl), rfl⟩
        | exact ⟨_, rfl, b2i_f (by rw [decide_eq_false (by rw [i_leL (by omega) (by decide)] at c_20; omega), Bool.and_false]), rfl⟩

def leaveG (γ : Gm) (p : Nat) : Bool := p == qt γ || (p == 2 + qt γ || (isH p && !frozG γ p))

set_option maxRecDepth 100000 in
set_option maxHeartbeats 4000000 in
theorem m_canLeave (g : jG) (w : jW) (M : Ms) (γ : Gm) (R : MR (Mst M) γ) (G : GI γ) (L : LK M γ) {a : Int32} {p : Nat} (ha : a = nI p) (hp : p < 22)  : ConI g 3 yX3_canLeave cX3_canLeave 3 (some (.boolean)) [.ref (gr g 67), .int a] (mw g w M) (fun x w' => x = b2i (leaveG γ p) ∧ w' = mw g w M) := by
  refine con_of (by decide +kernel) (Nat.le_of_ble_eq_true rfl) [(0, _), (1, _)] rfl (fun K h => ?_)
  subst ha
  refine j_aload_n h (q := 1) 0 dX3_canLeave_0 rfl rfl ?_
  refine j_get h (q := 4) inX3 (C := RX3) (T := TX3) (N := 17) (ci := 3) rfl 0 (by decide) mF_X3_7 (by decide) (mw_0 _ _ _) rfl dX3_canLeave_1 rfl ?_
  refine j_sipush h (q := 7) (220) dX3_canLeave_4 rfl (by decide) ?_
  refine j_ldn h (q := 8) (220) (by decide) (mw_st _ _ _) rfl (by decide) (by decide) dX3_canLeave_7 rfl ?_
  rw [M_sd R]
  have e2 := G_t G
  refine j_istore_n h (q := 9) (loc' := [(2, _), (0, _), (1, _)]) dX3_canLeave_8 rfl (by decide) rfl ?_
  refine j_iload_n h (q := 10) 2 dX3_canLeave_9 rfl rfl ?_
  refine j_iconst h (q := 11) (0) dX3_canLeave_10 rfl (by decide) ?_
  refine j_iload_n h (q := 12) 0 dX3_canLeave_11 rfl rfl ?_
  refine j_iadd h (q := 13) dX3_canLeave_12 rfl ?_
  refine j_icmp_eq h (tgt := 38) (q := 16) dX3_canLeave_13 rfl (by decide) (fun c_13 => ?_) (fun c_13 => ?_)
  · rw [i_Ladd, nI_eqS (by omega) (by omega)] at c_13
    refine j_iconst h (q := 39) (1) dX3_canLeave_38 rfl (by decide) ?_
    refine j_goto h (tgt := 43) dX3_canLeave_39 (by decide) ?_
    refine j_zret h rfl (by first | rfl | decide) dX3_canLeave_43 ?_
    unfold leaveG
    first
      | exact ⟨_, rfl, b2i_t (by rw [show (p == qt γ) = true by rw [beq_iff_eq]; omega]; rfl), rfl⟩
      | exact ⟨_, rfl, b2i_t (by rw [show (p == 2 + qt γ) = true by rw [beq_iff_eq]; omega]; simp), rfl⟩
      | exact ⟨_, rfl, b2i_t (by rw [c_27, c_35]; simp), rfl⟩
      | exact ⟨_, rfl, b2i_f (by rw [show (p == qt γ) = false by rw [beq_eq_false_iff_ne]; omega, show (p == 2 + qt γ) = false by rw [beq_eq_false_iff_ne]; omega, c_27]; rfl), rfl⟩
      | exact ⟨_, rfl, b2i_f (by rw [show (p == qt γ) = false by rw [beq_eq_false_iff_ne]; omega, show (p == 2 + qt γ) = false by rw [beq_eq_false_iff_ne]; omega, c_35]; simp), rfl⟩
  · rw [i_Ladd, nI_eqS (by omega) (by omega)] at c_13
    refine j_iload_n h (q := 17) 2 dX3_canLeave_16 rfl rfl ?_
    refine j_iconst h (q := 18) (2) dX3_canLeave_17 rfl (by decide) ?_
    refine j_iload_n h (q := 19) 0 dX3_canLeave_18 rfl rfl ?_
    refine j_iadd h (q := 20) dX3_canLeave_19 rfl ?_
    refine j_icmp_eq h (tgt := 38) (q := 23) dX3_canLeave_20 rfl (by decide) (fun c_20 => ?_) (fun c_20 => ?_)
    · rw [i_Ladd, nI_eqS (by omega) (by omega)] at c_20
      refine j_iconst h (q := 39) (1) dX3_canLeave_38 rfl (by decide) ?_
      refine j_goto h (tgt := 43) dX3_canLeave_39 (by decide) ?_
      refine j_zret h rfl (by first | rfl | decide) dX3_canLeave_43 ?_
      unfold leaveG
      first
        | exact ⟨_, rfl, b2i_t (by rw [show (p == qt γ) = true by rw [beq_iff_eq]; omega]; rfl), rfl⟩
        | exact ⟨_, rfl, b2i_t (by rw [show (p == 2 + qt γ) = true by rw [beq_iff_eq]; omega]; simp), rfl⟩
        | exact ⟨_, rfl, b2i_t (by rw [c_27, c_35]; simp), rfl⟩
        | exact ⟨_, rfl, b2i_f (by rw [show (p == qt γ) = false by rw [beq_eq_false_iff_ne]; omega, show (p == 2 + qt γ) = false by rw [beq_eq_false_iff_ne]; omega, c_27]; rfl), rfl⟩
        | exact ⟨_, rfl, b2i_f (by rw [show (p == qt γ) = false by rw [beq_eq_false_iff_ne]; omega, show (p == 2 + qt γ) = false by rw [beq_eq_false_iff_ne]; omega, c_35]; simp), rfl⟩
    · rw [i_Ladd, nI_eqS (by omega) (by omega)] at c_20
      refine j_iload_n h (q := 24) 2 dX3_canLeave_23 rfl rfl ?_
      refine j_cS h (q := 27) mo_X3_isHouse mS_X3_isHouse mL_X3_68 (m_isHouse g _ rfl (by omega)) (by decide) rfl rfl (Nat.le_of_ble_eq_true rfl) dX3_canLeave_24 rfl ?_
      rintro _ w24 ⟨x24, rfl, e⟩
      obtain ⟨rfl, rfl⟩ := e
      refine j_if_eq h (tgt := 42) (q := 30) dX3_canLeave_27 rfl (by decide) (fun c_27 => ?_) (fun c_27 => ?_)
      · rw [b2i_0] at c_27
        refine j_iconst h (q := 43) (0) dX3_canLeave_42 rfl (by decide) ?_
        refine j_zret h rfl (by first | rfl | decide) dX3_canLeave_43 ?_
        unfold leaveG
        first
          | exact ⟨_, rfl, b2i_t (by rw [show (p == qt γ) = true by rw [beq_iff_eq]; omega]; rfl), rfl⟩
          | exact ⟨_, rfl, b2i_t (by rw [show (p == 2 + qt γ) = true by rw [beq_iff_eq]; omega]; simp), rfl⟩
          | exact ⟨_, rfl, b2i_t (by rw [c_27, c_35]; simp), rfl⟩
          | exact ⟨_, rfl, b2i_f (by rw [show (p == qt γ) = false by rw [beq_eq_false_iff_ne]; omega, show (p == 2 + qt γ) = false by rw [beq_eq_false_iff_ne]; omega, c_27]; rfl), rfl⟩
          | exact ⟨_, rfl, b2i_f (by rw [show (p == qt γ) = false by rw [beq_eq_false_iff_ne]; omega, show (p == 2 + qt γ) = false by rw [beq_eq_false_iff_ne]; omega, c_35]; simp), rfl⟩
      · rw [b2i_1] at c_27
        refine j_aload_n h (q := 31) 1 dX3_canLeave_30 rfl rfl ?_
        refine j_iload_n h (q := 32) 2 dX3_canLeave_31 rfl rfl ?_
        refine j_cV h (q := 35) (C := RX3) (T := TX3) (N := 17) (ci := 3) mo_X3_isFrozen mI_X3_isFrozen mV_X3_isFrozen mL_X3_76 (m_isFrozen g _ _ _ R G L rfl hp) (by decide) (by decide) (mw_0 _ _ _) rfl rfl rfl (Nat.le_of_ble_eq_true rfl) dX3_canLeave_32 rfl ?_
        rintro _ w32 ⟨x32, rfl, e⟩
        obtain ⟨rfl, rfl⟩ := e
        refine j_if_ne h (tgt := 42) (q := 38) dX3_canLeave_35 rfl (by decide) (fun c_35 => ?_) (fun c_35 => ?_)
        · rw [b2i_1] at c_35
          refine j_iconst h (q := 43) (0) dX3_canLeave_42 rfl (by decide) ?_
          refine j_zret h rfl (by first | rfl | decide) dX3_canLeave_43 ?_
          unfold leaveG
          first
            | exact ⟨_, rfl, b2i_t (by rw [show (p == qt γ) = true by rw [beq_iff_eq]; omega]; rfl), rfl⟩
            | exact ⟨_, rfl, b2i_t (by rw [show (p == 2 + qt γ) = true by rw [beq_iff_eq]; omega]; simp), rfl⟩
            | exact ⟨_, rfl, b2i_t (by rw [c_27, c_35]; simp), rfl⟩
            | exact ⟨_, rfl, b2i_f (by rw [show (p == qt γ) = false by rw [beq_eq_false_iff_ne]; omega, show (p == 2 + qt γ) = false by rw [beq_eq_false_iff_ne]; omega, c_27]; rfl), rfl⟩
            | exact ⟨_, rfl, b2i_f (by rw [show (p == qt γ) = false by rw [beq_eq_false_iff_ne]; omega, show (p == 2 + qt γ) = false by rw [beq_eq_false_iff_ne]; omega, c_35]; simp), rfl⟩
        · rw [b2i_0] at c_35
          refine j_iconst h (q := 39) (1) dX3_canLeave_38 rfl (by decide) ?_
          refine j_goto h (tgt := 43) dX3_canLeave_39 (by decide) ?_
          refine j_zret h rfl (by first | rfl | decide) dX3_canLeave_43 ?_
          unfold leaveG
          first
            | exact ⟨_, rfl, b2i_t (by rw [show (p == qt γ) = true by rw [beq_iff_eq]; omega]; rfl), rfl⟩
            | exact ⟨_, rfl, b2i_t (by rw [show (p == 2 + qt γ) = true by rw [beq_iff_eq]; omega]; simp), rfl⟩
            | exact ⟨_, rfl, b2i_t (by rw [c_27, c_35]; simp), rfl⟩
            | exact ⟨_, rfl, b2i_f (by rw [show (p == qt γ) = false by rw [beq_eq_false_iff_ne]; omega, show (p == 2 + qt γ) = false by rw [beq_eq_false_iff_ne]; omega, c_27]; rfl), rfl⟩
            | exact ⟨_, rfl, b2i_f (by rw [show (p == qt γ) = false by rw [beq_eq_false_iff_ne]; omega, show (p == 2 + qt γ) = false by rw [beq_eq_false_iff_ne]; omega, c_35]; simp), rfl⟩

set_option maxRecDepth 100000 in
set_option maxHeartbeats 4000000 in
theorem m_fitsAces (g : jG) (w : jW) (M : Ms) (γ : Gm) (R : MR (Mst M) γ) (G : GI γ) (L : LK M γ) {k : Nat} (hk : k < 104) {a : Int32} {p : Nat} (ha : a = nI p) (hp : p < 22)  : ConI g 1 yX3_fitsAces cX3_fitsAces 4 (some (.boolean)) [.ref (gr g 67), .int (nI k), .int a] (mw g w M) (fun x w' => x = b2i (fA k (topO γ p)) ∧ w' = mw g w M) := by
  refine con_of (by decide +kernel) (Nat.le_of_ble_eq_true rfl) [(0, _), (1, _), (2, _)] rfl (fun K h => ?_)
  subst ha
  have ho := G_o G hp
  cases hto : topO γ p with
  | none =>
    refine j_aload_n h (q := 1) 0 dX3_fitsAces_0 rfl rfl ?_
    refine j_get h (q := 4) inX3 (C := RX3) (T := TX3) (N := 17) (ci := 3) rfl 9 (by decide) mF_X3_31 (by decide) (mw_0 _ _ _) rfl dX3_fitsAces_1 rfl ?_
    refine j_iload_n h (q := 5) 2 dX3_fitsAces_4 rfl rfl ?_
    refine j_ldn h (q := 6) (p) (by decide) (mw_tp _ _ _) rfl hp (by decide) dX3_fitsAces_5 rfl ?_
    rw [(L p hp).2, hto]
    refine j_istore_n h (q := 7) (loc' := [(3, _), (0, _), (1, _), (2, _)]) dX3_fitsAces_6 rfl (by decide) rfl ?_
    refine j_iload_n h (q := 8) 0 dX3_fitsAces_7 rfl rfl ?_
    refine j_bipush h (q := 10) (-6) dX3_fitsAces_8 rfl (by decide) ?_
    refine j_icmp_ne h (tgt := 28) (q := 13) dX3_fitsAces_10 rfl (by decide) (fun c_10 => ?_) (fun c_10 => ?_)
    · exact absurd (show (-6 : Int32) = -6 from rfl) c_10
    refine j_iload_n h (q := 14) 2 dX3_fitsAces_13 rfl rfl ?_
    refine j_cS h (q := 17) mo_X3_rankOf mS_X3_rankOf mL_X3_79 (m_rankOf g _ hk) (by decide) rfl rfl (Nat.le_of_ble_eq_true rfl) dX3_fitsAces_14 rfl ?_
    rintro _ w14 ⟨x14, rfl, e⟩
    obtain ⟨rfl, rfl⟩ := e
    refine j_if_ne h (tgt := 24) (q := 20) dX3_fitsAces_17 rfl (by decide) (fun c_17 => ?_) (fun c_17 => ?_)
    · refine j_iconst h (q := 25) (0) dX3_fitsAces_24 rfl (by decide) ?_
      refine j_goto h (tgt := 57) dX3_fitsAces_25 (by decide) ?_
      refine j_zret h rfl (by first | rfl | decide) dX3_fitsAces_57 ?_
      first | exact ⟨_, rfl, b2i_t (by simp_all [fA, fH, fW, rankI_0, rankI_s, rankI_p, suitI_eq]), rfl⟩ | exact ⟨_, rfl, b2i_f (by simp_all [fA, fH, fW, rankI_0, rankI_s, rankI_p, suitI_eq]), rfl⟩
    · refine j_iconst h (q := 21) (1) dX3_fitsAces_20 rfl (by decide) ?_
      refine j_goto h (tgt := 57) dX3_fitsAces_21 (by decide) ?_
      refine j_zret h rfl (by first | rfl | decide) dX3_fitsAces_57 ?_
      first | exact ⟨_, rfl, b2i_t (by simp_all [fA, fH, fW, rankI_0, rankI_s, rankI_p, suitI_eq]), rfl⟩ | exact ⟨_, rfl, b2i_f (by simp_all [fA, fH, fW, rankI_0, rankI_s, rankI_p, suitI_eq]), rfl⟩
  | some t =>
    have ht : t < 104 := ho t hto
    refine j_aload_n h (q := 1) 0 dX3_fitsAces_0 rfl rfl ?_
    refine j_get h (q := 4) inX3 (C := RX3) (T := TX3) (N := 17) (ci := 3) rfl 9 (by decide) mF_X3_31 (by decide) (mw_0 _ _ _) rfl dX3_fitsAces_1 rfl ?_
    refine j_iload_n h (q := 5) 2 dX3_fitsAces_4 rfl rfl ?_
    refine j_ldn h (q := 6) (p) (by decide) (mw_tp _ _ _) rfl hp (by decide) dX3_fitsAces_5 rfl ?_
    rw [(L p hp).2, hto]
    refine j_istore_n h (q := 7) (loc' := [(3, _), (0, _), (1, _), (2, _)]) dX3_fitsAces_6 rfl (by decide) rfl ?_
    refine j_iload_n h (q := 8) 0 dX3_fitsAces_7 rfl rfl ?_
    refine j_bipush h (q := 10) (-6) dX3_fitsAces_8 rfl (by decide) ?_
    refine j_icmp_ne h (tgt := 28) (q := 13) dX3_fitsAces_10 rfl (by decide) (fun c_10 => ?_) (fun c_10 => ?_)
    rotate_left
    · exact absurd (show nI t = -6 from c_10) (ov_ne ht)
    refine j_iload_n h (q := 29) 2 dX3_fitsAces_28 rfl rfl ?_
    refine j_cS h (q := 32) mo_X3_suitOf mS_X3_suitOf mL_X3_72 (m_suitOf g _ hk) (by decide) rfl rfl (Nat.le_of_ble_eq_true rfl) dX3_fitsAces_29 rfl ?_
    rintro _ w29 ⟨x29, rfl, e⟩
    obtain ⟨rfl, rfl⟩ := e
    refine j_iload_n h (q := 33) 0 dX3_fitsAces_32 rfl rfl ?_
    refine j_cS h (q := 36) mo_X3_suitOf mS_X3_suitOf mL_X3_72 (m_suitOf g _ ht) (by decide) rfl rfl (Nat.le_of_ble_eq_true rfl) dX3_fitsAces_33 rfl ?_
    rintro _ w33 ⟨x33, rfl, e⟩
    obtain ⟨rfl, rfl⟩ := e
    refine j_icmp_ne h (tgt := 56) (q := 39) dX3_fitsAces_36 rfl (by decide) (fun c_36 => ?_) (fun c_36 => ?_)
    · refine j_iconst h (q := 57) (0) dX3_fitsAces_56 rfl (by decide) ?_
      refine j_zret h rfl (by first | rfl | decide) dX3_fitsAces_57 ?_
      first | exact ⟨_, rfl, b2i_t (by simp_all [fA, fH, fW, rankI_0, rankI_s, rankI_p, suitI_eq]), rfl⟩ | exact ⟨_, rfl, b2i_f (by simp_all [fA, fH, fW, rankI_0, rankI_s, rankI_p, suitI_eq]), rfl⟩
    · refine j_iload_n h (q := 40) 2 dX3_fitsAces_39 rfl rfl ?_
      refine j_cS h (q := 43) mo_X3_rankOf mS_X3_rankOf mL_X3_79 (m_rankOf g _ hk) (by decide) rfl rfl (Nat.le_of_ble_eq_true rfl) dX3_fitsAces_40 rfl ?_
      rintro _ w40 ⟨x40, rfl, e⟩
      obtain ⟨rfl, rfl⟩ := e
      refine j_iload_n h (q := 44) 0 dX3_fitsAces_43 rfl rfl ?_
      refine j_cS h (q := 47) mo_X3_rankOf mS_X3_rankOf mL_X3_79 (m_rankOf g _ ht) (by decide) rfl rfl (Nat.le_of_ble_eq_true rfl) dX3_fitsAces_44 rfl ?_
      rintro _ w44 ⟨x44, rfl, e⟩
      obtain ⟨rfl, rfl⟩ := e
      refine j_iconst h (q := 48) (1) dX3_fitsAces_47 rfl (by decide) ?_
      refine j_iadd h (q := 49) dX3_fitsAces_48 rfl ?_
      refine j_icmp_ne h (tgt := 56) (q := 52) dX3_fitsAces_49 rfl (by decide) (fun c_49 => ?_) (fun c_49 => ?_)
      · refine j_iconst h (q := 57) (0) dX3_fitsAces_56 rfl (by decide) ?_
        refine j_zret h rfl (by first | rfl | decide) dX3_fitsAces_57 ?_
        first | exact ⟨_, rfl, b2i_t (by simp_all [fA, fH, fW, rankI_0, rankI_s, rankI_p, suitI_eq]), rfl⟩ | exact ⟨_, rfl, b2i_f (by simp_all [fA, fH, fW, rankI_0, rankI_s, rankI_p, suitI_eq]), rfl⟩
      · refine j_iconst h (q := 53) (1) dX3_fitsAces_52 rfl (by decide) ?_
        refine j_goto h (tgt := 57) dX3_fitsAces_53 (by decide) ?_
        refine j_zret h rfl (by first | rfl | decide) dX3_fitsAces_57 ?_
        first | exact ⟨_, rfl, b2i_t (by simp_all [fA, fH, fW, rankI_0, rankI_s, rankI_p, suitI_eq]), rfl⟩ | exact ⟨_, rfl, b2i_f (by simp_all [fA, fH, fW, rankI_0, rankI_s, rankI_p, suitI_eq]), rfl⟩

set_option maxRecDepth 100000 in
set_option maxHeartbeats 4000000 in
theorem m_fitsHouse (g : jG) (w : jW) (M : Ms) (γ : Gm) (R : MR (Mst M) γ) (G : GI γ) (L : LK M γ) {k : Nat} (hk : k < 104) {a : Int32} {p : Nat} (ha : a = nI p) (hp : p < 22)  : ConI g 3 yX3_fitsHouse cX3_fitsHouse 4 (some (.boolean)) [.ref (gr g 67), .int (nI k), .int a] (mw g w M) (fun x w' => x = b2i (!frozG γ p && fH k (topO γ p)) ∧ w' = mw g w M) := by
  refine con_of (by decide +kernel) (Nat.le_of_ble_eq_true rfl) [(0, _), (1, _), (2, _)] rfl (fun K h => ?_)
  subst ha
  have ho := G_o G hp
  cases hto : topO γ p with
  | none =>
    refine j_aload_n h (q := 1) 0 dX3_fitsHouse_0 rfl rfl ?_
    refine j_get h (q := 4) inX3 (C := RX3) (T := TX3) (N := 17) (ci := 3) rfl 9 (by decide) mF_X3_31 (by decide) (mw_0 _ _ _) rfl dX3_fitsHouse_1 rfl ?_
    refine j_iload_n h (q := 5) 2 dX3_fitsHouse_4 rfl rfl ?_
    refine j_ldn h (q := 6) (p) (by decide) (mw_tp _ _ _) rfl hp (by decide) dX3_fitsHouse_5 rfl ?_
    rw [(L p hp).2, hto]
    refine j_istore_n h (q := 7) (loc' := [(3, _), (0, _), (1, _), (2, _)]) dX3_fitsHouse_6 rfl (by decide) rfl ?_
    refine j_aload_n h (q := 8) 1 dX3_fitsHouse_7 rfl rfl ?_
    refine j_iload_n h (q := 9) 3 dX3_fitsHouse_8 rfl rfl ?_
    refine j_cV h (q := 12) (C := RX3) (T := TX3) (N := 17) (ci := 3) mo_X3_isFrozen mI_X3_isFrozen mV_X3_isFrozen mL_X3_76 (m_isFrozen g _ _ _ R G L rfl hp) (by decide) (by decide) (mw_0 _ _ _) rfl rfl rfl (Nat.le_of_ble_eq_true rfl) dX3_fitsHouse_9 rfl ?_
    rintro _ w9 ⟨x9, rfl, e⟩
    obtain ⟨rfl, rfl⟩ := e
    refine j_if_ne h (tgt := 49) (q := 15) dX3_fitsHouse_12 rfl (by decide) (fun c_12 => ?_) (fun c_12 => ?_)
    · rw [b2i_1] at c_12
      refine j_iconst h (q := 50) (0) dX3_fitsHouse_49 rfl (by decide) ?_
      refine j_zret h rfl (by first | rfl | decide) dX3_fitsHouse_50 ?_
      first | exact ⟨_, rfl, b2i_t (by simp_all [fA, fH, fW, rankI_0, rankI_s, rankI_p, suitI_eq]), rfl⟩ | exact ⟨_, rfl, b2i_f (by simp_all [fA, fH, fW, rankI_0, rankI_s, rankI_p, suitI_eq]), rfl⟩
    · rw [b2i_0] at c_12
      refine j_iload_n h (q := 16) 0 dX3_fitsHouse_15 rfl rfl ?_
      refine j_bipush h (q := 18) (-6) dX3_fitsHouse_16 rfl (by decide) ?_
      refine j_icmp_eq h (tgt := 45) (q := 21) dX3_fitsHouse_18 rfl (by decide) (fun c_18 => ?_) (fun c_18 => ?_)
      rotate_left
      · exact absurd (show (-6 : Int32) = -6 from rfl) c_18
      refine j_iconst h (q := 46) (1) dX3_fitsHouse_45 rfl (by decide) ?_
      refine j_goto h (tgt := 50) dX3_fitsHouse_46 (by decide) ?_
      refine j_zret h rfl (by first | rfl | decide) dX3_fitsHouse_50 ?_
      first | exact ⟨_, rfl, b2i_t (by simp_all [fA, fH, fW, rankI_0, rankI_s, rankI_p, suitI_eq]), rfl⟩ | exact ⟨_, rfl, b2i_f (by simp_all [fA, fH, fW, rankI_0, rankI_s, rankI_p, suitI_eq]), rfl⟩
  | some t =>
    have ht : t < 104 := ho t hto
    refine j_aload_n h (q := 1) 0 dX3_fitsHouse_0 rfl rfl ?_
    refine j_get h (q := 4) inX3 (C := RX3) (T := TX3) (N := 17) (ci := 3) rfl 9 (by decide) mF_X3_31 (by decide) (mw_0 _ _ _) rfl dX3_fitsHouse_1 rfl ?_
    refine j_iload_n h (q := 5) 2 dX3_fitsHouse_4 rfl rfl ?_
    refine j_ldn h (q := 6) (p) (by decide) (mw_tp _ _ _) rfl hp (by decide) dX3_fitsHouse_5 rfl ?_
    rw [(L p hp).2, hto]
    refine j_istore_n h (q := 7) (loc' := [(3, _), (0, _), (1, _), (2, _)]) dX3_fitsHouse_6 rfl (by decide) rfl ?_
    refine j_aload_n h (q := 8) 1 dX3_fitsHouse_7 rfl rfl ?_
    refine j_iload_n h (q := 9) 3 dX3_fitsHouse_8 rfl rfl ?_
    refine j_cV h (q := 12) (C := RX3) (T := TX3) (N := 17) (ci := 3) mo_X3_isFrozen mI_X3_isFrozen mV_X3_isFrozen mL_X3_76 (m_isFrozen g _ _ _ R G L rfl hp) (by decide) (by decide) (mw_0 _ _ _) rfl rfl rfl (Nat.le_of_ble_eq_true rfl) dX3_fitsHouse_9 rfl ?_
    rintro _ w9 ⟨x9, rfl, e⟩
    obtain ⟨rfl, rfl⟩ := e
    refine j_if_ne h (tgt := 49) (q := 15) dX3_fitsHouse_12 rfl (by decide) (fun c_12 => ?_) (fun c_12 => ?_)
    · rw [b2i_1] at c_12
      refine j_iconst h (q := 50) (0) dX3_fitsHouse_49 rfl (by decide) ?_
      refine j_zret h rfl (by first | rfl | decide) dX3_fitsHouse_50 ?_
      first | exact ⟨_, rfl, b2i_t (by simp_all [fA, fH, fW, rankI_0, rankI_s, rankI_p, suitI_eq]), rfl⟩ | exact ⟨_, rfl, b2i_f (by simp_all [fA, fH, fW, rankI_0, rankI_s, rankI_p, suitI_eq]), rfl⟩
    · rw [b2i_0] at c_12
      refine j_iload_n h (q := 16) 0 dX3_fitsHouse_15 rfl rfl ?_
      refine j_bipush h (q := 18) (-6) dX3_fitsHouse_16 rfl (by decide) ?_
      refine j_icmp_eq h (tgt := 45) (q := 21) dX3_fitsHouse_18 rfl (by decide) (fun c_18 => ?_) (fun c_18 => ?_)
      · exact absurd (show nI t = -6 from c_18) (ov_ne ht)
      refine j_iload_n h (q := 22) 2 dX3_fitsHouse_21 rfl rfl ?_
      refine j_cS h (q := 25) mo_X3_rankOf mS_X3_rankOf mL_X3_79 (m_rankOf g _ hk) (by decide) rfl rfl (Nat.le_of_ble_eq_true rfl) dX3_fitsHouse_22 rfl ?_
      rintro _ w22 ⟨x22, rfl, e⟩
      obtain ⟨rfl, rfl⟩ := e
      refine j_iload_n h (q := 26) 0 dX3_fitsHouse_25 rfl rfl ?_
      refine j_cS h (q := 29) mo_X3_rankOf mS_X3_rankOf mL_X3_79 (m_rankOf g _ ht) (by decide) rfl rfl (Nat.le_of_ble_eq_true rfl) dX3_fitsHouse_26 rfl ?_
      rintro _ w26 ⟨x26, rfl, e⟩
      obtain ⟨rfl, rfl⟩ := e
      refine j_iconst h (q := 30) (1) dX3_fitsHouse_29 rfl (by decide) ?_
      refine j_isub h (q := 31) dX3_fitsHouse_30 rfl ?_
      refine j_icmp_ne h (tgt := 49) (q := 34) dX3_fitsHouse_31 rfl (by decide) (fun c_31 => ?_) (fun c_31 => ?_)
      · refine j_iconst h (q := 50) (0) dX3_fitsHouse_49 rfl (by decide) ?_
        refine j_zret h rfl (by first | rfl | decide) dX3_fitsHouse_50 ?_
        first | exact ⟨_, rfl, b2i_t (by simp_all [fA, fH, fW, rankI_0, rankI_s, rankI_p, suitI_eq]), rfl⟩ | exact ⟨_, rfl, b2i_f (by simp_all [fA, fH, fW, rankI_0, rankI_s, rankI_p, suitI_eq]), rfl⟩
      · refine j_iload_n h (q := 35) 2 dX3_fitsHouse_34 rfl rfl ?_
        refine j_cS h (q := 38) mo_X3_isRed mS_X3_isRed mL_X3_82 (m_isRed g _ hk) (by decide) rfl rfl (Nat.le_of_ble_eq_true rfl) dX3_fitsHouse_35 rfl ?_
        rintro _ w35 ⟨x35, rfl, e⟩
        obtain ⟨rfl, rfl⟩ := e
        refine j_iload_n h (q := 39) 0 dX3_fitsHouse_38 rfl rfl ?_
        refine j_cS h (q := 42) mo_X3_isRed mS_X3_isRed mL_X3_82 (m_isRed g _ ht) (by decide) rfl rfl (Nat.le_of_ble_eq_true rfl) dX3_fitsHouse_39 rfl ?_
        rintro _ w39 ⟨x39, rfl, e⟩
        obtain ⟨rfl, rfl⟩ := e
        refine j_icmp_eq h (tgt := 49) (q := 45) dX3_fitsHouse_42 rfl (by decide) (fun c_42 => ?_) (fun c_42 => ?_)
        · rw [b2i_inj] at c_42
          refine j_iconst h (q := 50) (0) dX3_fitsHouse_49 rfl (by decide) ?_
          refine j_zret h rfl (by first | rfl | decide) dX3_fitsHouse_50 ?_
          first | exact ⟨_, rfl, b2i_t (by simp_all [fA, fH, fW, rankI_0, rankI_s, rankI_p, suitI_eq]), rfl⟩ | exact ⟨_, rfl, b2i_f (by simp_all [fA, fH, fW, rankI_0, rankI_s, rankI_p, suitI_eq]), rfl⟩
        · rw [b2i_inj] at c_42
          refine j_iconst h (q := 46) (1) dX3_fitsHouse_45 rfl (by decide) ?_
          refine j_goto h (tgt := 50) dX3_fitsHouse_46 (by decide) ?_
          refine j_zret h rfl (by first | rfl | decide) dX3_fitsHouse_50 ?_
          first | exact ⟨_, rfl, b2i_t (by simp_all [fA, fH, fW, rankI_0, rankI_s, rankI_p, suitI_eq]), rfl⟩ | exact ⟨_, rfl, b2i_f (by simp_all [fA, fH, fW, rankI_0, rankI_s, rankI_p, suitI_eq]), rfl⟩

theorem rk_s (k t : Nat) : nI (rank k) - nI (rank t) = 1 ↔ rank k = rank t + 1 := by
  have key : ∀ a, a < 13 → ∀ b, b < 13 → (nI a - nI b = 1 ↔ a = b + 1) := by decide +kernel
  exact key _ (rank_lt k) _ (rank_lt t)
theorem rk_p (k t : Nat) : nI (rank k) - nI (rank t) = -1 ↔ rank k + 1 = rank t := by
  have key : ∀ a, a < 13 → ∀ b, b < 13 → (nI a - nI b = -1 ↔ a + 1 = b) := by decide +kernel
  exact key _ (rank_lt k) _ (rank_lt t)

set_option maxRecDepth 100000 in
set_option maxHeartbeats 4000000 in
theorem m_fitsWaste (g : jG) (w : jW) (M : Ms) (γ : Gm) (R : MR (Mst M) γ) (G : GI γ) (L : LK M γ) {k : Nat} (hk : k < 104) {a : Int32} {p : Nat} (ha : a = nI p) (hp : p < 22)  : ConI g 1 yX3_fitsWaste cX3_fitsWaste 5 (some (.boolean)) [.ref (gr g 67), .int (nI k), .int a] (mw g w M) (fun x w' => x = b2i (fW k (topO γ p)) ∧ w' = mw g w M) := by
  refine con_of (by decide +kernel) (Nat.le_of_ble_eq_true rfl) [(0, _), (1, _), (2, _)] rfl (fun K h => ?_)
  subst ha
  have ho := G_o G hp
  cases hto : topO γ p with
  | none =>
    refine j_aload_n h (q := 1) 0 dX3_fitsWaste_0 rfl rfl ?_
    refine j_get h (q := 4) inX3 (C := RX3) (T := TX3) (N := 17) (ci := 3) rfl 9 (by decide) mF_X3_31 (by decide) (mw_0 _ _ _) rfl dX3_fitsWaste_1 rfl ?_
    refine j_iload_n h (q := 5) 2 dX3_fitsWaste_4 rfl rfl ?_
    refine j_ldn h (q := 6) (p) (by decide) (mw_tp _ _ _) rfl hp (by decide) dX3_fitsWaste_5 rfl ?_
    rw [(L p hp).2, hto]
    refine j_istore_n h (q := 7) (loc' := [(3, _), (0, _), (1, _), (2, _)]) dX3_fitsWaste_6 rfl (by decide) rfl ?_
    refine j_iload_n h (q := 8) 0 dX3_fitsWaste_7 rfl rfl ?_
    refine j_bipush h (q := 10) (-6) dX3_fitsWaste_8 rfl (by decide) ?_
    refine j_icmp_ne h (tgt := 17) (q := 13) dX3_fitsWaste_10 rfl (by decide) (fun c_10 => ?_) (fun c_10 => ?_)
    · exact absurd (show (-6 : Int32) = -6 from rfl) c_10
    refine j_iconst h (q := 14) (0) dX3_fitsWaste_13 rfl (by decide) ?_
    refine j_goto h (tgt := 26) dX3_fitsWaste_14 (by decide) ?_
    refine j_istore h (q := 28) (loc' := [(4, _), (3, _), (0, _), (1, _), (2, _)]) dX3_fitsWaste_26 rfl (by decide) rfl ?_
    refine j_iload_n h (q := 29) 1 dX3_fitsWaste_28 rfl rfl ?_
    refine j_bipush h (q := 31) (-6) dX3_fitsWaste_29 rfl (by decide) ?_
    refine j_icmp_eq h (tgt := 61) (q := 34) dX3_fitsWaste_31 rfl (by decide) (fun c_31 => ?_) (fun c_31 => ?_)
    rotate_left
    · exact absurd (show (-6 : Int32) = -6 from rfl) c_31
    refine j_iconst h (q := 62) (0) dX3_fitsWaste_61 rfl (by decide) ?_
    refine j_zret h rfl (by first | rfl | decide) dX3_fitsWaste_62 ?_
    first | exact ⟨_, rfl, b2i_t (by simp_all [fA, fH, fW, rankI_0, rankI_s, rankI_p, suitI_eq]), rfl⟩ | exact ⟨_, rfl, b2i_f (by simp_all [fA, fH, fW, rankI_0, rankI_s, rankI_p, suitI_eq]), rfl⟩
  | some t =>
    have ht : t < 104 := ho t hto
    refine j_aload_n h (q := 1) 0 dX3_fitsWaste_0 rfl rfl ?_
    refine j_get h (q := 4) inX3 (C := RX3) (T := TX3) (N := 17) (ci := 3) rfl 9 (by decide) mF_X3_31 (by decide) (mw_0 _ _ _) rfl dX3_fitsWaste_1 rfl ?_
    refine j_iload_n h (q := 5) 2 dX3_fitsWaste_4 rfl rfl ?_
    refine j_ldn h (q := 6) (p) (by decide) (mw_tp _ _ _) rfl hp (by decide) dX3_fitsWaste_5 rfl ?_
    rw [(L p hp).2, hto]
    refine j_istore_n h (q := 7) (loc' := [(3, _), (0, _), (1, _), (2, _)]) dX3_fitsWaste_6 rfl (by decide) rfl ?_
    refine j_iload_n h (q := 8) 0 dX3_fitsWaste_7 rfl rfl ?_
    refine j_bipush h (q := 10) (-6) dX3_fitsWaste_8 rfl (by decide) ?_
    refine j_icmp_ne h (tgt := 17) (q := 13) dX3_fitsWaste_10 rfl (by decide) (fun c_10 => ?_) (fun c_10 => ?_)
    rotate_left
    · exact absurd (show nI t = -6 from c_10) (ov_ne ht)
    refine j_iload_n h (q := 18) 2 dX3_fitsWaste_17 rfl rfl ?_
    refine j_cS h (q := 21) mo_X3_rankOf mS_X3_rankOf mL_X3_79 (m_rankOf g _ hk) (by decide) rfl rfl (Nat.le_of_ble_eq_true rfl) dX3_fitsWaste_18 rfl ?_
    rintro _ w18 ⟨x18, rfl, e⟩
    obtain ⟨rfl, rfl⟩ := e
    refine j_iload_n h (q := 22) 0 dX3_fitsWaste_21 rfl rfl ?_
    refine j_cS h (q := 25) mo_X3_rankOf mS_X3_rankOf mL_X3_79 (m_rankOf g _ ht) (by decide) rfl rfl (Nat.le_of_ble_eq_true rfl) dX3_fitsWaste_22 rfl ?_
    rintro _ w22 ⟨x22, rfl, e⟩
    obtain ⟨rfl, rfl⟩ := e
    refine j_isub h (q := 26) dX3_fitsWaste_25 rfl ?_
    refine j_istore h (q := 28) (loc' := [(4, _), (3, _), (0, _), (1, _), (2, _)]) dX3_fitsWaste_26 rfl (by decide) rfl ?_
    refine j_iload_n h (q := 29) 1 dX3_fitsWaste_28 rfl rfl ?_
    refine j_bipush h (q := 31) (-6) dX3_fitsWaste_29 rfl (by decide) ?_
    refine j_icmp_eq h (tgt := 61) (q := 34) dX3_fitsWaste_31 rfl (by decide) (fun c_31 => ?_) (fun c_31 => ?_)
    · exact absurd (show nI t = -6 from c_31) (ov_ne ht)
    refine j_iload_n h (q := 35) 3 dX3_fitsWaste_34 rfl rfl ?_
    refine j_cS h (q := 38) mo_X3_suitOf mS_X3_suitOf mL_X3_72 (m_suitOf g _ hk) (by decide) rfl rfl (Nat.le_of_ble_eq_true rfl) dX3_fitsWaste_35 rfl ?_
    rintro _ w35 ⟨x35, rfl, e⟩
    obtain ⟨rfl, rfl⟩ := e
    refine j_iload_n h (q := 39) 1 dX3_fitsWaste_38 rfl rfl ?_
    refine j_cS h (q := 42) mo_X3_suitOf mS_X3_suitOf mL_X3_72 (m_suitOf g _ ht) (by decide) rfl rfl (Nat.le_of_ble_eq_true rfl) dX3_fitsWaste_39 rfl ?_
    rintro _ w39 ⟨x39, rfl, e⟩
    obtain ⟨rfl, rfl⟩ := e
    refine j_icmp_ne h (tgt := 61) (q := 45) dX3_fitsWaste_42 rfl (by decide) (fun c_42 => ?_) (fun c_42 => ?_)
    · refine j_iconst h (q := 62) (0) dX3_fitsWaste_61 rfl (by decide) ?_
      refine j_zret h rfl (by first | rfl | decide) dX3_fitsWaste_62 ?_
      first | exact ⟨_, rfl, b2i_t (by simp_all [fA, fH, fW, rankI_0, rankI_s, rankI_p, suitI_eq]), rfl⟩ | exact ⟨_, rfl, b2i_f (by simp_all [fA, fH, fW, rankI_0, rankI_s, rankI_p, suitI_eq]), rfl⟩
    · refine j_iload h (q := 47) 0 dX3_fitsWaste_45 rfl rfl ?_
      refine j_iconst h (q := 48) (1) dX3_fitsWaste_47 rfl (by decide) ?_
      refine j_icmp_eq h (tgt := 57) (q := 51) dX3_fitsWaste_48 rfl (by decide) (fun c_48 => ?_) (fun c_48 => ?_)
      · rw [rk_s] at c_48
        refine j_iconst h (q := 58) (1) dX3_fitsWaste_57 rfl (by decide) ?_
        refine j_goto h (tgt := 62) dX3_fitsWaste_58 (by decide) ?_
        refine j_zret h rfl (by first | rfl | decide) dX3_fitsWaste_62 ?_
        first | exact ⟨_, rfl, b2i_t (by simp_all [fA, fH, fW, rankI_0, rankI_s, rankI_p, suitI_eq]), rfl⟩ | exact ⟨_, rfl, b2i_f (by simp_all [fA, fH, fW, rankI_0, rankI_s, rankI_p, suitI_eq]), rfl⟩
      · rw [rk_s] at c_48
        refine j_iload h (q := 53) 0 dX3_fitsWaste_51 rfl rfl ?_
        refine j_iconst h (q := 54) (-1) dX3_fitsWaste_53 rfl (by decide) ?_
        refine j_icmp_ne h (tgt := 61) (q := 57) dX3_fitsWaste_54 rfl (by decide) (fun c_54 => ?_) (fun c_54 => ?_)
        · rw [rk_p] at c_54
          refine j_iconst h (q := 62) (0) dX3_fitsWaste_61 rfl (by decide) ?_
          refine j_zret h rfl (by first | rfl | decide) dX3_fitsWaste_62 ?_
          first | exact ⟨_, rfl, b2i_t (by simp_all [fA, fH, fW, rankI_0, rankI_s, rankI_p, suitI_eq]), rfl⟩ | exact ⟨_, rfl, b2i_f (by simp_all [fA, fH, fW, rankI_0, rankI_s, rankI_p, suitI_eq]), rfl⟩
        · rw [rk_p] at c_54
          refine j_iconst h (q := 58) (1) dX3_fitsWaste_57 rfl (by decide) ?_
          refine j_goto h (tgt := 62) dX3_fitsWaste_58 (by decide) ?_
          refine j_zret h rfl (by first | rfl | decide) dX3_fitsWaste_62 ?_
          first | exact ⟨_, rfl, b2i_t (by simp_all [fA, fH, fW, rankI_0, rankI_s, rankI_p, suitI_eq]), rfl⟩ | exact ⟨_, rfl, b2i_f (by simp_all [fA, fH, fW, rankI_0, rankI_s, rankI_p, suitI_eq]), rfl⟩

