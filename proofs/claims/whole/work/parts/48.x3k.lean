/-- the reference's pad -/
def MD (M : Ms) (L : Nat) (ch : Nat → Nat) : Prop := Mpl M = nI L ∧ L ≤ 60 ∧ (∀ i, i < L → Mpd M i = nI (ch i)) ∧ ∀ i, i < L → 33 ≤ ch i ∧ ch i ≤ 126
theorem MX_MD {M : Ms} {σ : Sg} (S : SI σ) (R : MX M σ) : MD M (zl σ) (zc σ) := ⟨R.2.2.2.2.1, S.2.2.2.2.1, R.2.2.2.2.2, S.2.2.2.2.2⟩
theorem MD_ke {M M' : Ms} {L : Nat} {ch : Nat → Nat} (P : MD M L ch) (k : KE M M') : MD M' L ch := by
  obtain ⟨k1, k2, k3, k4, k5, k6, k7⟩ := k
  exact ⟨k6.trans P.1, P.2.1, fun i hi => by rw [k5]; exact P.2.2.1 i hi, P.2.2.2⟩
theorem tx_126 {M : Ms} {L : Nat} {ch : Nat → Nat} (P : MD M L ch) (i : Nat) : tx L ch i ≤ 126 := by
  unfold tx
  by_cases h : i < L
  · rw [if_pos h]; exact (P.2.2.2 i h).2
  · rw [if_neg h]; decide
/-- a character as the reference reads it -/
def ctI (L : Nat) (ch : Nat → Nat) (i : Nat) : Int32 := if tx L ch i = 0 then -1 else nI (tx L ch i)
theorem ct_in {M : Ms} {L : Nat} {ch : Nat → Nat} (P : MD M L ch) {i : Nat} (h : i < L) : ctI L ch i = nI (ch i) := by
  have := (P.2.2.2 i h).1
  unfold ctI tx
  rw [if_pos h, if_neg (by omega)]
theorem ct_out {L : Nat} {ch : Nat → Nat} {i : Nat} (h : ¬ i < L) : ctI L ch i = -1 := by
  unfold ctI tx
  rw [if_neg h, if_pos rfl]
theorem ct_eq {M : Ms} {L : Nat} {ch : Nat → Nat} (P : MD M L ch) {i k : Nat} (hk : k < 1000) (h0 : k ≠ 0) : ctI L ch i = nI k ↔ tx L ch i = k := by
  have := tx_126 P i
  unfold ctI
  by_cases z : tx L ch i = 0
  · rw [if_pos z]
    constructor
    · intro e
      have e1 := congrArg Int32.toInt e
      rw [nI_toInt (by omega)] at e1
      have : (-1 : Int32).toInt = -1 := by decide
      omega
    · intro e; omega
  · rw [if_neg z, nI_eqS (by omega) (by omega)]
theorem ct_dig {M : Ms} {L : Nat} {ch : Nat → Nat} (P : MD M L ch) {i m : Nat} (hm : m < 10) : (¬ ctI L ch i - 48 < 0 ∧ ¬ nI m < ctI L ch i - 48) ↔ (48 ≤ tx L ch i ∧ tx L ch i ≤ 48 + m) := by
  have h := tx_126 P i
  have key : ∀ t, t < 127 → ∀ m, m < 10 → ((¬ nI t - 48 < 0 ∧ ¬ nI m < nI t - 48) ↔ (48 ≤ t ∧ t ≤ 48 + m)) := by decide +kernel
  unfold ctI
  by_cases z : tx L ch i = 0
  · rw [if_pos z]
    constructor
    · intro e; exact absurd (show (-1 : Int32) - 48 < 0 by decide) e.1
    · intro e; omega
  · rw [if_neg z]; exact key _ (by omega) _ hm
theorem ct_val {M : Ms} {L : Nat} {ch : Nat → Nat} (P : MD M L ch) {i m : Nat} (h : 48 ≤ tx L ch i ∧ tx L ch i ≤ m) : ctI L ch i - 48 = nI (tx L ch i - 48) := by
  unfold ctI
  rw [if_neg (by omega)]
  exact i_subL h.1
abbrev mat (M : Ms) (x : Int32) : Ms := sints M (Mrc M) (Mpl M) (Mmf M) (Mmt M) x (Mle M) (Mfi M) (Mse M)
abbrev rsM (M : Ms) (a l f s : Int32) : Ms := sints M (Mrc M) (Mpl M) (Mmf M) (Mmt M) a l f s
theorem tend_no {L : Nat} {ch : Nat → Nat} {i : Nat} (h : tdig L ch i = false) : tend L ch i = i := by unfold tend; rw [h]; rfl
theorem tend_1 {L : Nat} {ch : Nat → Nat} {i : Nat} (h : tdig L ch i = true) (hb : tbig L ch i = false) : tend L ch i = i + 1 := by unfold tend; rw [h, hb]; rfl
theorem tend_2 {L : Nat} {ch : Nat → Nat} {i : Nat} (h : tdig L ch i = true) (hb : tbig L ch i = true) : tend L ch i = i + 2 := by unfold tend; rw [h, hb]; rfl
theorem tval_1 {L : Nat} {ch : Nat → Nat} {i : Nat} (hb : tbig L ch i = false) : tval L ch i = tx L ch i - 48 := by unfold tval; rw [hb]; rfl
theorem tval_2 {L : Nat} {ch : Nat → Nat} {i : Nat} (hb : tbig L ch i = true) : tval L ch i = ttwo L ch i := by unfold tval; rw [hb]; rfl
theorem tend_dg {L : Nat} {ch : Nat → Nat} {i : Nat} (h : tdig L ch i = true) : tend L ch i ≠ i := by
  unfold tend
  rw [h]
  cases tbig L ch i
  · show i + 1 ≠ i; omega
  · show i + 2 ≠ i; omega

set_option maxRecDepth 100000 in
set_option maxHeartbeats 4000000 in
theorem m_character (g : jG) (w : jW) (M : Ms) {L : Nat} {ch : Nat → Nat} (P : MD M L ch) {i : Nat} (hi : i < 1000)  : ConI g 0 yX3_character cX3_character 2 (some (.int)) [.ref (gr g 67), .int (nI i)] (mw g w M) (fun x w' => x = ctI L ch i ∧ w' = mw g w M) := by
  refine con_of (by decide +kernel) (Nat.le_of_ble_eq_true rfl) [(0, _), (1, _)] rfl (fun K h => ?_)
  have hL := P.2.1
  refine j_iload_n h (q := 1) 1 dX3_character_0 rfl rfl ?_
  refine j_aload_n h (q := 2) 0 dX3_character_1 rfl rfl ?_
  refine j_get h (q := 5) inX3 (C := RX3) (T := TX3) (N := 17) (ci := 3) rfl 7 (by decide) mF_X3_163 (by decide) (mw_0 _ _ _) rfl dX3_character_2 rfl ?_
  refine j_icmp_ge h (tgt := 17) (q := 8) dX3_character_5 rfl (by decide) (fun c_5 => ?_) (fun c_5 => ?_)
  · rw [P.1, nI_leS (by omega) (by omega)] at c_5
    refine j_iconst h (q := 18) (-1) dX3_character_17 rfl (by decide) ?_
    refine j_iret h rfl dX3_character_18 ?_
    exact ⟨_, rfl, (ct_out (by omega)).symm, rfl⟩
  · rw [P.1, nI_leS (by omega) (by omega)] at c_5
    refine j_aload_n h (q := 9) 0 dX3_character_8 rfl rfl ?_
    refine j_get h (q := 12) inX3 (C := RX3) (T := TX3) (N := 17) (ci := 3) rfl 6 (by decide) mF_X3_25 (by decide) (mw_0 _ _ _) rfl dX3_character_9 rfl ?_
    refine j_iload_n h (q := 13) 1 dX3_character_12 rfl rfl ?_
    refine j_ldn h (q := 14) (i) (by decide) (mw_pd _ _ _) rfl (by omega) (by decide) dX3_character_13 rfl ?_
    refine j_goto h (tgt := 18) dX3_character_14 (by decide) ?_
    refine j_iret h rfl dX3_character_18 ?_
    exact ⟨_, rfl, (P.2.2.1 i (by omega)).trans (ct_in P (by omega)).symm, rfl⟩

set_option maxRecDepth 100000 in
set_option maxHeartbeats 4000000 in
theorem m_isNext (g : jG) (w : jW) (M : Ms) {L : Nat} {ch : Nat → Nat} (P : MD M L ch) {i : Nat} (ha : Mat M = nI i) (hi : i < 1000) {k : Nat} (hk : k < 1000) (h0 : k ≠ 0)  : ConI g 1 yX3_isNext cX3_isNext 3 (some (.boolean)) [.ref (gr g 67), .int (nI k)] (mw g w M) (fun x w' => x = b2i (tx L ch i == k) ∧ w' = mw g w (mat M (nI (if tx L ch i = k then i + 1 else i)))) := by
  refine con_of (by decide +kernel) (Nat.le_of_ble_eq_true rfl) [(0, _), (1, _)] rfl (fun K h => ?_)
  refine j_aload_n h (q := 1) 0 dX3_isNext_0 rfl rfl ?_
  refine j_aload_n h (q := 2) 0 dX3_isNext_1 rfl rfl ?_
  refine j_get h (q := 5) inX3 (C := RX3) (T := TX3) (N := 17) (ci := 3) rfl 13 (by decide) mF_X3_171 (by decide) (mw_0 _ _ _) rfl dX3_isNext_2 rfl ?_
  rw [ha]
  refine j_cV h (q := 8) (C := RX3) (T := TX3) (N := 17) (ci := 3) mo_X3_character mI_X3_character mV_X3_character mL_X3_174 (m_character g w M P (i := i) (by omega)) (by decide) (by decide) (mw_0 _ _ _) rfl rfl rfl (Nat.le_of_ble_eq_true rfl) dX3_isNext_5 rfl ?_
  rintro _ w5 ⟨x5, rfl, e⟩
  obtain ⟨rfl, rfl⟩ := e
  refine j_iload_n h (q := 9) 1 dX3_isNext_8 rfl rfl ?_
  refine j_icmp_ne h (tgt := 16) (q := 12) dX3_isNext_9 rfl (by decide) (fun c_9 => ?_) (fun c_9 => ?_)
  · rw [ct_eq P hk h0] at c_9
    refine j_iconst h (q := 17) (0) dX3_isNext_16 rfl (by decide) ?_
    refine j_istore_n h (q := 18) (loc' := [(2, _), (0, _), (1, _)]) dX3_isNext_17 rfl (by decide) rfl ?_
    refine j_aload_n h (q := 19) 1 dX3_isNext_18 rfl rfl ?_
    refine j_dup h (q := 20) dX3_isNext_19 rfl rfl ?_
    refine j_get h (q := 23) inX3 (C := RX3) (T := TX3) (N := 17) (ci := 3) rfl 13 (by decide) mF_X3_171 (by decide) (mw_0 _ _ _) rfl dX3_isNext_20 rfl ?_
    refine j_iload_n h (q := 24) 0 dX3_isNext_23 rfl rfl ?_
    refine j_if_eq h (tgt := 31) (q := 27) dX3_isNext_24 rfl (by decide) (fun c_24 => ?_) (fun c_24 => ?_)
    rotate_left
    · exact absurd rfl c_24
    refine j_iconst h (q := 32) (0) dX3_isNext_31 rfl (by decide) ?_
    refine j_iadd h (q := 33) dX3_isNext_32 rfl ?_
    refine j_put h (q := 36) inX3 (C := RX3) (T := TX3) (N := 17) (ci := 3) rfl tyX3_ok nmX3 13 (by decide) mF_X3_171 rfl rfl rfl (by first | rfl | decide) (by decide) (mw_0 _ _ _) (Nat.le_of_ble_eq_true rfl) dX3_isNext_33 rfl ?_
    refine j_stk rfl mw_u0 ?_
    refine j_iload_n h (q := 37) 0 dX3_isNext_36 rfl rfl ?_
    refine j_zret h rfl (by first | rfl | exact b2i_n _) dX3_isNext_37 ?_
    refine ⟨_, rfl, b2i_f (beq_eq_false_iff_ne.mpr c_9), ?_⟩
    rw [if_neg c_9]
    show mw g w (mat M (Mat M + 0)) = _
    rw [ha]; congr 2; exact i_addL _ 0
  · rw [ct_eq P hk h0] at c_9
    refine j_iconst h (q := 13) (1) dX3_isNext_12 rfl (by decide) ?_
    refine j_goto h (tgt := 17) dX3_isNext_13 (by decide) ?_
    refine j_istore_n h (q := 18) (loc' := [(2, _), (0, _), (1, _)]) dX3_isNext_17 rfl (by decide) rfl ?_
    refine j_aload_n h (q := 19) 1 dX3_isNext_18 rfl rfl ?_
    refine j_dup h (q := 20) dX3_isNext_19 rfl rfl ?_
    refine j_get h (q := 23) inX3 (C := RX3) (T := TX3) (N := 17) (ci := 3) rfl 13 (by decide) mF_X3_171 (by decide) (mw_0 _ _ _) rfl dX3_isNext_20 rfl ?_
    refine j_iload_n h (q := 24) 0 dX3_isNext_23 rfl rfl ?_
    refine j_if_eq h (tgt := 31) (q := 27) dX3_isNext_24 rfl (by decide) (fun c_24 => ?_) (fun c_24 => ?_)
    · exact absurd c_24 (by decide)
    refine j_iconst h (q := 28) (1) dX3_isNext_27 rfl (by decide) ?_
    refine j_goto h (tgt := 32) dX3_isNext_28 (by decide) ?_
    refine j_iadd h (q := 33) dX3_isNext_32 rfl ?_
    refine j_put h (q := 36) inX3 (C := RX3) (T := TX3) (N := 17) (ci := 3) rfl tyX3_ok nmX3 13 (by decide) mF_X3_171 rfl rfl rfl (by first | rfl | decide) (by decide) (mw_0 _ _ _) (Nat.le_of_ble_eq_true rfl) dX3_isNext_33 rfl ?_
    refine j_stk rfl mw_u0 ?_
    refine j_iload_n h (q := 37) 0 dX3_isNext_36 rfl rfl ?_
    refine j_zret h rfl (by first | rfl | exact b2i_n _) dX3_isNext_37 ?_
    refine ⟨_, rfl, b2i_t (beq_iff_eq.mpr c_9), ?_⟩
    rw [if_pos c_9]
    show mw g w (mat M (Mat M + 1)) = _
    rw [ha, i_addL]

set_option maxRecDepth 100000 in
set_option maxHeartbeats 4000000 in
theorem m_takeDigit (g : jG) (w : jW) (M : Ms) {L : Nat} {ch : Nat → Nat} (P : MD M L ch) {i : Nat} (ha : Mat M = nI i) (hi : i < 1000) {m : Nat} (hm : m < 10)  : ConI g 2 yX3_takeDigit cX3_takeDigit 3 (some (.int)) [.ref (gr g 67), .int (nI m)] (mw g w M) (fun x w' => (48 ≤ tx L ch i ∧ tx L ch i ≤ 48 + m → x = nI (tx L ch i - 48) ∧ w' = mw g w (mat M (nI (i + 1)))) ∧ (¬ (48 ≤ tx L ch i ∧ tx L ch i ≤ 48 + m) → x = -1 ∧ w' = mw g w M)) := by
  refine con_of (by decide +kernel) (Nat.le_of_ble_eq_true rfl) [(0, _), (1, _)] rfl (fun K h => ?_)
  refine j_aload_n h (q := 1) 0 dX3_takeDigit_0 rfl rfl ?_
  refine j_aload_n h (q := 2) 0 dX3_takeDigit_1 rfl rfl ?_
  refine j_get h (q := 5) inX3 (C := RX3) (T := TX3) (N := 17) (ci := 3) rfl 13 (by decide) mF_X3_171 (by decide) (mw_0 _ _ _) rfl dX3_takeDigit_2 rfl ?_
  rw [ha]
  refine j_cV h (q := 8) (C := RX3) (T := TX3) (N := 17) (ci := 3) mo_X3_character mI_X3_character mV_X3_character mL_X3_174 (m_character g w M P (i := i) (by omega)) (by decide) (by decide) (mw_0 _ _ _) rfl rfl rfl (Nat.le_of_ble_eq_true rfl) dX3_takeDigit_5 rfl ?_
  rintro _ w5 ⟨x5, rfl, e⟩
  obtain ⟨rfl, rfl⟩ := e
  refine j_bipush h (q := 10) (48) dX3_takeDigit_8 rfl (by decide) ?_
  refine j_isub h (q := 11) dX3_takeDigit_10 rfl ?_
  refine j_istore_n h (q := 12) (loc' := [(2, _), (0, _), (1, _)]) dX3_takeDigit_11 rfl (by decide) rfl ?_
  refine j_iload_n h (q := 13) 0 dX3_takeDigit_12 rfl rfl ?_
  refine j_iconst h (q := 14) (0) dX3_takeDigit_13 rfl (by decide) ?_
  refine j_iload_n h (q := 15) 2 dX3_takeDigit_14 rfl rfl ?_
  refine j_cS h (q := 18) mo_X3_within mS_X3_within mL_X3_64 (m_within g _ _ _ _) (by decide) rfl rfl (Nat.le_of_ble_eq_true rfl) dX3_takeDigit_15 rfl ?_
  rintro _ w15 ⟨x15, rfl, e⟩
  obtain ⟨rfl, rfl⟩ := e
  rw [decide_eq_decide.mpr (ct_dig P hm)]
  refine j_if_ne h (tgt := 23) (q := 21) dX3_takeDigit_18 rfl (by decide) (fun c_18 => ?_) (fun c_18 => ?_)
  · rw [b2i_1, decide_eq_true_eq] at c_18
    refine j_aload_n h (q := 24) 1 dX3_takeDigit_23 rfl rfl ?_
    refine j_dup h (q := 25) dX3_takeDigit_24 rfl rfl ?_
    refine j_get h (q := 28) inX3 (C := RX3) (T := TX3) (N := 17) (ci := 3) rfl 13 (by decide) mF_X3_171 (by decide) (mw_0 _ _ _) rfl dX3_takeDigit_25 rfl ?_
    refine j_iconst h (q := 29) (1) dX3_takeDigit_28 rfl (by decide) ?_
    refine j_iadd h (q := 30) dX3_takeDigit_29 rfl ?_
    refine j_put h (q := 33) inX3 (C := RX3) (T := TX3) (N := 17) (ci := 3) rfl tyX3_ok nmX3 13 (by decide) mF_X3_171 rfl rfl rfl (by first | rfl | decide) (by decide) (mw_0 _ _ _) (Nat.le_of_ble_eq_true rfl) dX3_takeDigit_30 rfl ?_
    refine j_stk rfl mw_u0 ?_
    refine j_iload_n h (q := 34) 0 dX3_takeDigit_33 rfl rfl ?_
    refine j_iret h rfl dX3_takeDigit_34 ?_
    refine ⟨_, rfl, fun _ => ⟨ct_val P c_18, ?_⟩, fun z => absurd c_18 z⟩
    show mw g w (mat M (Mat M + 1)) = _
    rw [ha, i_addL]
  · rw [b2i_0, decide_eq_false_iff_not] at c_18
    refine j_iconst h (q := 22) (-1) dX3_takeDigit_21 rfl (by decide) ?_
    refine j_iret h rfl dX3_takeDigit_22 ?_
    exact ⟨_, rfl, fun z => absurd z c_18, fun _ => ⟨rfl, rfl⟩⟩

set_option maxRecDepth 100000 in
set_option maxHeartbeats 4000000 in
theorem m_takePile (g : jG) (w : jW) (M : Ms) {L : Nat} {ch : Nat → Nat} (P : MD M L ch) {i : Nat} (ha : Mat M = nI i) (hi : i < 1000)  : ConI g 3 yX3_takePile cX3_takePile 3 (some (.int)) [.ref (gr g 67)] (mw g w M) (fun x w' => x = (bif tdig L ch i then nI (tval L ch i) else -1) ∧ w' = mw g w (mat M (nI (tend L ch i)))) := by
  refine con_of (by decide +kernel) (Nat.le_of_ble_eq_true rfl) [(0, _)] rfl (fun K h => ?_)
  by_cases hd : tdig L ch i = true
  · have hd2 := tdig_e.mp hd
    have hP1 : MD (mat M (nI (i + 1))) L ch := P
    have h9 := tx_126 P (i + 1)
    have hL := P.2.1
    have hlt : i < L := tx_lt (L := L) (ch := ch) (by omega)
    refine j_aload_n h (q := 1) 0 dX3_takePile_0 rfl rfl ?_
    refine j_bipush h (q := 3) (9) dX3_takePile_1 rfl (by decide) ?_
    refine j_cV h (q := 6) (C := RX3) (T := TX3) (N := 17) (ci := 3) mo_X3_takeDigit mI_X3_takeDigit mV_X3_takeDigit mL_X3_177 (m_takeDigit g w M P ha hi (m := 9) (by decide)) (by decide) (by decide) (mw_0 _ _ _) rfl rfl rfl (Nat.le_of_ble_eq_true rfl) dX3_takePile_3 rfl ?_
    rintro _ w3 ⟨x3, rfl, e⟩
    obtain ⟨rfl, rfl⟩ := e.1 hd2
    refine j_istore_n h (q := 7) (loc' := [(1, _), (0, _)]) dX3_takePile_6 rfl (by decide) rfl ?_
    refine j_aload_n h (q := 8) 1 dX3_takePile_7 rfl rfl ?_
    refine j_aload_n h (q := 9) 1 dX3_takePile_8 rfl rfl ?_
    refine j_get h (q := 12) inX3 (C := RX3) (T := TX3) (N := 17) (ci := 3) rfl 13 (by decide) mF_X3_171 (by decide) (mw_0 _ _ _) rfl dX3_takePile_9 rfl ?_
    refine j_cV h (q := 15) (C := RX3) (T := TX3) (N := 17) (ci := 3) mo_X3_character mI_X3_character mV_X3_character mL_X3_174 (m_character g w (mat M (nI (i + 1))) hP1 (i := i + 1) (by omega)) (by decide) (by decide) (mw_0 _ _ _) rfl rfl rfl (Nat.le_of_ble_eq_true rfl) dX3_takePile_12 rfl ?_
    rintro _ w12 ⟨x12, rfl, e⟩
    obtain ⟨rfl, rfl⟩ := e
    refine j_bipush h (q := 17) (48) dX3_takePile_15 rfl (by decide) ?_
    refine j_isub h (q := 18) dX3_takePile_17 rfl ?_
    refine j_istore_n h (q := 19) (loc' := [(2, _), (1, _), (0, _)]) dX3_takePile_18 rfl (by decide) rfl ?_
    refine j_iload_n h (q := 20) 1 dX3_takePile_19 rfl rfl ?_
    refine j_if_le h (tgt := 61) (q := 23) dX3_takePile_20 rfl (by decide) (fun c_20 => ?_) (fun c_20 => ?_)
    · rw [i_leL (by omega) (by decide)] at c_20
      refine j_iload_n h (q := 62) 1 dX3_takePile_61 rfl rfl ?_
      refine j_iret h rfl dX3_takePile_62 ?_
      have hb : tbig L ch i = false := by
        unfold tbig
        cases z : tdig L ch (i + 1)
        · rfl
        · have z2 := tdig_e.mp z
          rw [decide_eq_false (show ¬ 10 ≤ ttwo L ch i by unfold ttwo; omega)]; rfl
      refine ⟨_, rfl, ?_, ?_⟩
      · rw [hd, tval_1 hb]; rfl
      · rw [tend_1 hd hb]
    · rw [i_leL (by omega) (by decide)] at c_20
      refine j_iload_n h (q := 24) 0 dX3_takePile_23 rfl rfl ?_
      refine j_iconst h (q := 25) (0) dX3_takePile_24 rfl (by decide) ?_
      refine j_bipush h (q := 27) (9) dX3_takePile_25 rfl (by decide) ?_
      refine j_cS h (q := 30) mo_X3_within mS_X3_within mL_X3_64 (m_within g _ _ _ _) (by decide) rfl rfl (Nat.le_of_ble_eq_true rfl) dX3_takePile_27 rfl ?_
      rintro _ w27 ⟨x27, rfl, e⟩
      obtain ⟨rfl, rfl⟩ := e
      rw [show decide (¬ ctI L ch (i + 1) - 48 < 0 ∧ ¬ (9 : Int32) < ctI L ch (i + 1) - 48) = decide (48 ≤ tx L ch (i + 1) ∧ tx L ch (i + 1) ≤ 48 + 9) from decide_eq_decide.mpr (ct_dig (m := 9) P (by decide))]
      refine j_if_eq h (tgt := 61) (q := 33) dX3_takePile_30 rfl (by decide) (fun c_30 => ?_) (fun c_30 => ?_)
      · rw [b2i_0, decide_eq_false_iff_not] at c_30
        refine j_iload_n h (q := 62) 1 dX3_takePile_61 rfl rfl ?_
        refine j_iret h rfl dX3_takePile_62 ?_
        have hb : tbig L ch i = false := by unfold tbig; rw [show tdig L ch (i + 1) = false by cases z : tdig L ch (i + 1) <;> first | rfl | exact absurd (tdig_e.mp z) c_30, Bool.false_and]
        refine ⟨_, rfl, ?_, ?_⟩
        · rw [hd, tval_1 hb]; rfl
        · rw [tend_1 hd hb]
      · rw [b2i_1, decide_eq_true_eq] at c_30
        rw [ct_val P c_30]
        refine j_bipush h (q := 35) (10) dX3_takePile_33 rfl (by decide) ?_
        refine j_iload_n h (q := 36) 1 dX3_takePile_35 rfl rfl ?_
        refine j_imul h (q := 37) dX3_takePile_36 rfl ?_
        refine j_iload_n h (q := 38) 0 dX3_takePile_37 rfl rfl ?_
        refine j_iadd h (q := 39) dX3_takePile_38 rfl ?_
        refine j_bipush h (q := 41) (22) dX3_takePile_39 rfl (by decide) ?_
        refine j_icmp_ge h (tgt := 61) (q := 44) dX3_takePile_41 rfl (by decide) (fun c_41 => ?_) (fun c_41 => ?_)
        · rw [i_Lmul, nI_add, i_Lle (by omega) (by decide)] at c_41
          refine j_iload_n h (q := 62) 1 dX3_takePile_61 rfl rfl ?_
          refine j_iret h rfl dX3_takePile_62 ?_
          have hb : tbig L ch i = false := by unfold tbig; rw [decide_eq_false (show ¬ ttwo L ch i < 22 by unfold ttwo; omega), Bool.and_false, Bool.and_false]
          refine ⟨_, rfl, ?_, ?_⟩
          · rw [hd, tval_1 hb]; rfl
          · rw [tend_1 hd hb]
        · rw [i_Lmul, nI_add, i_Lle (by omega) (by decide)] at c_41
          refine j_aload_n h (q := 45) 2 dX3_takePile_44 rfl rfl ?_
          refine j_dup h (q := 46) dX3_takePile_45 rfl rfl ?_
          refine j_get h (q := 49) inX3 (C := RX3) (T := TX3) (N := 17) (ci := 3) rfl 13 (by decide) mF_X3_171 (by decide) (mw_0 _ _ _) rfl dX3_takePile_46 rfl ?_
          refine j_iconst h (q := 50) (1) dX3_takePile_49 rfl (by decide) ?_
          refine j_iadd h (q := 51) dX3_takePile_50 rfl ?_
          refine j_put h (q := 54) inX3 (C := RX3) (T := TX3) (N := 17) (ci := 3) rfl tyX3_ok nmX3 13 (by decide) mF_X3_171 rfl rfl rfl (by first | rfl | decide) (by decide) (mw_0 _ _ _) (Nat.le_of_ble_eq_true rfl) dX3_takePile_51 rfl ?_
          refine j_stk rfl mw_u0 ?_
          refine j_bipush h (q := 56) (10) dX3_takePile_54 rfl (by decide) ?_
          refine j_iload_n h (q := 57) 1 dX3_takePile_56 rfl rfl ?_
          refine j_imul h (q := 58) dX3_takePile_57 rfl ?_
          refine j_iload_n h (q := 59) 0 dX3_takePile_58 rfl rfl ?_
          refine j_iadd h (q := 60) dX3_takePile_59 rfl ?_
          refine j_istore_n h (q := 61) (loc' := [(1, _), (2, _), (0, _)]) dX3_takePile_60 rfl (by decide) rfl ?_
          refine j_iload_n h (q := 62) 0 dX3_takePile_61 rfl rfl ?_
          refine j_iret h rfl dX3_takePile_62 ?_
          have hdd : tdig L ch (i + 1) = true := tdig_e.mpr c_30
          have hb : tbig L ch i = true := by unfold tbig; rw [hdd, decide_eq_true (show 10 ≤ ttwo L ch i by unfold ttwo; omega), decide_eq_true (show ttwo L ch i < 22 by unfold ttwo; omega)]; rfl
          refine ⟨_, rfl, ?_, ?_⟩
          · rw [hd, tval_2 hb, i_Lmul, nI_add]; rfl
          · rw [tend_2 hd hb]
            show mw g w (mat M (nI (i + 1) + 1)) = _
            rw [i_addL]
  · have hd2 : ¬ (48 ≤ tx L ch i ∧ tx L ch i ≤ 48 + 9) := fun z => hd (tdig_e.mpr z)
    have hf : tdig L ch i = false := by cases z : tdig L ch i <;> first | rfl | exact absurd z hd
    refine j_aload_n h (q := 1) 0 dX3_takePile_0 rfl rfl ?_
    refine j_bipush h (q := 3) (9) dX3_takePile_1 rfl (by decide) ?_
    refine j_cV h (q := 6) (C := RX3) (T := TX3) (N := 17) (ci := 3) mo_X3_takeDigit mI_X3_takeDigit mV_X3_takeDigit mL_X3_177 (m_takeDigit g w M P ha hi (m := 9) (by decide)) (by decide) (by decide) (mw_0 _ _ _) rfl rfl rfl (Nat.le_of_ble_eq_true rfl) dX3_takePile_3 rfl ?_
    rintro _ w3 ⟨x3, rfl, e⟩
    obtain ⟨rfl, rfl⟩ := e.2 hd2
    refine j_istore_n h (q := 7) (loc' := [(1, _), (0, _)]) dX3_takePile_6 rfl (by decide) rfl ?_
    refine j_aload_n h (q := 8) 1 dX3_takePile_7 rfl rfl ?_
    refine j_aload_n h (q := 9) 1 dX3_takePile_8 rfl rfl ?_
    refine j_get h (q := 12) inX3 (C := RX3) (T := TX3) (N := 17) (ci := 3) rfl 13 (by decide) mF_X3_171 (by decide) (mw_0 _ _ _) rfl dX3_takePile_9 rfl ?_
    rw [ha]
    refine j_cV h (q := 15) (C := RX3) (T := TX3) (N := 17) (ci := 3) mo_X3_character mI_X3_character mV_X3_character mL_X3_174 (m_character g w M P (i := i) hi) (by decide) (by decide) (mw_0 _ _ _) rfl rfl rfl (Nat.le_of_ble_eq_true rfl) dX3_takePile_12 rfl ?_
    rintro _ w12 ⟨x12, rfl, e⟩
    obtain ⟨rfl, rfl⟩ := e
    refine j_bipush h (q := 17) (48) dX3_takePile_15 rfl (by decide) ?_
    refine j_isub h (q := 18) dX3_takePile_17 rfl ?_
    refine j_istore_n h (q := 19) (loc' := [(2, _), (1, _), (0, _)]) dX3_takePile_18 rfl (by decide) rfl ?_
    refine j_iload_n h (q := 20) 1 dX3_takePile_19 rfl rfl ?_
    refine j_if_le h (tgt := 61) (q := 23) dX3_takePile_20 rfl (by decide) (fun c_20 => ?_) (fun c_20 => ?_)
    rotate_left
    · exact absurd (show (-1 : Int32) ≤ 0 by decide) c_20
    refine j_iload_n h (q := 62) 1 dX3_takePile_61 rfl rfl ?_
    refine j_iret h rfl dX3_takePile_62 ?_
    refine ⟨_, rfl, by rw [hf]; rfl, ?_⟩
    rw [tend_no hf, ← ha]
