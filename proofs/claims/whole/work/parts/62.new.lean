/-! CONSTRUCTORS THAT MAKE ROWS: an object at the place t, its rows at t+1, t+2 .. as they come. -/
def gst (C : Nat → va_E) (ci : Nat) (w : jW) (t j : Nat) (fs : List Value) : jW := fun p => if p = t then .inr (ci, fs) else if t < p ∧ p ≤ t + j then C (p - t) else w p
theorem gst_t (C : Nat → va_E) (ci : Nat) (w : jW) (t j : Nat) (fs : List Value) : gst C ci w t j fs t = .inr (ci, fs) := if_pos rfl
theorem gst_0 {C : Nat → va_E} {ci : Nat} {w : jW} {t : Nat} {fs : List Value} (h : w t = .inr (ci, fs)) : w = gst C ci w t 0 fs := by
  funext p
  unfold gst
  by_cases hp : p = t
  · subst hp; rw [if_pos rfl]; exact h
  · rw [if_neg hp, if_neg (by omega)]
theorem gst_p (C : Nat → va_E) (ci : Nat) (w : jW) (t j : Nat) (fs fs' : List Value) : va_up (gst C ci w t j fs) t (.inr (ci, fs')) = gst C ci w t j fs' := by
  funext p
  unfold gst va_up
  dsimp only
  by_cases hp : p = t
  · rw [if_pos hp, if_pos hp]
  · rw [if_neg hp, if_neg hp, if_neg hp]
theorem gst_n {C : Nat → va_E} {ci : Nat} {w : jW} {t j : Nat} {fs : List Value} {c : va_E} (h : C (j + 1) = c) : va_up (gst C ci w t j fs) (t + (j + 1)) c = gst C ci w t (j + 1) fs := by
  funext p
  unfold gst va_up
  dsimp only
  by_cases hp : p = t + (j + 1)
  · rw [if_pos hp, if_neg (by omega), if_pos (by omega), show p - t = j + 1 by omega, h]
  · rw [if_neg hp]
    by_cases h2 : p = t
    · rw [if_pos h2, if_pos h2]
    · rw [if_neg h2, if_neg h2]
      by_cases h3 : t < p ∧ p ≤ t + j
      · rw [if_pos h3, if_pos (by omega)]
      · rw [if_neg h3, if_neg (by omega)]
theorem gst_l {C : Nat → va_E} {ci : Nat} {w : jW} {t j : Nat} {fs : List Value} (h : liveE (C (j + 1)) = true) : liveE (gst C ci w t (j + 1) fs (t + (j + 1))) = true := by
  unfold gst
  rw [if_neg (by omega), if_pos (by omega), Nat.add_sub_cancel_left]
  exact h
abbrev Tz : Ts := (fun _ => 0, fun _ => 0, fun _ => 0, fun _ => 0, fun _ => 0, 0, 0, 0, 0)
abbrev Mz : Ms := (fun _ => 0, fun _ => 0, fun _ => 0, 0, fun _ => 0, fun _ => 0, fun _ => 0, 0, fun _ => 0, fun _ => 0, fun _ => 0, 0, 0, 0, 0, 0, 0)
abbrev T0s : List Value := [.null, .null, .null, .null, .null, .int 0, .int 0, .int 0, .int 0]
abbrev P0s : List Value := [.null, .int 0]
abbrev M0s : List Value := [.null, .null, .null, .int 0, .null, .null, .null, .int 0, .null, .null, .null, .int 0, .int 0, .int 0, .int 0, .int 0, .int 0]
abbrev X0s : List Value := [.null, .null, .null, .null, .null, .null, .null, .int 0, .int 0]

theorem gst_tab (g : jG) (w : jW) (t : Nat) : gst (tcell g t Tz) 1 w t 5 [.ref (gr g (t + (0 + 1))), .ref (gr g (t + (1 + 1))), .ref (gr g (t + (2 + 1))), .ref (gr g (t + (3 + 1))), .ref (gr g (t + (4 + 1))), .int 0, .int 0, .int 0, .int 0] = tab g w t Tz := by
  funext p
  unfold gst tab
  by_cases hp : p = t
  · subst hp; rw [if_pos rfl, if_pos (by omega), Nat.sub_self]; rfl
  · rw [if_neg hp]
    by_cases h2 : t < p ∧ p ≤ t + 5
    · rw [if_pos h2, if_pos (by omega)]
    · rw [if_neg h2, if_neg (by omega)]
set_option maxHeartbeats 4000000 in
set_option maxRecDepth 100000 in
/-- Table(): five rows of zeros -/
theorem C_X1_init (g : jG) (w : jW) (t sz : Nat) (ht : t + 6 ≤ NW) (hw : w t = .inr (1, T0s)) (hgr : ∀ j, j < 5 → gr g (t + (j + 1)) = sz + j) : ConC g 1 5 684 yX1_init cX1_init 1 sz [.ref (gr g t)] w (fun w9 => w9 = tab g w t Tz) := by
  refine conC_of (by decide +kernel) rfl (Nat.le_of_ble_eq_true rfl) [(0, _)] rfl (fun K Q h hZ hA hO hi hend => ?_)
  refine n_w (gst_0 (C := tcell g t Tz) hw) ?_
  refine n_aload_n h (q := 1) 0 rfl dX1_init_0 rfl ?_
  refine n_objInit h (q := 4) mL_X1_3 (Nat.le_of_ble_eq_true rfl) (Nat.le_of_ble_eq_true rfl) dX1_init_1 rfl ?_
  refine n_aload_n h (q := 5) 0 rfl dX1_init_4 rfl ?_
  refine n_sipush h (q := 8) (650) (by decide) dX1_init_5 rfl ?_
  refine n_newa h (q := 10) (N := 650) (z := (t + (0 + 1))) (by decide) (by decide +kernel) (Nat.le_of_ble_eq_true rfl) (Nat.le_of_ble_eq_true rfl) (Nat.le_of_ble_eq_true rfl) (by have h1 := hgr 0 (by decide); omega) (Or.inl rfl) dX1_init_8 rfl ?_
  refine n_w (gst_n (C := (tcell g t Tz)) (j := 0) rfl) ?_
  refine n_putF h (q := 13) inX1 (C := RX1) (T := TX1) (N := 9) (ci := 1) rfl tyX1_ok nmX1 0 (by decide) mF_X1_9 rfl hi rfl rfl rfl rfl (by omega) (gst_t _ _ _ _ _ _) (Nat.le_of_ble_eq_true rfl) dX1_init_10 rfl ?_
  refine n_w (gst_p (tcell g t Tz) 1 w t 1 _ _) ?_
  refine n_aload_n h (q := 14) 0 rfl dX1_init_13 rfl ?_
  refine n_bipush h (q := 16) (22) (by decide) dX1_init_14 rfl ?_
  refine n_newa h (q := 18) (N := 22) (z := (t + (1 + 1))) (by decide) (by decide +kernel) (Nat.le_of_ble_eq_true rfl) (Nat.le_of_ble_eq_true rfl) (Nat.le_of_ble_eq_true rfl) (by have h1 := hgr 1 (by decide); omega) (Or.inr ⟨t + (0 + 1), by omega, gst_l rfl, by have h1 := hgr 0 (by decide); omega⟩) dX1_init_16 rfl ?_
  refine n_w (gst_n (C := (tcell g t Tz)) (j := 1) rfl) ?_
  refine n_putF h (q := 21) inX1 (C := RX1) (T := TX1) (N := 9) (ci := 1) rfl tyX1_ok nmX1 1 (by decide) mF_X1_15 rfl hi rfl rfl rfl rfl (by omega) (gst_t _ _ _ _ _ _) (Nat.le_of_ble_eq_true rfl) dX1_init_18 rfl ?_
  refine n_w (gst_p (tcell g t Tz) 1 w t 2 _ _) ?_
  refine n_aload_n h (q := 22) 0 rfl dX1_init_21 rfl ?_
  refine n_iconst h (q := 23) (2) (by decide) dX1_init_22 rfl ?_
  refine n_newa h (q := 25) (N := 2) (z := (t + (2 + 1))) (by decide) (by decide +kernel) (Nat.le_of_ble_eq_true rfl) (Nat.le_of_ble_eq_true rfl) (Nat.le_of_ble_eq_true rfl) (by have h1 := hgr 2 (by decide); omega) (Or.inr ⟨t + (1 + 1), by omega, gst_l rfl, by have h1 := hgr 1 (by decide); omega⟩) dX1_init_23 rfl ?_
  refine n_w (gst_n (C := (tcell g t Tz)) (j := 2) rfl) ?_
  refine n_putF h (q := 28) inX1 (C := RX1) (T := TX1) (N := 9) (ci := 1) rfl tyX1_ok nmX1 2 (by decide) mF_X1_18 rfl hi rfl rfl rfl rfl (by omega) (gst_t _ _ _ _ _ _) (Nat.le_of_ble_eq_true rfl) dX1_init_25 rfl ?_
  refine n_w (gst_p (tcell g t Tz) 1 w t 3 _ _) ?_
  refine n_aload_n h (q := 29) 0 rfl dX1_init_28 rfl ?_
  refine n_iconst h (q := 30) (2) (by decide) dX1_init_29 rfl ?_
  refine n_newa h (q := 32) (N := 2) (z := (t + (3 + 1))) (by decide) (by decide +kernel) (Nat.le_of_ble_eq_true rfl) (Nat.le_of_ble_eq_true rfl) (Nat.le_of_ble_eq_true rfl) (by have h1 := hgr 3 (by decide); omega) (Or.inr ⟨t + (2 + 1), by omega, gst_l rfl, by have h1 := hgr 2 (by decide); omega⟩) dX1_init_30 rfl ?_
  refine n_w (gst_n (C := (tcell g t Tz)) (j := 3) rfl) ?_
  refine n_putF h (q := 35) inX1 (C := RX1) (T := TX1) (N := 9) (ci := 1) rfl tyX1_ok nmX1 3 (by decide) mF_X1_21 rfl hi rfl rfl rfl rfl (by omega) (gst_t _ _ _ _ _ _) (Nat.le_of_ble_eq_true rfl) dX1_init_32 rfl ?_
  refine n_w (gst_p (tcell g t Tz) 1 w t 4 _ _) ?_
  refine n_aload_n h (q := 36) 0 rfl dX1_init_35 rfl ?_
  refine n_bipush h (q := 38) (8) (by decide) dX1_init_36 rfl ?_
  refine n_newa h (q := 40) (N := 8) (z := (t + (4 + 1))) (by decide) (by decide +kernel) (Nat.le_of_ble_eq_true rfl) (Nat.le_of_ble_eq_true rfl) (Nat.le_of_ble_eq_true rfl) (by have h1 := hgr 4 (by decide); omega) (Or.inr ⟨t + (3 + 1), by omega, gst_l rfl, by have h1 := hgr 3 (by decide); omega⟩) dX1_init_38 rfl ?_
  refine n_w (gst_n (C := (tcell g t Tz)) (j := 4) rfl) ?_
  refine n_putF h (q := 43) inX1 (C := RX1) (T := TX1) (N := 9) (ci := 1) rfl tyX1_ok nmX1 4 (by decide) mF_X1_24 rfl hi rfl rfl rfl rfl (by omega) (gst_t _ _ _ _ _ _) (Nat.le_of_ble_eq_true rfl) dX1_init_40 rfl ?_
  refine n_w (gst_p (tcell g t Tz) 1 w t 5 _ _) ?_
  refine n_w (gst_tab g w t) ?_
  exact hend 43 dX1_init_43 _ _ rfl
theorem mF_inX0_dummy : True := trivial
def pcell (g : jG) (_ : Nat) : va_E := .inl (gI g, 60, .inl (fun _ => 0))
set_option maxHeartbeats 4000000 in
set_option maxRecDepth 100000 in
/-- Pad(): a row of zeros -/
theorem C_X0_init (g : jG) (w : jW) (sz : Nat) (hw : w 5 = .inr (0, P0s)) (hgr : gr g 6 = sz) : ConC g 1 1 60 yX0_init cX0_init 1 sz [.ref (gr g 5)] w (fun w9 => w9 = gst (pcell g) 0 w 5 1 [.ref (gr g 6), .int 0]) := by
  refine conC_of (by decide +kernel) rfl (Nat.le_of_ble_eq_true rfl) [(0, _)] rfl (fun K Q h hZ hA hO hi hend => ?_)
  have ht : 5 + 2 ≤ NW := by decide
  have hgr : ∀ j, j < 1 → gr g (5 + (j + 1)) = sz + j := fun j hj => by rw [show j = 0 by omega]; exact hgr
  refine n_w (gst_0 (C := pcell g) hw) ?_
  refine n_aload_n h (q := 1) 0 rfl dX0_init_0 rfl ?_
  refine n_objInit h (q := 4) mL_X0_3 (Nat.le_of_ble_eq_true rfl) (Nat.le_of_ble_eq_true rfl) dX0_init_1 rfl ?_
  refine n_aload_n h (q := 5) 0 rfl dX0_init_4 rfl ?_
  refine n_bipush h (q := 7) (60) (by decide) dX0_init_5 rfl ?_
  refine n_newa h (q := 9) (N := 60) (z := (5 + (0 + 1))) (by decide) (by decide +kernel) (Nat.le_of_ble_eq_true rfl) (Nat.le_of_ble_eq_true rfl) (Nat.le_of_ble_eq_true rfl) (by have h1 := hgr 0 (by decide); omega) (Or.inl rfl) dX0_init_7 rfl ?_
  refine n_w (gst_n (C := (pcell g)) (j := 0) rfl) ?_
  refine n_putF h (q := 12) inX0 (C := RX0) (T := TX0) (N := 2) (ci := 0) rfl tyX0_ok nmX0 0 (by decide) mF_X0_9 rfl hi rfl rfl rfl rfl (by omega) (gst_t _ _ _ _ _ _) (Nat.le_of_ble_eq_true rfl) dX0_init_9 rfl ?_
  refine n_w (gst_p (pcell g) 0 w 5 1 _ _) ?_
  refine n_aload_n h (q := 13) 0 rfl dX0_init_12 rfl ?_
  refine n_iconst h (q := 14) (0) (by decide) dX0_init_13 rfl ?_
  refine n_put h (q := 17) inX0 (C := RX0) (T := TX0) (N := 2) (ci := 0) rfl tyX0_ok nmX0 1 (by decide) mF_X0_15 rfl rfl rfl rfl (by omega) (gst_t _ _ _ _ _ _) (Nat.le_of_ble_eq_true rfl) dX0_init_14 rfl ?_
  refine n_w (gst_p (pcell g) 0 w 5 1 _ _) ?_
  exact hend 17 dX0_init_17 _ _ rfl
theorem gst_mw (g : jG) (w : jW) : gst (mcell g Mz) 3 w 67 9 [.ref (gr g (67 + (0 + 1))), .ref (gr g (67 + (1 + 1))), .ref (gr g (67 + (2 + 1))), .int 0, .ref (gr g (67 + (3 + 1))), .ref (gr g (67 + (4 + 1))), .ref (gr g (67 + (5 + 1))), .int 0, .ref (gr g (67 + (6 + 1))), .ref (gr g (67 + (7 + 1))), .ref (gr g (67 + (8 + 1))), .int 0, .int 0, .int 0, .int 0, .int 0, .int 0] = mw g w Mz := by
  funext p
  unfold gst mw
  by_cases hp : p = 67
  · subst hp; rw [if_pos rfl, if_pos (by omega), Nat.sub_self]; rfl
  · rw [if_neg hp]
    by_cases h2 : 67 < p ∧ p ≤ 67 + 9
    · rw [if_pos h2, if_pos (by omega)]
    · rw [if_neg h2, if_neg (by omega)]
theorem MX_0 {st pk : Nat → Int32} (R : MR st (dealG 1)) : MX (spk (sst Mz st) pk) sg0 :=
  ⟨R, rfl, fun i hi => absurd hi (Nat.not_lt_zero _), fun i _ => Or.inl ⟨rfl, rfl⟩, rfl, fun i hi => absurd hi (Nat.not_lt_zero _)⟩
set_option maxHeartbeats 4000000 in
set_option maxRecDepth 100000 in
/-- the reference, new -/
theorem C_X3_init (g : jG) (w : jW) (sz : Nat) (hw : w 67 = .inr (3, M0s)) (hgr : ∀ j, j < 9 → gr g (67 + (j + 1)) = sz + j) : ConC g 3 9 2398 yX3_init cX3_init 1 sz [.ref (gr g 67)] w (fun w9 => ∃ M, w9 = mw g w M ∧ MX M sg0) := by
  refine conC_of (by decide +kernel) rfl (Nat.le_of_ble_eq_true rfl) [(0, _)] rfl (fun K Q h hZ hA hO hi hend => ?_)
  have ht : 67 + 10 ≤ NW := by decide
  refine n_w (gst_0 (C := mcell g Mz) hw) ?_
  refine n_aload_n h (q := 1) 0 rfl dX3_init_0 rfl ?_
  refine n_objInit h (q := 4) mL_X3_1 (Nat.le_of_ble_eq_true rfl) (Nat.le_of_ble_eq_true rfl) dX3_init_1 rfl ?_
  refine n_aload_n h (q := 5) 0 rfl dX3_init_4 rfl ?_
  refine n_sipush h (q := 8) (224) (by decide) dX3_init_5 rfl ?_
  refine n_newa h (q := 10) (N := 224) (z := (67 + (0 + 1))) (by decide) (by decide +kernel) (Nat.le_of_ble_eq_true rfl) (Nat.le_of_ble_eq_true rfl) (Nat.le_of_ble_eq_true rfl) (by have h1 := hgr 0 (by decide); omega) (Or.inl rfl) dX3_init_8 rfl ?_
  refine n_w (gst_n (C := (mcell g Mz)) (j := 0) rfl) ?_
  refine n_putF h (q := 13) inX3 (C := RX3) (T := TX3) (N := 17) (ci := 3) rfl tyX3_ok nmX3 0 (by decide) mF_X3_7 rfl hi rfl rfl rfl rfl (by omega) (gst_t _ _ _ _ _ _) (Nat.le_of_ble_eq_true rfl) dX3_init_10 rfl ?_
  refine n_w (gst_p (mcell g Mz) 3 w 67 1 _ _) ?_
  refine n_aload_n h (q := 14) 0 rfl dX3_init_13 rfl ?_
  refine n_sipush h (q := 17) (224) (by decide) dX3_init_14 rfl ?_
  refine n_newa h (q := 19) (N := 224) (z := (67 + (1 + 1))) (by decide) (by decide +kernel) (Nat.le_of_ble_eq_true rfl) (Nat.le_of_ble_eq_true rfl) (Nat.le_of_ble_eq_true rfl) (by have h1 := hgr 1 (by decide); omega) (Or.inr ⟨67 + (0 + 1), by omega, gst_l rfl, by have h1 := hgr 0 (by decide); omega⟩) dX3_init_17 rfl ?_
  refine n_w (gst_n (C := (mcell g Mz)) (j := 1) rfl) ?_
  refine n_putF h (q := 22) inX3 (C := RX3) (T := TX3) (N := 17) (ci := 3) rfl tyX3_ok nmX3 1 (by decide) mF_X3_13 rfl hi rfl rfl rfl rfl (by omega) (gst_t _ _ _ _ _ _) (Nat.le_of_ble_eq_true rfl) dX3_init_19 rfl ?_
  refine n_w (gst_p (mcell g Mz) 3 w 67 2 _ _) ?_
  refine n_aload_n h (q := 23) 0 rfl dX3_init_22 rfl ?_
  refine n_sipush h (q := 26) (1344) (by decide) dX3_init_23 rfl ?_
  refine n_newa h (q := 28) (N := 1344) (z := (67 + (2 + 1))) (by decide) (by decide +kernel) (Nat.le_of_ble_eq_true rfl) (Nat.le_of_ble_eq_true rfl) (Nat.le_of_ble_eq_true rfl) (by have h1 := hgr 2 (by decide); omega) (Or.inr ⟨67 + (1 + 1), by omega, gst_l rfl, by have h1 := hgr 1 (by decide); omega⟩) dX3_init_26 rfl ?_
  refine n_w (gst_n (C := (mcell g Mz)) (j := 2) rfl) ?_
  refine n_putF h (q := 31) inX3 (C := RX3) (T := TX3) (N := 17) (ci := 3) rfl tyX3_ok nmX3 2 (by decide) mF_X3_16 rfl hi rfl rfl rfl rfl (by omega) (gst_t _ _ _ _ _ _) (Nat.le_of_ble_eq_true rfl) dX3_init_28 rfl ?_
  refine n_w (gst_p (mcell g Mz) 3 w 67 3 _ _) ?_
  refine n_aload_n h (q := 32) 0 rfl dX3_init_31 rfl ?_
  refine n_sipush h (q := 35) (448) (by decide) dX3_init_32 rfl ?_
  refine n_newa h (q := 37) (N := 448) (z := (67 + (3 + 1))) (by decide) (by decide +kernel) (Nat.le_of_ble_eq_true rfl) (Nat.le_of_ble_eq_true rfl) (Nat.le_of_ble_eq_true rfl) (by have h1 := hgr 3 (by decide); omega) (Or.inr ⟨67 + (2 + 1), by omega, gst_l rfl, by have h1 := hgr 2 (by decide); omega⟩) dX3_init_35 rfl ?_
  refine n_w (gst_n (C := (mcell g Mz)) (j := 3) rfl) ?_
  refine n_putF h (q := 40) inX3 (C := RX3) (T := TX3) (N := 17) (ci := 3) rfl tyX3_ok nmX3 4 (by decide) mF_X3_19 rfl hi rfl rfl rfl rfl (by omega) (gst_t _ _ _ _ _ _) (Nat.le_of_ble_eq_true rfl) dX3_init_37 rfl ?_
  refine n_w (gst_p (mcell g Mz) 3 w 67 4 _ _) ?_
  refine n_aload_n h (q := 41) 0 rfl dX3_init_40 rfl ?_
  refine n_iconst h (q := 42) (2) (by decide) dX3_init_41 rfl ?_
  refine n_newa h (q := 44) (N := 2) (z := (67 + (4 + 1))) (by decide) (by decide +kernel) (Nat.le_of_ble_eq_true rfl) (Nat.le_of_ble_eq_true rfl) (Nat.le_of_ble_eq_true rfl) (by have h1 := hgr 4 (by decide); omega) (Or.inr ⟨67 + (3 + 1), by omega, gst_l rfl, by have h1 := hgr 3 (by decide); omega⟩) dX3_init_42 rfl ?_
  refine n_w (gst_n (C := (mcell g Mz)) (j := 4) rfl) ?_
  refine n_putF h (q := 47) inX3 (C := RX3) (T := TX3) (N := 17) (ci := 3) rfl tyX3_ok nmX3 5 (by decide) mF_X3_22 rfl hi rfl rfl rfl rfl (by omega) (gst_t _ _ _ _ _ _) (Nat.le_of_ble_eq_true rfl) dX3_init_44 rfl ?_
  refine n_w (gst_p (mcell g Mz) 3 w 67 5 _ _) ?_
  refine n_aload_n h (q := 48) 0 rfl dX3_init_47 rfl ?_
  refine n_bipush h (q := 50) (60) (by decide) dX3_init_48 rfl ?_
  refine n_newa h (q := 52) (N := 60) (z := (67 + (5 + 1))) (by decide) (by decide +kernel) (Nat.le_of_ble_eq_true rfl) (Nat.le_of_ble_eq_true rfl) (Nat.le_of_ble_eq_true rfl) (by have h1 := hgr 5 (by decide); omega) (Or.inr ⟨67 + (4 + 1), by omega, gst_l rfl, by have h1 := hgr 4 (by decide); omega⟩) dX3_init_50 rfl ?_
  refine n_w (gst_n (C := (mcell g Mz)) (j := 5) rfl) ?_
  refine n_putF h (q := 55) inX3 (C := RX3) (T := TX3) (N := 17) (ci := 3) rfl tyX3_ok nmX3 6 (by decide) mF_X3_25 rfl hi rfl rfl rfl rfl (by omega) (gst_t _ _ _ _ _ _) (Nat.le_of_ble_eq_true rfl) dX3_init_52 rfl ?_
  refine n_w (gst_p (mcell g Mz) 3 w 67 6 _ _) ?_
  refine n_aload_n h (q := 56) 0 rfl dX3_init_55 rfl ?_
  refine n_bipush h (q := 58) (22) (by decide) dX3_init_56 rfl ?_
  refine n_newa h (q := 60) (N := 22) (z := (67 + (6 + 1))) (by decide) (by decide +kernel) (Nat.le_of_ble_eq_true rfl) (Nat.le_of_ble_eq_true rfl) (Nat.le_of_ble_eq_true rfl) (by have h1 := hgr 6 (by decide); omega) (Or.inr ⟨67 + (5 + 1), by omega, gst_l rfl, by have h1 := hgr 5 (by decide); omega⟩) dX3_init_58 rfl ?_
  refine n_w (gst_n (C := (mcell g Mz)) (j := 6) rfl) ?_
  refine n_putF h (q := 63) inX3 (C := RX3) (T := TX3) (N := 17) (ci := 3) rfl tyX3_ok nmX3 8 (by decide) mF_X3_28 rfl hi rfl rfl rfl rfl (by omega) (gst_t _ _ _ _ _ _) (Nat.le_of_ble_eq_true rfl) dX3_init_60 rfl ?_
  refine n_w (gst_p (mcell g Mz) 3 w 67 7 _ _) ?_
  refine n_aload_n h (q := 64) 0 rfl dX3_init_63 rfl ?_
  refine n_bipush h (q := 66) (22) (by decide) dX3_init_64 rfl ?_
  refine n_newa h (q := 68) (N := 22) (z := (67 + (7 + 1))) (by decide) (by decide +kernel) (Nat.le_of_ble_eq_true rfl) (Nat.le_of_ble_eq_true rfl) (Nat.le_of_ble_eq_true rfl) (by have h1 := hgr 7 (by decide); omega) (Or.inr ⟨67 + (6 + 1), by omega, gst_l rfl, by have h1 := hgr 6 (by decide); omega⟩) dX3_init_66 rfl ?_
  refine n_w (gst_n (C := (mcell g Mz)) (j := 7) rfl) ?_
  refine n_putF h (q := 71) inX3 (C := RX3) (T := TX3) (N := 17) (ci := 3) rfl tyX3_ok nmX3 9 (by decide) mF_X3_31 rfl hi rfl rfl rfl rfl (by omega) (gst_t _ _ _ _ _ _) (Nat.le_of_ble_eq_true rfl) dX3_init_68 rfl ?_
  refine n_w (gst_p (mcell g Mz) 3 w 67 8 _ _) ?_
  refine n_aload_n h (q := 72) 0 rfl dX3_init_71 rfl ?_
  refine n_bipush h (q := 74) (52) (by decide) dX3_init_72 rfl ?_
  refine n_newa h (q := 76) (N := 52) (z := (67 + (8 + 1))) (by decide) (by decide +kernel) (Nat.le_of_ble_eq_true rfl) (Nat.le_of_ble_eq_true rfl) (Nat.le_of_ble_eq_true rfl) (by have h1 := hgr 8 (by decide); omega) (Or.inr ⟨67 + (7 + 1), by omega, gst_l rfl, by have h1 := hgr 7 (by decide); omega⟩) dX3_init_74 rfl ?_
  refine n_w (gst_n (C := (mcell g Mz)) (j := 8) rfl) ?_
  refine n_putF h (q := 79) inX3 (C := RX3) (T := TX3) (N := 17) (ci := 3) rfl tyX3_ok nmX3 10 (by decide) mF_X3_34 rfl hi rfl rfl rfl rfl (by omega) (gst_t _ _ _ _ _ _) (Nat.le_of_ble_eq_true rfl) dX3_init_76 rfl ?_
  refine n_w (gst_p (mcell g Mz) 3 w 67 9 _ _) ?_
  refine n_w (gst_mw g w) ?_
  refine n_aload_n h (q := 80) 0 rfl dX3_init_79 rfl ?_
  refine n_iconst h (q := 81) (nI 1) (by decide) dX3_init_80 rfl ?_
  refine n_cV h (q := 84) (C := RX3) (T := TX3) (N := 17) (ci := 3) mo_X3_deals mI_X3_deals mV_X3_deals mL_X3_37 (m_deals g w Mz (x := 1) (by decide)) (by decide) (by decide) (Nat.le_of_ble_eq_true rfl) (Nat.le_of_ble_eq_true rfl) (by decide) (mw_0 _ _ _) rfl rfl rfl (Nat.le_of_ble_eq_true rfl) dX3_init_81 rfl ?_
  rintro _ w9 ⟨rfl, st, pk, rfl, Rm⟩
  exact hend 84 dX3_init_84 _ _ ⟨_, rfl, MX_0 Rm⟩
