abbrev smm (M : Ms) (a b : Int32) : Ms := sints M (Mrc M) (Mpl M) a b (Mat M) (Mle M) (Mfi M) (Mse M)
/-- what a search by number has found after the first m pairs -/
def FM (γ : Gm) (x : Int32) (m : Nat) (a b : Int32) : Prop := (∀ j (h : j < (LM γ m).length), x = nI j → a = nI ((LM γ m)[j] / 22) ∧ b = nI ((LM γ m)[j] % 22)) ∧ ((∀ j, j < (LM γ m).length → ¬ x = nI j) → a = -6)
theorem FM_0 (γ : Gm) (x b : Int32) : FM γ x 0 (-6) b := ⟨fun j h => absurd h (Nat.not_lt_zero j), fun _ => rfl⟩
theorem FM_n {γ : Gm} {x : Int32} {m : Nat} {a b : Int32} (h : FM γ x m a b) (hk : okM γ m = false) : FM γ x (m + 1) a b := by
  have e : LM γ (m + 1) = LM γ m := by rw [LM_s, if_neg (by rw [hk]; decide)]
  refine ⟨fun j hj hx => ?_, fun hx => h.2 (fun j hj => hx j (by rw [e]; exact hj))⟩
  have hj2 : j < (LM γ m).length := by rw [e] at hj; exact hj
  have := h.1 j hj2 hx
  simp only [e]
  exact this
theorem FM_y {γ : Gm} (G : GI γ) {x : Int32} {m : Nat} (hm : m < 308) (hk : okM γ m = true) (hx : nI (LM γ m).length = x) : FM γ x (m + 1) (nI (m / 22)) (nI (m % 22)) := by
  have e : LM γ (m + 1) = LM γ m ++ [m] := by rw [LM_s, if_pos hk]
  have b1 := LM_le (γ := γ) (k := m) (by omega)
  have b2 := list_170 G
  refine ⟨fun j hj h2 => ?_, fun h2 => absurd hx.symm (h2 _ (by rw [e, List.length_append]; exact Nat.lt_succ_self _))⟩
  have hj2 : j < (LM γ m).length + 1 := by rw [e, List.length_append] at hj; exact hj
  have hj3 : (LM γ m).length = j := (nI_eqS (by omega) (by omega)).mp (hx.trans h2)
  subst hj3
  have q : (LM γ (m + 1))[(LM γ m).length] = m := by simp [e]
  rw [q]; exact ⟨rfl, rfl⟩
theorem FM_z {γ : Gm} {x : Int32} {m : Nat} {a b : Int32} (h : FM γ x m a b) (hk : okM γ m = true) (hx : ¬ nI (LM γ m).length = x) : FM γ x (m + 1) a b := by
  have e : LM γ (m + 1) = LM γ m ++ [m] := by rw [LM_s, if_pos hk]
  refine ⟨fun j hj h2 => ?_, fun h2 => h.2 (fun j hj => h2 j (by rw [e, List.length_append]; exact Nat.lt_succ_of_lt hj))⟩
  have hj2 : j < (LM γ m).length + 1 := by rw [e, List.length_append] at hj; exact hj
  have hj3 : j < (LM γ m).length := by
    rcases Nat.lt_or_ge j (LM γ m).length with z | z
    · exact z
    · rw [show j = (LM γ m).length by omega] at h2; exact absurd h2.symm hx
  have q : (LM γ (m + 1))[j] = (LM γ m)[j] := by simp only [e]; rw [List.getElem_append_left hj3]
  rw [q]; exact h.1 j hj3 h2
theorem LM_1 {γ : Gm} {m : Nat} (hk : okM γ m = true) : (LM γ (m + 1)).length = (LM γ m).length + 1 := by rw [LM_s, if_pos hk, List.length_append]; rfl
theorem LM_0 {γ : Gm} {m : Nat} (hk : okM γ m = false) : LM γ (m + 1) = LM γ m := by rw [LM_s, if_neg (by rw [hk]; decide)]
def bF (o : Option (Nat × Nat)) : Int32 := match o with
  | none => -6
  | some b => nI (b.2 / 22)
def bT (o : Option (Nat × Nat)) : Int32 := match o with
  | none => -6
  | some b => nI (b.2 % 22)
theorem BL_1 {γ : Gm} {m : Nat} (hk : okM γ m = true) : BL γ (LM γ (m + 1)) = bstep γ (BL γ (LM γ m)) m := by rw [LM_s, if_pos hk, BL_s]
theorem BL_b {γ : Gm} (m : Nat) : (BL γ (LM γ m)).1 = (LM γ m).length ∧ (BL γ (LM γ m)).2.2 ≤ 4 := by
  have a := BL_ok γ (LM γ m) (LM γ m).length (Nat.le_refl _)
  rw [List.take_length] at a
  exact ⟨a.1, a.2.1⟩

set_option maxRecDepth 100000 in
set_option maxHeartbeats 4000000 in
theorem lp_find1 (g : jG) (w : jW) (M : Ms) {K : jK} {Φ : Option Value → jW → Prop} (h : jH g K RX3 cX3_findMove 5 (some (.int))) {γ : Gm} (R : MR (Mst M) γ) (G : GI γ) (L : LK M γ) (x : Int32) {i : Nat} (hi : i < 14) (k : ∀ a b, FM γ x (22 * i + 22) a b → J g 5 K 5 Φ 80 [(4, .int (nI 22)), (3, .int (nI i)), (2, .int (nI (LM γ (22 * i + 22)).length)), (0, .ref (gr g 67)), (1, .int x)] [] (mw g w (smm M a b))) : ∀ n j a b, j + n = 22 → FM γ x (22 * i + j) a b → J g 5 K 5 Φ 19 [(4, .int (nI j)), (3, .int (nI i)), (2, .int (nI (LM γ (22 * i + j)).length)), (0, .ref (gr g 67)), (1, .int x)] [] (mw g w (smm M a b)) := by
  intro n
  induction n with
  | zero =>
    intro j a b hj hT
    have hjN : j = 22 := by omega
    subst hjN
    refine j_iload h (q := 21) 0 dX3_findMove_19 rfl rfl ?_
    refine j_bipush h (q := 23) (22) dX3_findMove_21 rfl (by decide) ?_
    refine j_icmp_ge h (tgt := 80) (q := 26) dX3_findMove_23 rfl (by decide) (fun c_23 => ?_) (fun c_23 => ?_)
    rotate_left
    · exact absurd (show (22 : Int32) ≤ nI 22 by decide) c_23
    exact k a b hT
  | succ n ih =>
    intro j a b hj hT
    refine j_iload h (q := 21) 0 dX3_findMove_19 rfl rfl ?_
    refine j_bipush h (q := 23) (22) dX3_findMove_21 rfl (by decide) ?_
    refine j_icmp_ge h (tgt := 80) (q := 26) dX3_findMove_23 rfl (by decide) (fun c_23 => ?_) (fun c_23 => ?_)
    · exact absurd c_23 (by rw [i_Lle (by omega) (by omega)]; omega)
    refine j_aload_n h (q := 27) 3 dX3_findMove_26 rfl rfl ?_
    refine j_iload_n h (q := 28) 1 dX3_findMove_27 rfl rfl ?_
    refine j_iload h (q := 30) 0 dX3_findMove_28 rfl rfl ?_
    refine j_cV h (q := 33) (C := RX3) (T := TX3) (N := 17) (ci := 3) mo_X3_isMove mI_X3_isMove mV_X3_isMove mL_X3_114 (m_isMove g w (smm M a b) γ R G L rfl rfl (by omega) (by omega)) (by decide) (by decide) (mw_0 _ _ _) rfl rfl rfl (Nat.le_of_ble_eq_true rfl) dX3_findMove_30 rfl ?_
    rintro _ w30 ⟨x30, rfl, e⟩
    obtain ⟨rfl, rfl⟩ := e
    rw [← okM_e γ (show j < 22 by omega)]
    refine j_if_eq h (tgt := 74) (q := 36) dX3_findMove_33 rfl (by decide) (fun c_33 => ?_) (fun c_33 => ?_)
    · rw [b2i_0] at c_33
      refine j_iinc h (q := 77) (loc' := [(4, _), (3, _), (2, _), (0, _), (1, _)]) 0 _ dX3_findMove_74 rfl rfl rfl (by decide) rfl ?_
      refine j_goto h (tgt := 19) dX3_findMove_77 (by decide) ?_
      rw [show nI j + Int32.ofInt 1 = nI (j + 1) from nI_1 j]
      refine j_sub [0, 1, 2, 3, 4] rfl ?_
      first
        | (have q := ih (j + 1) a b (by omega) (FM_n hT c_33)
           rw [← Nat.add_assoc, LM_0 c_33] at q
           exact q)
        | (have q := ih (j + 1) _ _ (by omega) (by have y := FM_y G (show 22 * i + j < 308 by omega) c_33 c_39; rw [show (22 * i + j) / 22 = i by omega, show (22 * i + j) % 22 = j by omega] at y; exact y)
           rw [← Nat.add_assoc, LM_1 c_33] at q
           rw [show nI (LM γ (22 * i + j)).length + Int32.ofInt 1 = nI ((LM γ (22 * i + j)).length + 1) from nI_1 _]
           exact q)
        | (have q := ih (j + 1) a b (by omega) (FM_z hT c_33 c_39)
           rw [← Nat.add_assoc, LM_1 c_33] at q
           rw [show nI (LM γ (22 * i + j)).length + Int32.ofInt 1 = nI ((LM γ (22 * i + j)).length + 1) from nI_1 _]
           exact q)
    · rw [b2i_1] at c_33
      refine j_aload_n h (q := 37) 3 dX3_findMove_36 rfl rfl ?_
      refine j_iload_n h (q := 38) 2 dX3_findMove_37 rfl rfl ?_
      refine j_iload_n h (q := 39) 4 dX3_findMove_38 rfl rfl ?_
      refine j_icmp_ne h (tgt := 46) (q := 42) dX3_findMove_39 rfl (by decide) (fun c_39 => ?_) (fun c_39 => ?_)
      · refine j_aload_n h (q := 47) 3 dX3_findMove_46 rfl rfl ?_
        refine j_get h (q := 50) inX3 (C := RX3) (T := TX3) (N := 17) (ci := 3) rfl 11 (by decide) mF_X3_111 (by decide) (mw_0 _ _ _) rfl dX3_findMove_47 rfl ?_
        refine j_put h (q := 53) inX3 (C := RX3) (T := TX3) (N := 17) (ci := 3) rfl tyX3_ok nmX3 11 (by decide) mF_X3_111 rfl rfl rfl (by first | rfl | decide) (by decide) (mw_0 _ _ _) (Nat.le_of_ble_eq_true rfl) dX3_findMove_50 rfl ?_
        refine j_stk rfl mw_u0 ?_
        refine j_aload_n h (q := 54) 3 dX3_findMove_53 rfl rfl ?_
        refine j_iload_n h (q := 55) 2 dX3_findMove_54 rfl rfl ?_
        refine j_iload_n h (q := 56) 4 dX3_findMove_55 rfl rfl ?_
        refine j_icmp_ne h (tgt := 64) (q := 59) dX3_findMove_56 rfl (by decide) (fun c_56 => ?_) (fun c_56 => ?_)
        rotate_left
        · exact absurd c_56 c_39
        refine j_aload_n h (q := 65) 3 dX3_findMove_64 rfl rfl ?_
        refine j_get h (q := 68) inX3 (C := RX3) (T := TX3) (N := 17) (ci := 3) rfl 12 (by decide) mF_X3_117 (by decide) (mw_0 _ _ _) rfl dX3_findMove_65 rfl ?_
        refine j_put h (q := 71) inX3 (C := RX3) (T := TX3) (N := 17) (ci := 3) rfl tyX3_ok nmX3 12 (by decide) mF_X3_117 rfl rfl rfl (by first | rfl | decide) (by decide) (mw_0 _ _ _) (Nat.le_of_ble_eq_true rfl) dX3_findMove_68 rfl ?_
        refine j_stk rfl mw_u0 ?_
        refine j_iinc h (q := 74) (loc' := [(2, _), (4, _), (3, _), (0, _), (1, _)]) 2 _ dX3_findMove_71 rfl rfl rfl (by decide) rfl ?_
        refine j_iinc h (q := 77) (loc' := [(4, _), (2, _), (3, _), (0, _), (1, _)]) 1 _ dX3_findMove_74 rfl rfl rfl (by decide) rfl ?_
        refine j_goto h (tgt := 19) dX3_findMove_77 (by decide) ?_
        rw [show nI j + Int32.ofInt 1 = nI (j + 1) from nI_1 j]
        refine j_sub [0, 2, 1, 3, 4] rfl ?_
        first
          | (have q := ih (j + 1) a b (by omega) (FM_n hT c_33)
             rw [← Nat.add_assoc, LM_0 c_33] at q
             exact q)
          | (have q := ih (j + 1) _ _ (by omega) (by have y := FM_y G (show 22 * i + j < 308 by omega) c_33 c_39; rw [show (22 * i + j) / 22 = i by omega, show (22 * i + j) % 22 = j by omega] at y; exact y)
             rw [← Nat.add_assoc, LM_1 c_33] at q
             rw [show nI (LM γ (22 * i + j)).length + Int32.ofInt 1 = nI ((LM γ (22 * i + j)).length + 1) from nI_1 _]
             exact q)
          | (have q := ih (j + 1) a b (by omega) (FM_z hT c_33 c_39)
             rw [← Nat.add_assoc, LM_1 c_33] at q
             rw [show nI (LM γ (22 * i + j)).length + Int32.ofInt 1 = nI ((LM γ (22 * i + j)).length + 1) from nI_1 _]
             exact q)
      · refine j_iload_n h (q := 43) 1 dX3_findMove_42 rfl rfl ?_
        refine j_goto h (tgt := 50) dX3_findMove_43 (by decide) ?_
        refine j_put h (q := 53) inX3 (C := RX3) (T := TX3) (N := 17) (ci := 3) rfl tyX3_ok nmX3 11 (by decide) mF_X3_111 rfl rfl rfl (by first | rfl | decide) (by decide) (mw_0 _ _ _) (Nat.le_of_ble_eq_true rfl) dX3_findMove_50 rfl ?_
        refine j_stk rfl mw_u0 ?_
        refine j_aload_n h (q := 54) 3 dX3_findMove_53 rfl rfl ?_
        refine j_iload_n h (q := 55) 2 dX3_findMove_54 rfl rfl ?_
        refine j_iload_n h (q := 56) 4 dX3_findMove_55 rfl rfl ?_
        refine j_icmp_ne h (tgt := 64) (q := 59) dX3_findMove_56 rfl (by decide) (fun c_56 => ?_) (fun c_56 => ?_)
        · exact absurd c_39 c_56
        refine j_iload h (q := 61) 0 dX3_findMove_59 rfl rfl ?_
        refine j_goto h (tgt := 68) dX3_findMove_61 (by decide) ?_
        refine j_put h (q := 71) inX3 (C := RX3) (T := TX3) (N := 17) (ci := 3) rfl tyX3_ok nmX3 12 (by decide) mF_X3_117 rfl rfl rfl (by first | rfl | decide) (by decide) (mw_0 _ _ _) (Nat.le_of_ble_eq_true rfl) dX3_findMove_68 rfl ?_
        refine j_stk rfl mw_u0 ?_
        refine j_iinc h (q := 74) (loc' := [(2, _), (4, _), (3, _), (0, _), (1, _)]) 2 _ dX3_findMove_71 rfl rfl rfl (by decide) rfl ?_
        refine j_iinc h (q := 77) (loc' := [(4, _), (2, _), (3, _), (0, _), (1, _)]) 1 _ dX3_findMove_74 rfl rfl rfl (by decide) rfl ?_
        refine j_goto h (tgt := 19) dX3_findMove_77 (by decide) ?_
        rw [show nI j + Int32.ofInt 1 = nI (j + 1) from nI_1 j]
        refine j_sub [0, 2, 1, 3, 4] rfl ?_
        first
          | (have q := ih (j + 1) a b (by omega) (FM_n hT c_33)
             rw [← Nat.add_assoc, LM_0 c_33] at q
             exact q)
          | (have q := ih (j + 1) _ _ (by omega) (by have y := FM_y G (show 22 * i + j < 308 by omega) c_33 c_39; rw [show (22 * i + j) / 22 = i by omega, show (22 * i + j) % 22 = j by omega] at y; exact y)
             rw [← Nat.add_assoc, LM_1 c_33] at q
             rw [show nI (LM γ (22 * i + j)).length + Int32.ofInt 1 = nI ((LM γ (22 * i + j)).length + 1) from nI_1 _]
             exact q)
          | (have q := ih (j + 1) a b (by omega) (FM_z hT c_33 c_39)
             rw [← Nat.add_assoc, LM_1 c_33] at q
             rw [show nI (LM γ (22 * i + j)).length + Int32.ofInt 1 = nI ((LM γ (22 * i + j)).length + 1) from nI_1 _]
             exact q)

set_option maxRecDepth 100000 in
set_option maxHeartbeats 4000000 in
theorem lp_find2 (g : jG) (w : jW) (M : Ms) {K : jK} {Φ : Option Value → jW → Prop} (h : jH g K RX3 cX3_findMove 5 (some (.int))) {γ : Gm} (R : MR (Mst M) γ) (G : GI γ) (L : LK M γ) (x : Int32) (k : ∀ a b, FM γ x 308 a b → J g 5 K 5 Φ 86 [(3, .int (nI 14)), (2, .int (nI (LM γ (22 * 14)).length)), (0, .ref (gr g 67)), (1, .int x)] [] (mw g w (smm M a b))) : ∀ n i a b, i + n = 14 → FM γ x (22 * i) a b → J g 5 K 5 Φ 10 [(3, .int (nI i)), (2, .int (nI (LM γ (22 * i)).length)), (0, .ref (gr g 67)), (1, .int x)] [] (mw g w (smm M a b)) := by
  intro n
  induction n with
  | zero =>
    intro i a b hi hT
    have hiN : i = 14 := by omega
    subst hiN
    refine j_iload_n h (q := 11) 0 dX3_findMove_10 rfl rfl ?_
    refine j_bipush h (q := 13) (14) dX3_findMove_11 rfl (by decide) ?_
    refine j_icmp_ge h (tgt := 86) (q := 16) dX3_findMove_13 rfl (by decide) (fun c_13 => ?_) (fun c_13 => ?_)
    rotate_left
    · exact absurd (show (14 : Int32) ≤ nI 14 by decide) c_13
    exact k a b hT
  | succ n ih =>
    intro i a b hi hT
    refine j_iload_n h (q := 11) 0 dX3_findMove_10 rfl rfl ?_
    refine j_bipush h (q := 13) (14) dX3_findMove_11 rfl (by decide) ?_
    refine j_icmp_ge h (tgt := 86) (q := 16) dX3_findMove_13 rfl (by decide) (fun c_13 => ?_) (fun c_13 => ?_)
    · exact absurd c_13 (by rw [i_Lle (by omega) (by omega)]; omega)
    refine j_iconst h (q := 17) (0) dX3_findMove_16 rfl (by decide) ?_
    refine j_istore h (q := 19) (loc' := [(4, _), (3, _), (2, _), (0, _), (1, _)]) dX3_findMove_17 rfl (by decide) rfl ?_
    refine j_sub [0, 1, 2, 3, 4] rfl ?_
    refine lp_find1 g w M h R G L x (i := i) (by omega) (fun a b h1 => ?_) 22 0 a b rfl hT
    refine j_iinc h (q := 83) (loc' := [(3, _), (4, _), (2, _), (0, _), (1, _)]) 1 _ dX3_findMove_80 rfl rfl rfl (by decide) rfl ?_
    refine j_goto h (tgt := 10) dX3_findMove_83 (by decide) ?_
    rw [show nI i + Int32.ofInt 1 = nI (i + 1) from nI_1 i]
    refine j_sub [0, 2, 3, 4] rfl ?_
    exact ih (i + 1) a b (by omega) h1

set_option maxRecDepth 100000 in
set_option maxHeartbeats 4000000 in
theorem m_findMove (g : jG) (w : jW) (M : Ms) (γ : Gm) (R : MR (Mst M) γ) (G : GI γ) (L : LK M γ) (x : Int32)  : ConI g 5 yX3_findMove cX3_findMove 5 (some (.int)) [.ref (gr g 67), .int x] (mw g w M) (fun y w' => y = nI (LM γ 308).length ∧ ∃ a b, w' = mw g w (smm M a b) ∧ FM γ x 308 a b) := by
  refine con_of (by decide +kernel) (Nat.le_of_ble_eq_true rfl) [(0, _), (1, _)] rfl (fun K h => ?_)
  refine j_iconst h (q := 1) (0) dX3_findMove_0 rfl (by decide) ?_
  refine j_istore_n h (q := 2) (loc' := [(2, _), (0, _), (1, _)]) dX3_findMove_1 rfl (by decide) rfl ?_
  refine j_aload_n h (q := 3) 1 dX3_findMove_2 rfl rfl ?_
  refine j_bipush h (q := 5) (-6) dX3_findMove_3 rfl (by decide) ?_
  refine j_put h (q := 8) inX3 (C := RX3) (T := TX3) (N := 17) (ci := 3) rfl tyX3_ok nmX3 11 (by decide) mF_X3_111 rfl rfl rfl (by first | rfl | decide) (by decide) (mw_0 _ _ _) (Nat.le_of_ble_eq_true rfl) dX3_findMove_5 rfl ?_
  refine j_stk rfl mw_u0 ?_
  refine j_iconst h (q := 9) (0) dX3_findMove_8 rfl (by decide) ?_
  refine j_istore_n h (q := 10) (loc' := [(3, _), (2, _), (0, _), (1, _)]) dX3_findMove_9 rfl (by decide) rfl ?_
  refine j_sub [0, 1, 2, 3] rfl ?_
  refine lp_find2 g w M h R G L x (fun a b h1 => ?_) 14 0 _ _ rfl (FM_0 γ x _)
  refine j_iload_n h (q := 87) 1 dX3_findMove_86 rfl rfl ?_
  refine j_iret h rfl dX3_findMove_87 ?_
  exact ⟨_, rfl, rfl, a, b, rfl, h1⟩

set_option maxRecDepth 100000 in
set_option maxHeartbeats 4000000 in
theorem lp_fb1 (g : jG) (w : jW) (M : Ms) {K : jK} {Φ : Option Value → jW → Prop} (h : jH g K RX3 cX3_findBest 9 (some (.int))) {γ : Gm} (R : MR (Mst M) γ) (G : GI γ) (L : LK M γ) {i : Nat} (hi : i < 14) (k : J g 5 K 9 Φ 131 [(7, .int (nI 22)), (6, .int (nI i)), (5, .int (bT (BL γ (LM γ (22 * i + 22))).2.1)), (4, .int (bF (BL γ (LM γ (22 * i + 22))).2.1)), (3, .int (nI (BL γ (LM γ (22 * i + 22))).2.2 - 1)), (2, .int (bI (BL γ (LM γ (22 * i + 22))).2.1)), (1, .int (nI (BL γ (LM γ (22 * i + 22))).1)), (0, .ref (gr g 67))] [] (mw g w M)) : ∀ n j, j + n = 22 → J g 5 K 9 Φ 28 [(7, .int (nI j)), (6, .int (nI i)), (5, .int (bT (BL γ (LM γ (22 * i + j))).2.1)), (4, .int (bF (BL γ (LM γ (22 * i + j))).2.1)), (3, .int (nI (BL γ (LM γ (22 * i + j))).2.2 - 1)), (2, .int (bI (BL γ (LM γ (22 * i + j))).2.1)), (1, .int (nI (BL γ (LM γ (22 * i + j))).1)), (0, .ref (gr g 67))] [] (mw g w M) := by
  intro n
  induction n with
  | zero =>
    intro j hj
    have hjN : j = 22 := by omega
    subst hjN
    refine j_iload h (q := 30) 0 dX3_findBest_28 rfl rfl ?_
    refine j_bipush h (q := 32) (22) dX3_findBest_30 rfl (by decide) ?_
    refine j_icmp_ge h (tgt := 131) (q := 35) dX3_findBest_32 rfl (by decide) (fun c_32 => ?_) (fun c_32 => ?_)
    rotate_left
    · exact absurd (show (22 : Int32) ≤ nI 22 by decide) c_32
    exact k
  | succ n ih =>
    intro j hj
    have hb4 := (BL_b (γ := γ) (22 * i + j)).2
    have hp3 := ptM_le γ (22 * i + j)
    have hpe : ptsG γ i j = ptM γ (22 * i + j) := by unfold ptM; rw [show (22 * i + j) / 22 = i by omega, show (22 * i + j) % 22 = j by omega]
    refine j_iload h (q := 30) 0 dX3_findBest_28 rfl rfl ?_
    refine j_bipush h (q := 32) (22) dX3_findBest_30 rfl (by decide) ?_
    refine j_icmp_ge h (tgt := 131) (q := 35) dX3_findBest_32 rfl (by decide) (fun c_32 => ?_) (fun c_32 => ?_)
    · exact absurd c_32 (by rw [i_Lle (by omega) (by omega)]; omega)
    refine j_aload_n h (q := 36) 7 dX3_findBest_35 rfl rfl ?_
    refine j_iload h (q := 38) 1 dX3_findBest_36 rfl rfl ?_
    refine j_iload h (q := 40) 0 dX3_findBest_38 rfl rfl ?_
    refine j_cV h (q := 43) (C := RX3) (T := TX3) (N := 17) (ci := 3) mo_X3_isMove mI_X3_isMove mV_X3_isMove mL_X3_114 (m_isMove g w M γ R G L rfl rfl (by omega) (by omega)) (by decide) (by decide) (mw_0 _ _ _) rfl rfl rfl (Nat.le_of_ble_eq_true rfl) dX3_findBest_40 rfl ?_
    rintro _ w40 ⟨x40, rfl, e⟩
    obtain ⟨rfl, rfl⟩ := e
    rw [← okM_e γ (show j < 22 by omega)]
    refine j_if_eq h (tgt := 125) (q := 46) dX3_findBest_43 rfl (by decide) (fun c_43 => ?_) (fun c_43 => ?_)
    · rw [b2i_0] at c_43
      refine j_iinc h (q := 128) (loc' := [(7, _), (6, _), (5, _), (4, _), (3, _), (2, _), (1, _), (0, _)]) 0 _ dX3_findBest_125 rfl rfl rfl (by decide) rfl ?_
      refine j_goto h (tgt := 28) dX3_findBest_128 (by decide) ?_
      rw [show nI j + Int32.ofInt 1 = nI (j + 1) from nI_1 j]
      have q := ih (j + 1) (by omega)
      rw [← Nat.add_assoc] at q
      first
        | (rw [LM_0 c_43] at q
           exact j_sub [0, 1, 2, 3, 4, 5, 6, 7] rfl q)
        | (have e10 : bstep γ (BL γ (LM γ (22 * i + j))) (22 * i + j) = ((BL γ (LM γ (22 * i + j))).1 + 1, (BL γ (LM γ (22 * i + j))).2) := if_neg c_55
           rw [BL_1 c_43, e10] at q
           rw [show nI (BL γ (LM γ (22 * i + j))).1 + Int32.ofInt 1 = nI ((BL γ (LM γ (22 * i + j))).1 + 1) from nI_1 _]
           exact j_sub [0, 1, 2, 3, 4, 5, 6, 7] rfl q)
        | (have e10 : bstep γ (BL γ (LM γ (22 * i + j))) (22 * i + j) = ((BL γ (LM γ (22 * i + j))).1 + 1, some ((BL γ (LM γ (22 * i + j))).1, 22 * i + j), ptM γ (22 * i + j) + 1) := if_pos (Classical.not_not.mp c_55)
           rw [BL_1 c_43, e10] at q
           have e11 : nI (ptM γ (22 * i + j) + 1) - 1 = nI (ptM γ (22 * i + j)) := nI_pred _
           have e12 : bT (some ((BL γ (LM γ (22 * i + j))).1, 22 * i + j)) = nI j := by show nI ((22 * i + j) % 22) = _; congr 1; omega
           have e13 : bF (some ((BL γ (LM γ (22 * i + j))).1, 22 * i + j)) = nI i := by show nI ((22 * i + j) / 22) = _; congr 1; omega
           simp only [e11, e12, e13] at q
           rw [show nI (BL γ (LM γ (22 * i + j))).1 + Int32.ofInt 1 = nI ((BL γ (LM γ (22 * i + j))).1 + 1) from nI_1 _]
           exact j_sub [0, 1, 2, 3, 4, 5, 6, 7] rfl q)
    · rw [b2i_1] at c_43
      refine j_aload_n h (q := 47) 7 dX3_findBest_46 rfl rfl ?_
      refine j_iload h (q := 49) 1 dX3_findBest_47 rfl rfl ?_
      refine j_iload h (q := 51) 0 dX3_findBest_49 rfl rfl ?_
      refine j_cV h (q := 54) (C := RX3) (T := TX3) (N := 17) (ci := 3) mo_X3_pointsFor mI_X3_pointsFor mV_X3_pointsFor mL_X3_98 (m_pointsFor g w M γ R G L rfl rfl (by omega) (by omega) (by rw [← okM_e γ (show j < 22 by omega)]; exact c_43)) (by decide) (by decide) (mw_0 _ _ _) rfl rfl rfl (Nat.le_of_ble_eq_true rfl) dX3_findBest_51 rfl ?_
      rintro _ w51 ⟨x51, rfl, e⟩
      obtain ⟨rfl, rfl⟩ := e
      rw [show ptsG γ i j = ptM γ (22 * i + j) from hpe]
      refine j_iload_n h (q := 55) 4 dX3_findBest_54 rfl rfl ?_
      refine j_icmp_le h (tgt := 62) (q := 58) dX3_findBest_55 rfl (by decide) (fun c_55 => ?_) (fun c_55 => ?_)
      · rw [lt_most hp3 hb4] at c_55
        refine j_iconst h (q := 63) (0) dX3_findBest_62 rfl (by decide) ?_
        refine j_istore h (q := 65) (loc' := [(8, _), (7, _), (6, _), (5, _), (4, _), (3, _), (2, _), (1, _), (0, _)]) dX3_findBest_63 rfl (by decide) rfl ?_
        refine j_iload h (q := 67) 0 dX3_findBest_65 rfl rfl ?_
        refine j_if_eq h (tgt := 74) (q := 70) dX3_findBest_67 rfl (by decide) (fun c_67 => ?_) (fun c_67 => ?_)
        rotate_left
        · exact absurd rfl c_67
        refine j_iload_n h (q := 75) 6 dX3_findBest_74 rfl rfl ?_
        refine j_istore_n h (q := 76) (loc' := [(2, _), (8, _), (7, _), (6, _), (5, _), (4, _), (3, _), (1, _), (0, _)]) dX3_findBest_75 rfl (by decide) rfl ?_
        refine j_iload h (q := 78) 1 dX3_findBest_76 rfl rfl ?_
        refine j_if_eq h (tgt := 86) (q := 81) dX3_findBest_78 rfl (by decide) (fun c_78 => ?_) (fun c_78 => ?_)
        rotate_left
        · exact absurd rfl c_78
        refine j_iload h (q := 88) 5 dX3_findBest_86 rfl rfl ?_
        refine j_istore h (q := 90) (loc' := [(4, _), (2, _), (8, _), (7, _), (6, _), (5, _), (3, _), (1, _), (0, _)]) dX3_findBest_88 rfl (by decide) rfl ?_
        refine j_iload h (q := 92) 2 dX3_findBest_90 rfl rfl ?_
        refine j_if_eq h (tgt := 100) (q := 95) dX3_findBest_92 rfl (by decide) (fun c_92 => ?_) (fun c_92 => ?_)
        rotate_left
        · exact absurd rfl c_92
        refine j_iload h (q := 102) 5 dX3_findBest_100 rfl rfl ?_
        refine j_istore h (q := 104) (loc' := [(5, _), (4, _), (2, _), (8, _), (7, _), (6, _), (3, _), (1, _), (0, _)]) dX3_findBest_102 rfl (by decide) rfl ?_
        refine j_iload h (q := 106) 3 dX3_findBest_104 rfl rfl ?_
        refine j_if_eq h (tgt := 120) (q := 109) dX3_findBest_106 rfl (by decide) (fun c_106 => ?_) (fun c_106 => ?_)
        rotate_left
        · exact absurd rfl c_106
        refine j_iload_n h (q := 121) 6 dX3_findBest_120 rfl rfl ?_
        refine j_istore_n h (q := 122) (loc' := [(3, _), (5, _), (4, _), (2, _), (8, _), (7, _), (6, _), (1, _), (0, _)]) dX3_findBest_121 rfl (by decide) rfl ?_
        refine j_iinc h (q := 125) (loc' := [(1, _), (3, _), (5, _), (4, _), (2, _), (8, _), (7, _), (6, _), (0, _)]) 7 _ dX3_findBest_122 rfl rfl rfl (by decide) rfl ?_
        refine j_iinc h (q := 128) (loc' := [(7, _), (1, _), (3, _), (5, _), (4, _), (2, _), (8, _), (6, _), (0, _)]) 6 _ dX3_findBest_125 rfl rfl rfl (by decide) rfl ?_
        refine j_goto h (tgt := 28) dX3_findBest_128 (by decide) ?_
        rw [show nI j + Int32.ofInt 1 = nI (j + 1) from nI_1 j]
        have q := ih (j + 1) (by omega)
        rw [← Nat.add_assoc] at q
        first
          | (rw [LM_0 c_43] at q
             exact j_sub [0, 7, 3, 4, 2, 5, 1, 8] rfl q)
          | (have e10 : bstep γ (BL γ (LM γ (22 * i + j))) (22 * i + j) = ((BL γ (LM γ (22 * i + j))).1 + 1, (BL γ (LM γ (22 * i + j))).2) := if_neg c_55
             rw [BL_1 c_43, e10] at q
             rw [show nI (BL γ (LM γ (22 * i + j))).1 + Int32.ofInt 1 = nI ((BL γ (LM γ (22 * i + j))).1 + 1) from nI_1 _]
             exact j_sub [0, 7, 3, 4, 2, 5, 1, 8] rfl q)
          | (have e10 : bstep γ (BL γ (LM γ (22 * i + j))) (22 * i + j) = ((BL γ (LM γ (22 * i + j))).1 + 1, some ((BL γ (LM γ (22 * i + j))).1, 22 * i + j), ptM γ (22 * i + j) + 1) := if_pos (Classical.not_not.mp c_55)
             rw [BL_1 c_43, e10] at q
             have e11 : nI (ptM γ (22 * i + j) + 1) - 1 = nI (ptM γ (22 * i + j)) := nI_pred _
             have e12 : bT (some ((BL γ (LM γ (22 * i + j))).1, 22 * i + j)) = nI j := by show nI ((22 * i + j) % 22) = _; congr 1; omega
             have e13 : bF (some ((BL γ (LM γ (22 * i + j))).1, 22 * i + j)) = nI i := by show nI ((22 * i + j) / 22) = _; congr 1; omega
             simp only [e11, e12, e13] at q
             rw [show nI (BL γ (LM γ (22 * i + j))).1 + Int32.ofInt 1 = nI ((BL γ (LM γ (22 * i + j))).1 + 1) from nI_1 _]
             exact j_sub [0, 7, 3, 4, 2, 5, 1, 8] rfl q)
      · rw [lt_most hp3 hb4] at c_55
        refine j_iconst h (q := 59) (1) dX3_findBest_58 rfl (by decide) ?_
        refine j_goto h (tgt := 63) dX3_findBest_59 (by decide) ?_
        refine j_istore h (q := 65) (loc' := [(8, _), (7, _), (6, _), (5, _), (4, _), (3, _), (2, _), (1, _), (0, _)]) dX3_findBest_63 rfl (by decide) rfl ?_
        refine j_iload h (q := 67) 0 dX3_findBest_65 rfl rfl ?_
        refine j_if_eq h (tgt := 74) (q := 70) dX3_findBest_67 rfl (by decide) (fun c_67 => ?_) (fun c_67 => ?_)
        · exact absurd c_67 (by decide)
        refine j_iload_n h (q := 71) 7 dX3_findBest_70 rfl rfl ?_
        refine j_goto h (tgt := 75) dX3_findBest_71 (by decide) ?_
        refine j_istore_n h (q := 76) (loc' := [(2, _), (8, _), (7, _), (6, _), (5, _), (4, _), (3, _), (1, _), (0, _)]) dX3_findBest_75 rfl (by decide) rfl ?_
        refine j_iload h (q := 78) 1 dX3_findBest_76 rfl rfl ?_
        refine j_if_eq h (tgt := 86) (q := 81) dX3_findBest_78 rfl (by decide) (fun c_78 => ?_) (fun c_78 => ?_)
        · exact absurd c_78 (by decide)
        refine j_iload h (q := 83) 3 dX3_findBest_81 rfl rfl ?_
        refine j_goto h (tgt := 88) dX3_findBest_83 (by decide) ?_
        refine j_istore h (q := 90) (loc' := [(4, _), (2, _), (8, _), (7, _), (6, _), (5, _), (3, _), (1, _), (0, _)]) dX3_findBest_88 rfl (by decide) rfl ?_
        refine j_iload h (q := 92) 2 dX3_findBest_90 rfl rfl ?_
        refine j_if_eq h (tgt := 100) (q := 95) dX3_findBest_92 rfl (by decide) (fun c_92 => ?_) (fun c_92 => ?_)
        · exact absurd c_92 (by decide)
        refine j_iload h (q := 97) 3 dX3_findBest_95 rfl rfl ?_
        refine j_goto h (tgt := 102) dX3_findBest_97 (by decide) ?_
        refine j_istore h (q := 104) (loc' := [(5, _), (4, _), (2, _), (8, _), (7, _), (6, _), (3, _), (1, _), (0, _)]) dX3_findBest_102 rfl (by decide) rfl ?_
        refine j_iload h (q := 106) 3 dX3_findBest_104 rfl rfl ?_
        refine j_if_eq h (tgt := 120) (q := 109) dX3_findBest_106 rfl (by decide) (fun c_106 => ?_) (fun c_106 => ?_)
        · exact absurd c_106 (by decide)
        refine j_aload_n h (q := 110) 8 dX3_findBest_109 rfl rfl ?_
        refine j_iload h (q := 112) 5 dX3_findBest_110 rfl rfl ?_
        refine j_iload h (q := 114) 4 dX3_findBest_112 rfl rfl ?_
        refine j_cV h (q := 117) (C := RX3) (T := TX3) (N := 17) (ci := 3) mo_X3_pointsFor mI_X3_pointsFor mV_X3_pointsFor mL_X3_98 (m_pointsFor g w M γ R G L rfl rfl (by omega) (by omega) (by rw [← okM_e γ (show j < 22 by omega)]; exact c_43)) (by decide) (by decide) (mw_0 _ _ _) rfl rfl rfl (Nat.le_of_ble_eq_true rfl) dX3_findBest_114 rfl ?_
        rintro _ w114 ⟨x114, rfl, e⟩
        obtain ⟨rfl, rfl⟩ := e
        rw [show ptsG γ i j = ptM γ (22 * i + j) from hpe]
        refine j_goto h (tgt := 121) dX3_findBest_117 (by decide) ?_
        refine j_istore_n h (q := 122) (loc' := [(3, _), (5, _), (4, _), (2, _), (8, _), (7, _), (6, _), (1, _), (0, _)]) dX3_findBest_121 rfl (by decide) rfl ?_
        refine j_iinc h (q := 125) (loc' := [(1, _), (3, _), (5, _), (4, _), (2, _), (8, _), (7, _), (6, _), (0, _)]) 7 _ dX3_findBest_122 rfl rfl rfl (by decide) rfl ?_
        refine j_iinc h (q := 128) (loc' := [(7, _), (1, _), (3, _), (5, _), (4, _), (2, _), (8, _), (6, _), (0, _)]) 6 _ dX3_findBest_125 rfl rfl rfl (by decide) rfl ?_
        refine j_goto h (tgt := 28) dX3_findBest_128 (by decide) ?_
        rw [show nI j + Int32.ofInt 1 = nI (j + 1) from nI_1 j]
        have q := ih (j + 1) (by omega)
        rw [← Nat.add_assoc] at q
        first
          | (rw [LM_0 c_43] at q
             exact j_sub [0, 7, 3, 4, 2, 5, 1, 8] rfl q)
          | (have e10 : bstep γ (BL γ (LM γ (22 * i + j))) (22 * i + j) = ((BL γ (LM γ (22 * i + j))).1 + 1, (BL γ (LM γ (22 * i + j))).2) := if_neg c_55
             rw [BL_1 c_43, e10] at q
             rw [show nI (BL γ (LM γ (22 * i + j))).1 + Int32.ofInt 1 = nI ((BL γ (LM γ (22 * i + j))).1 + 1) from nI_1 _]
             exact j_sub [0, 7, 3, 4, 2, 5, 1, 8] rfl q)
          | (have e10 : bstep γ (BL γ (LM γ (22 * i + j))) (22 * i + j) = ((BL γ (LM γ (22 * i + j))).1 + 1, some ((BL γ (LM γ (22 * i + j))).1, 22 * i + j), ptM γ (22 * i + j) + 1) := if_pos (Classical.not_not.mp c_55)
             rw [BL_1 c_43, e10] at q
             have e11 : nI (ptM γ (22 * i + j) + 1) - 1 = nI (ptM γ (22 * i + j)) := nI_pred _
             have e12 : bT (some ((BL γ (LM γ (22 * i + j))).1, 22 * i + j)) = nI j := by show nI ((22 * i + j) % 22) = _; congr 1; omega
             have e13 : bF (some ((BL γ (LM γ (22 * i + j))).1, 22 * i + j)) = nI i := by show nI ((22 * i + j) / 22) = _; congr 1; omega
             simp only [e11, e12, e13] at q
             rw [show nI (BL γ (LM γ (22 * i + j))).1 + Int32.ofInt 1 = nI ((BL γ (LM γ (22 * i + j))).1 + 1) from nI_1 _]
             exact j_sub [0, 7, 3, 4, 2, 5, 1, 8] rfl q)

set_option maxRecDepth 100000 in
set_option maxHeartbeats 4000000 in
theorem lp_fb2 (g : jG) (w : jW) (M : Ms) {K : jK} {Φ : Option Value → jW → Prop} (h : jH g K RX3 cX3_findBest 9 (some (.int))) {γ : Gm} (R : MR (Mst M) γ) (G : GI γ) (L : LK M γ) (k : J g 5 K 9 Φ 137 [(6, .int (nI 14)), (5, .int (bT (BL γ (LM γ (22 * 14))).2.1)), (4, .int (bF (BL γ (LM γ (22 * 14))).2.1)), (3, .int (nI (BL γ (LM γ (22 * 14))).2.2 - 1)), (2, .int (bI (BL γ (LM γ (22 * 14))).2.1)), (1, .int (nI (BL γ (LM γ (22 * 14))).1)), (0, .ref (gr g 67))] [] (mw g w M)) : ∀ n i, i + n = 14 → J g 5 K 9 Φ 18 [(6, .int (nI i)), (5, .int (bT (BL γ (LM γ (22 * i))).2.1)), (4, .int (bF (BL γ (LM γ (22 * i))).2.1)), (3, .int (nI (BL γ (LM γ (22 * i))).2.2 - 1)), (2, .int (bI (BL γ (LM γ (22 * i))).2.1)), (1, .int (nI (BL γ (LM γ (22 * i))).1)), (0, .ref (gr g 67))] [] (mw g w M) := by
  intro n
  induction n with
  | zero =>
    intro i hi
    have hiN : i = 14 := by omega
    subst hiN
    refine j_iload h (q := 20) 0 dX3_findBest_18 rfl rfl ?_
    refine j_bipush h (q := 22) (14) dX3_findBest_20 rfl (by decide) ?_
    refine j_icmp_ge h (tgt := 137) (q := 25) dX3_findBest_22 rfl (by decide) (fun c_22 => ?_) (fun c_22 => ?_)
    rotate_left
    · exact absurd (show (14 : Int32) ≤ nI 14 by decide) c_22
    exact k
  | succ n ih =>
    intro i hi
    refine j_iload h (q := 20) 0 dX3_findBest_18 rfl rfl ?_
    refine j_bipush h (q := 22) (14) dX3_findBest_20 rfl (by decide) ?_
    refine j_icmp_ge h (tgt := 137) (q := 25) dX3_findBest_22 rfl (by decide) (fun c_22 => ?_) (fun c_22 => ?_)
    · exact absurd c_22 (by rw [i_Lle (by omega) (by omega)]; omega)
    refine j_iconst h (q := 26) (0) dX3_findBest_25 rfl (by decide) ?_
    refine j_istore h (q := 28) (loc' := [(7, _), (6, _), (5, _), (4, _), (3, _), (2, _), (1, _), (0, _)]) dX3_findBest_26 rfl (by decide) rfl ?_
    refine j_sub [0, 1, 2, 3, 4, 5, 6, 7] rfl ?_
    refine lp_fb1 g w M h R G L (i := i) (by omega) ?_ 22 0 rfl
    refine j_iinc h (q := 134) (loc' := [(6, _), (7, _), (5, _), (4, _), (3, _), (2, _), (1, _), (0, _)]) 1 _ dX3_findBest_131 rfl rfl rfl (by decide) rfl ?_
    refine j_goto h (tgt := 18) dX3_findBest_134 (by decide) ?_
    rw [show nI i + Int32.ofInt 1 = nI (i + 1) from nI_1 i]
    refine j_sub [0, 2, 3, 4, 5, 6, 7] rfl ?_
    exact ih (i + 1) (by omega)

set_option maxRecDepth 100000 in
set_option maxHeartbeats 4000000 in
theorem m_findBest (g : jG) (w : jW) (M : Ms) (γ : Gm) (R : MR (Mst M) γ) (G : GI γ) (L : LK M γ)  : ConI g 5 yX3_findBest cX3_findBest 9 (some (.int)) [.ref (gr g 67)] (mw g w M) (fun y w' => y = bestI γ ∧ w' = mw g w (smm M (bF (bestG γ)) (bT (bestG γ)))) := by
  refine con_of (by decide +kernel) (Nat.le_of_ble_eq_true rfl) [(0, _)] rfl (fun K h => ?_)
  refine j_iconst h (q := 1) (0) dX3_findBest_0 rfl (by decide) ?_
  refine j_istore_n h (q := 2) (loc' := [(1, _), (0, _)]) dX3_findBest_1 rfl (by decide) rfl ?_
  refine j_bipush h (q := 4) (-6) dX3_findBest_2 rfl (by decide) ?_
  refine j_istore_n h (q := 5) (loc' := [(2, _), (1, _), (0, _)]) dX3_findBest_4 rfl (by decide) rfl ?_
  refine j_iconst h (q := 6) (-1) dX3_findBest_5 rfl (by decide) ?_
  refine j_istore_n h (q := 7) (loc' := [(3, _), (2, _), (1, _), (0, _)]) dX3_findBest_6 rfl (by decide) rfl ?_
  refine j_bipush h (q := 9) (-6) dX3_findBest_7 rfl (by decide) ?_
  refine j_istore h (q := 11) (loc' := [(4, _), (3, _), (2, _), (1, _), (0, _)]) dX3_findBest_9 rfl (by decide) rfl ?_
  refine j_bipush h (q := 13) (-6) dX3_findBest_11 rfl (by decide) ?_
  refine j_istore h (q := 15) (loc' := [(5, _), (4, _), (3, _), (2, _), (1, _), (0, _)]) dX3_findBest_13 rfl (by decide) rfl ?_
  refine j_iconst h (q := 16) (0) dX3_findBest_15 rfl (by decide) ?_
  refine j_istore h (q := 18) (loc' := [(6, _), (5, _), (4, _), (3, _), (2, _), (1, _), (0, _)]) dX3_findBest_16 rfl (by decide) rfl ?_
  refine j_sub [0, 1, 2, 3, 4, 5, 6] rfl ?_
  refine lp_fb2 g w M h R G L ?_ 14 0 rfl
  refine j_aload_n h (q := 138) 6 dX3_findBest_137 rfl rfl ?_
  refine j_iload h (q := 140) 2 dX3_findBest_138 rfl rfl ?_
  refine j_put h (q := 143) inX3 (C := RX3) (T := TX3) (N := 17) (ci := 3) rfl tyX3_ok nmX3 11 (by decide) mF_X3_111 rfl rfl rfl (by first | rfl | decide) (by decide) (mw_0 _ _ _) (Nat.le_of_ble_eq_true rfl) dX3_findBest_140 rfl ?_
  refine j_stk rfl mw_u0 ?_
  refine j_aload_n h (q := 144) 6 dX3_findBest_143 rfl rfl ?_
  refine j_iload h (q := 146) 1 dX3_findBest_144 rfl rfl ?_
  refine j_put h (q := 149) inX3 (C := RX3) (T := TX3) (N := 17) (ci := 3) rfl tyX3_ok nmX3 12 (by decide) mF_X3_117 rfl rfl rfl (by first | rfl | decide) (by decide) (mw_0 _ _ _) (Nat.le_of_ble_eq_true rfl) dX3_findBest_146 rfl ?_
  refine j_stk rfl mw_u0 ?_
  refine j_iload_n h (q := 150) 4 dX3_findBest_149 rfl rfl ?_
  refine j_iret h rfl dX3_findBest_150 ?_
  exact ⟨_, rfl, rfl, rfl⟩
