theorem take_2 (γ : Gm) : (takeG γ).2.2 = γ.2.2 := by unfold takeG; split <;> rfl
theorem GI_take {γ : Gm} (G : GI γ) : GI (takeG γ) := by
  have h := PI_take G.1 G.2.1
  have e := take_2 γ
  refine ⟨h, ?_⟩
  show qt (takeG γ) < 2 ∧ _
  have e1 : (takeG γ) = ((takeG γ).1, (takeG γ).2.1, γ.2.2) := by rw [← e]
  rw [e1]
  exact G.2
def dneG (ε : Gm) : Gm := (qn ε, qc ε, qp ε, qf ε, (fun h => qz ε h - 1), 1 - qt ε, qd ε + 1, qm ε, decide (200 ≤ qd ε + 1))
theorem draw_e (γ : Gm) : drawG γ = dneG (takeG (turnG γ)) := by
  have e : (takeG (turnG γ)).2.2 = γ.2.2 := by rw [take_2, turn_2]
  show drawG γ = ((takeG (turnG γ)).1, (takeG (turnG γ)).2.1, (takeG (turnG γ)).2.2.1, (takeG (turnG γ)).2.2.2.1, (fun h => (takeG (turnG γ)).2.2.2.2.1 h - 1), 1 - (takeG (turnG γ)).2.2.2.2.2.1, (takeG (turnG γ)).2.2.2.2.2.2.1 + 1, (takeG (turnG γ)).2.2.2.2.2.2.2.1, decide (200 ≤ (takeG (turnG γ)).2.2.2.2.2.2.1 + 1))
  rw [e]
  rfl
def DRI (ε : Gm) (st st' : Nat → Int32) (i : Nat) : Prop := (∀ j, j < 212 → st' j = st j) ∧ (∀ j, 220 ≤ j → st' j = st j) ∧ ∀ k, k < 8 → st' (212 + k) = nI (if k < i then qz ε k - 1 else qz ε k)
theorem DRI_s {ε : Gm} {st st' : Nat → Int32} {i : Nat} {v : Int32} (h : DRI ε st st' i) (hi : i < 8) (hv : v = nI (qz ε i - 1)) : DRI ε st (upd st' (212 + i) v) (i + 1) := by
  obtain ⟨a, b, c⟩ := h
  refine ⟨fun j hj => ?_, fun j hj => ?_, fun k hk => ?_⟩
  · rw [pk_un (by omega)]; exact a j hj
  · rw [pk_un (by omega)]; exact b j hj
  · by_cases z : k = i
    · subst z; rw [pk_us, if_pos (Nat.lt_succ_self _), hv]
    · rw [pk_un (by omega), c k hk]
      congr 1
      by_cases y : k < i
      · rw [if_pos y, if_pos (by omega)]
      · rw [if_neg y, if_neg (by omega)]
theorem MR_dne {ε : Gm} {st st' : Nat → Int32} (R : MR st ε) (G : GI ε) (ho : qo ε = false) (h : DRI ε st st' 8) {v : Int32} (hv : v = b2i (decide (200 ≤ qd ε + 1))) : MR (upd (upd (upd st' 220 (nI (1 - qt ε))) 222 (nI (qd ε + 1))) 221 v) (dneG ε) := by
  obtain ⟨a, b, c⟩ := h
  have q : ∀ (f : Nat → Int32) (x y z : Int32) (j : Nat), j ≠ 220 → j ≠ 222 → j ≠ 221 → upd (upd (upd f 220 x) 222 y) 221 z j = f j := fun f x y z j h1 h2 h3 => by rw [pk_un h3, pk_un h2, pk_un h1]
  refine MR_put R G rfl rfl (fun j hj => ?_) (fun s hs => ?_) (fun s hs => ?_) (fun k hk => ?_) ?_ ?_ ?_ ?_
  · rw [q _ _ _ _ _ (by omega) (by omega) (by omega)]; exact a j (by omega)
  · rw [q _ _ _ _ _ (by omega) (by omega) (by omega), a _ (by omega)]; exact (R.2.1 s hs).1
  · rw [q _ _ _ _ _ (by omega) (by omega) (by omega), a _ (by omega)]; exact (R.2.1 s hs).2
  · rw [q _ _ _ _ _ (by omega) (by omega) (by omega), c k hk, if_pos hk]
  · rw [pk_un (by omega), pk_un (by omega), pk_us]
  · rw [pk_us]; exact hv
  · rw [pk_un (by omega), pk_us]
  · rw [q _ _ _ _ _ (by omega) (by omega) (by omega), b _ (by omega)]; exact R.2.2.2.2.2.2

set_option maxRecDepth 100000 in
set_option maxHeartbeats 4000000 in
theorem lp_turn (g : jG) (w : jW) (M : Ms) {K : jK} {Φ : Option Value → jW → Prop} (h : jH g K RX3 cX3_turnOver 3 none) {γ : Gm} (R : MR (Mst M) γ) (G : GI γ) (L : LK M γ) {P I : Nat → Nat} (hL : LocG γ P I) (k : ∀ st, TNI γ P I (Mst M) st 104 → J g 1 K 3 Φ 56 [(2, .int (nI 104)), (1, .int (nI (qt γ))), (0, .ref (gr g 67))] [] (mw g w (sst M st))) : ∀ n i st, i + n = 104 → TNI γ P I (Mst M) st i → J g 1 K 3 Φ 2 [(2, .int (nI i)), (1, .int (nI (qt γ))), (0, .ref (gr g 67))] [] (mw g w (sst M st)) := by
  intro n
  have e2 := G_t G
  induction n with
  | zero =>
    intro i st hi hT
    have hiN : i = 104 := by omega
    subst hiN
    refine j_iload_n h (q := 3) 0 dX3_turnOver_2 rfl rfl ?_
    refine j_bipush h (q := 5) (104) dX3_turnOver_3 rfl (by decide) ?_
    refine j_icmp_ge h (tgt := 56) (q := 8) dX3_turnOver_5 rfl (by decide) (fun c_5 => ?_) (fun c_5 => ?_)
    rotate_left
    · exact absurd (show (104 : Int32) ≤ nI 104 by decide) c_5
    exact k st hT
  | succ n ih =>
    intro i st hi hT
    have hP := (hL i (by omega)).1
    have hI := (hL i (by omega)).2.1
    obtain ⟨hs1, hs2⟩ := hT.1 i (by omega)
    rw [if_neg (fun z => absurd z.2 (Nat.lt_irrefl _))] at hs1 hs2
    refine j_iload_n h (q := 3) 0 dX3_turnOver_2 rfl rfl ?_
    refine j_bipush h (q := 5) (104) dX3_turnOver_3 rfl (by decide) ?_
    refine j_icmp_ge h (tgt := 56) (q := 8) dX3_turnOver_5 rfl (by decide) (fun c_5 => ?_) (fun c_5 => ?_)
    · exact absurd c_5 (by rw [i_Lle (by omega) (by omega)]; omega)
    refine j_aload_n h (q := 9) 2 dX3_turnOver_8 rfl rfl ?_
    refine j_get h (q := 12) inX3 (C := RX3) (T := TX3) (N := 17) (ci := 3) rfl 0 (by decide) mF_X3_7 (by decide) (mw_0 _ _ _) rfl dX3_turnOver_9 rfl ?_
    refine j_iconst h (q := 13) (0) dX3_turnOver_12 rfl (by decide) ?_
    refine j_iload_n h (q := 14) 0 dX3_turnOver_13 rfl rfl ?_
    refine j_iadd h (q := 15) dX3_turnOver_14 rfl ?_
    refine j_ldn h (q := 16) (i) (by decide) (mw_st _ _ _) (by first | rfl | (simp only [nI_add, i_addL, i_Ladd, i_mulL, i_Lmul]; done) | (simp only [nI_add, i_addL, i_Ladd, i_mulL, i_Lmul]; congr 1; omega)) (by omega) (by decide) dX3_turnOver_15 rfl ?_
    rw [show Mst (sst M st) i = nI (P i) from hs1]
    refine j_iconst h (q := 17) (2) dX3_turnOver_16 rfl (by decide) ?_
    refine j_iload_n h (q := 18) 1 dX3_turnOver_17 rfl rfl ?_
    refine j_iadd h (q := 19) dX3_turnOver_18 rfl ?_
    refine j_icmp_ne h (tgt := 50) (q := 22) dX3_turnOver_19 rfl (by decide) (fun c_19 => ?_) (fun c_19 => ?_)
    · rw [i_Ladd, nI_eqS (by omega) (by omega)] at c_19
      refine j_iinc h (q := 53) (loc' := [(2, _), (1, _), (0, _)]) 0 _ dX3_turnOver_50 rfl rfl rfl (by decide) rfl ?_
      refine j_goto h (tgt := 2) dX3_turnOver_53 (by decide) ?_
      rw [show nI i + Int32.ofInt 1 = nI (i + 1) from nI_1 i]
      first
        | exact ih (i + 1) _ (by omega) (TNI_y hT (by omega) c_19)
        | exact ih (i + 1) _ (by omega) (TNI_n hT c_19)
    · rw [i_Ladd, nI_eqS (by omega) (by omega)] at c_19
      refine j_aload_n h (q := 23) 2 dX3_turnOver_22 rfl rfl ?_
      refine j_iload_n h (q := 24) 0 dX3_turnOver_23 rfl rfl ?_
      refine j_iconst h (q := 25) (4) dX3_turnOver_24 rfl (by decide) ?_
      refine j_iload_n h (q := 26) 1 dX3_turnOver_25 rfl rfl ?_
      refine j_iadd h (q := 27) dX3_turnOver_26 rfl ?_
      refine j_aload_n h (q := 28) 2 dX3_turnOver_27 rfl rfl ?_
      refine j_get h (q := 31) inX3 (C := RX3) (T := TX3) (N := 17) (ci := 3) rfl 8 (by decide) mF_X3_28 (by decide) (mw_0 _ _ _) rfl dX3_turnOver_28 rfl ?_
      refine j_iconst h (q := 32) (2) dX3_turnOver_31 rfl (by decide) ?_
      refine j_iload_n h (q := 33) 1 dX3_turnOver_32 rfl rfl ?_
      refine j_iadd h (q := 34) dX3_turnOver_33 rfl ?_
      refine j_ldn h (q := 35) (2 + qt γ) (by decide) (mw_sz _ _ _) (by first | rfl | (simp only [nI_add, i_addL, i_Ladd, i_mulL, i_Lmul]; done) | (simp only [nI_add, i_addL, i_Ladd, i_mulL, i_Lmul]; congr 1; omega)) (by omega) (by decide) dX3_turnOver_34 rfl ?_
      rw [show Msz (sst M st) (2 + qt γ) = nI (qn γ (2 + qt γ)) from (L _ (by omega)).1]
      refine j_iconst h (q := 36) (1) dX3_turnOver_35 rfl (by decide) ?_
      refine j_isub h (q := 37) dX3_turnOver_36 rfl ?_
      refine j_aload_n h (q := 38) 2 dX3_turnOver_37 rfl rfl ?_
      refine j_get h (q := 41) inX3 (C := RX3) (T := TX3) (N := 17) (ci := 3) rfl 0 (by decide) mF_X3_7 (by decide) (mw_0 _ _ _) rfl dX3_turnOver_38 rfl ?_
      refine j_bipush h (q := 43) (104) dX3_turnOver_41 rfl (by decide) ?_
      refine j_iload_n h (q := 44) 0 dX3_turnOver_43 rfl rfl ?_
      refine j_iadd h (q := 45) dX3_turnOver_44 rfl ?_
      refine j_ldn h (q := 46) (104 + i) (by decide) (mw_st _ _ _) (by first | rfl | (simp only [nI_add, i_addL, i_Ladd, i_mulL, i_Lmul]; done) | (simp only [nI_add, i_addL, i_Ladd, i_mulL, i_Lmul]; congr 1; omega)) (by omega) (by decide) dX3_turnOver_45 rfl ?_
      rw [show Mst (sst M st) (104 + i) = nI (I i) from hs2]
      rw [c_19] at hI
      rw [i_subL (by omega)]
      refine j_isub h (q := 47) dX3_turnOver_46 rfl ?_
      rw [nI_sub (by omega), i_Ladd]
      refine j_cV h (q := 50) (C := RX3) (T := TX3) (N := 17) (ci := 3) mo_X3_lay mI_X3_lay mV_X3_lay mL_X3_49 (m_lay g w (sst M st) rfl (by omega) _ _) (by decide) (by decide) (mw_0 _ _ _) rfl rfl rfl (Nat.le_of_ble_eq_true rfl) dX3_turnOver_47 rfl ?_
      rintro _ w47 ⟨rfl, e⟩
      subst e
      refine j_iinc h (q := 53) (loc' := [(2, _), (1, _), (0, _)]) 0 _ dX3_turnOver_50 rfl rfl rfl (by decide) rfl ?_
      refine j_goto h (tgt := 2) dX3_turnOver_53 (by decide) ?_
      rw [show nI i + Int32.ofInt 1 = nI (i + 1) from nI_1 i]
      first
        | exact ih (i + 1) _ (by omega) (TNI_y hT (by omega) c_19)
        | exact ih (i + 1) _ (by omega) (TNI_n hT c_19)

set_option maxRecDepth 100000 in
set_option maxHeartbeats 4000000 in
theorem m_turnOver (g : jG) (w : jW) (M : Ms) (γ : Gm) (R : MR (Mst M) γ) (G : GI γ) (L : LK M γ) (h0 : qn γ (4 + qt γ) = 0) {a : Int32} (ha : a = nI (qt γ))  : ConV g 1 yX3_turnOver cX3_turnOver 3 none [.ref (gr g 67), .int a] (mw g w M) (fun w' => ∃ st sz tp, w' = mw g w (stp (ssz (sst M st) sz) tp) ∧ MR st (turnG γ) ∧ LK (stp (ssz (sst M st) sz) tp) (turnG γ)) := by
  refine con_of (by decide +kernel) (Nat.le_of_ble_eq_true rfl) [(0, _), (1, _)] rfl (fun K h => ?_)
  subst ha
  have e2 := G_t G
  refine j_iconst h (q := 1) (0) dX3_turnOver_0 rfl (by decide) ?_
  refine j_istore_n h (q := 2) (loc' := [(2, _), (0, _), (1, _)]) dX3_turnOver_1 rfl (by decide) rfl ?_
  refine j_sub [0, 2, 1] rfl ?_
  obtain ⟨P, I, hL⟩ := loc_ex G
  refine lp_turn g w M h R G L hL (fun st hT => ?_) 104 0 (Mst M) rfl (TNI_0 R hL)
  have R1 := TNI_end R G hL hT h0
  refine j_aload_n h (q := 57) 2 dX3_turnOver_56 rfl rfl ?_
  refine j_cV h (q := 60) (C := RX3) (T := TX3) (N := 17) (ci := 3) mo_X3_look mI_X3_look mV_X3_look mL_X3_102 (m_look g w (sst M st) (turnG γ) R1 (GI_turn G)) (by decide) (by decide) (mw_0 _ _ _) rfl rfl rfl (Nat.le_of_ble_eq_true rfl) dX3_turnOver_57 rfl ?_
  rintro _ w57 ⟨rfl, e⟩
  obtain ⟨sz, tp, rfl, L2⟩ := e
  refine j_vret h rfl dX3_turnOver_60 ?_
  exact ⟨rfl, st, sz, tp, rfl, R1, L2⟩

set_option maxRecDepth 100000 in
set_option maxHeartbeats 4000000 in
theorem lp_draws (g : jG) (w : jW) (M : Ms) {K : jK} {Φ : Option Value → jW → Prop} (h : jH g K RX3 cX3_draws 4 (some (.int))) {ε : Gm} (R : MR (Mst M) ε) (G : GI ε) (x : Int32) (k : ∀ st, DRI ε (Mst M) st 8 → J g 2 K 4 Φ 105 [(3, .int (nI 8)), (2, .int x), (1, .int (nI (qt ε))), (0, .ref (gr g 67))] [] (mw g w (sst M st))) : ∀ n i st, i + n = 8 → DRI ε (Mst M) st i → J g 2 K 4 Φ 62 [(3, .int (nI i)), (2, .int x), (1, .int (nI (qt ε))), (0, .ref (gr g 67))] [] (mw g w (sst M st)) := by
  intro n
  induction n with
  | zero =>
    intro i st hi hT
    have hiN : i = 8 := by omega
    subst hiN
    refine j_iload_n h (q := 63) 0 dX3_draws_62 rfl rfl ?_
    refine j_bipush h (q := 65) (8) dX3_draws_63 rfl (by decide) ?_
    refine j_icmp_ge h (tgt := 105) (q := 68) dX3_draws_65 rfl (by decide) (fun c_65 => ?_) (fun c_65 => ?_)
    rotate_left
    · exact absurd (show (8 : Int32) ≤ nI 8 by decide) c_65
    exact k st hT
  | succ n ih =>
    intro i st hi hT
    have hz3 := G.2.2.2.1 i (by omega)
    have hs := hT.2.2 i (by omega)
    rw [if_neg (Nat.lt_irrefl _)] at hs
    refine j_iload_n h (q := 63) 0 dX3_draws_62 rfl rfl ?_
    refine j_bipush h (q := 65) (8) dX3_draws_63 rfl (by decide) ?_
    refine j_icmp_ge h (tgt := 105) (q := 68) dX3_draws_65 rfl (by decide) (fun c_65 => ?_) (fun c_65 => ?_)
    · exact absurd c_65 (by rw [i_Lle (by omega) (by omega)]; omega)
    refine j_aload_n h (q := 69) 3 dX3_draws_68 rfl rfl ?_
    refine j_get h (q := 72) inX3 (C := RX3) (T := TX3) (N := 17) (ci := 3) rfl 0 (by decide) mF_X3_7 (by decide) (mw_0 _ _ _) rfl dX3_draws_69 rfl ?_
    refine j_sipush h (q := 75) (212) dX3_draws_72 rfl (by decide) ?_
    refine j_iload_n h (q := 76) 0 dX3_draws_75 rfl rfl ?_
    refine j_iadd h (q := 77) dX3_draws_76 rfl ?_
    refine j_dup2 h (q := 78) dX3_draws_77 rfl rfl rfl ?_
    refine j_ldn h (q := 79) (212 + i) (by decide) (mw_st _ _ _) (by first | rfl | (simp only [nI_add, i_addL, i_Ladd, i_mulL, i_Lmul]; done) | (simp only [nI_add, i_addL, i_Ladd, i_mulL, i_Lmul]; congr 1; omega)) (by omega) (by decide) dX3_draws_78 rfl ?_
    rw [show Mst (sst M st) (212 + i) = nI (qz ε i) from hs]
    refine j_aload_n h (q := 80) 3 dX3_draws_79 rfl rfl ?_
    refine j_get h (q := 83) inX3 (C := RX3) (T := TX3) (N := 17) (ci := 3) rfl 0 (by decide) mF_X3_7 (by decide) (mw_0 _ _ _) rfl dX3_draws_80 rfl ?_
    refine j_sipush h (q := 86) (212) dX3_draws_83 rfl (by decide) ?_
    refine j_iload_n h (q := 87) 0 dX3_draws_86 rfl rfl ?_
    refine j_iadd h (q := 88) dX3_draws_87 rfl ?_
    refine j_ldn h (q := 89) (212 + i) (by decide) (mw_st _ _ _) (by first | rfl | (simp only [nI_add, i_addL, i_Ladd, i_mulL, i_Lmul]; done) | (simp only [nI_add, i_addL, i_Ladd, i_mulL, i_Lmul]; congr 1; omega)) (by omega) (by decide) dX3_draws_88 rfl ?_
    rw [show Mst (sst M st) (212 + i) = nI (qz ε i) from hs]
    refine j_if_le h (tgt := 96) (q := 92) dX3_draws_89 rfl (by decide) (fun c_89 => ?_) (fun c_89 => ?_)
    · rw [i_leL (by omega) (by decide)] at c_89
      refine j_iconst h (q := 97) (0) dX3_draws_96 rfl (by decide) ?_
      refine j_isub h (q := 98) dX3_draws_97 rfl ?_
      refine j_stn h (q := 99) (212 + i) (by decide) (mw_st _ _ _) (by first | rfl | (simp only [nI_add, i_addL, i_Ladd, i_mulL, i_Lmul]; done) | (simp only [nI_add, i_addL, i_Ladd, i_mulL, i_Lmul]; congr 1; omega)) (by omega) (by decide) dX3_draws_98 rfl ?_
      refine j_stk rfl mw_ust ?_
      refine j_iinc h (q := 102) (loc' := [(3, _), (2, _), (1, _), (0, _)]) 0 _ dX3_draws_99 rfl rfl rfl (by decide) rfl ?_
      refine j_goto h (tgt := 62) dX3_draws_102 (by decide) ?_
      rw [show nI i + Int32.ofInt 1 = nI (i + 1) from nI_1 i]
      first
        | exact ih (i + 1) _ (by omega) (DRI_s hT (by omega) (by rw [show qz ε i = 0 by omega]; decide))
        | exact ih (i + 1) _ (by omega) (DRI_s hT (by omega) (i_subL (by omega)))
    · rw [i_leL (by omega) (by decide)] at c_89
      refine j_iconst h (q := 93) (1) dX3_draws_92 rfl (by decide) ?_
      refine j_goto h (tgt := 97) dX3_draws_93 (by decide) ?_
      refine j_isub h (q := 98) dX3_draws_97 rfl ?_
      refine j_stn h (q := 99) (212 + i) (by decide) (mw_st _ _ _) (by first | rfl | (simp only [nI_add, i_addL, i_Ladd, i_mulL, i_Lmul]; done) | (simp only [nI_add, i_addL, i_Ladd, i_mulL, i_Lmul]; congr 1; omega)) (by omega) (by decide) dX3_draws_98 rfl ?_
      refine j_stk rfl mw_ust ?_
      refine j_iinc h (q := 102) (loc' := [(3, _), (2, _), (1, _), (0, _)]) 0 _ dX3_draws_99 rfl rfl rfl (by decide) rfl ?_
      refine j_goto h (tgt := 62) dX3_draws_102 (by decide) ?_
      rw [show nI i + Int32.ofInt 1 = nI (i + 1) from nI_1 i]
      first
        | exact ih (i + 1) _ (by omega) (DRI_s hT (by omega) (by rw [show qz ε i = 0 by omega]; decide))
        | exact ih (i + 1) _ (by omega) (DRI_s hT (by omega) (i_subL (by omega)))

set_option maxRecDepth 100000 in
set_option maxHeartbeats 4000000 in
theorem draws_60 (g : jG) (w : jW) (M : Ms) {K : jK} {Φ : Option Value → jW → Prop} (h : jH g K RX3 cX3_draws 4 (some (.int))) {ε : Gm} (R : MR (Mst M) ε) (G : GI ε) (ho : qo ε = false) (x : Int32) (k2 : ∀ st, MR st (dneG ε) → Φ (some (.int x)) (mw g w (sst M st))) : J g 2 K 4 Φ 60 [(2, .int x), (1, .int (nI (qt ε))), (0, .ref (gr g 67))] [] (mw g w M) := by
  have e2 := G_t G
  have hd := G.2.2.2.2.1
  have hd2 := G.2.2.2.2.2
  have hd3 : qd ε < 200 := by
    rcases Nat.lt_or_ge (qd ε) 200 with z | z
    · exact z
    · have y := hd2 (by omega); rw [ho] at y; cases y
  refine j_iconst h (q := 61) (0) dX3_draws_60 rfl (by decide) ?_
  refine j_istore_n h (q := 62) (loc' := [(3, _), (2, _), (1, _), (0, _)]) dX3_draws_61 rfl (by decide) rfl ?_
  refine lp_draws g w M h R G x (fun st hT => ?_) 8 0 (Mst M) rfl ⟨fun _ _ => rfl, fun _ _ => rfl, fun k hk => by rw [if_neg (Nat.not_lt_zero _)]; exact R.2.2.1 k hk⟩
  refine j_aload_n h (q := 106) 3 dX3_draws_105 rfl rfl ?_
  refine j_get h (q := 109) inX3 (C := RX3) (T := TX3) (N := 17) (ci := 3) rfl 0 (by decide) mF_X3_7 (by decide) (mw_0 _ _ _) rfl dX3_draws_106 rfl ?_
  refine j_sipush h (q := 112) (220) dX3_draws_109 rfl (by decide) ?_
  refine j_iconst h (q := 113) (1) dX3_draws_112 rfl (by decide) ?_
  refine j_iload_n h (q := 114) 2 dX3_draws_113 rfl rfl ?_
  refine j_isub h (q := 115) dX3_draws_114 rfl ?_
  rw [i_Lsub (show qt ε ≤ 1 by omega)]
  refine j_stn h (q := 116) (220) (by decide) (mw_st _ _ _) rfl (by decide) (by decide) dX3_draws_115 rfl ?_
  refine j_stk rfl mw_ust ?_
  refine j_aload_n h (q := 117) 3 dX3_draws_116 rfl rfl ?_
  refine j_get h (q := 120) inX3 (C := RX3) (T := TX3) (N := 17) (ci := 3) rfl 0 (by decide) mF_X3_7 (by decide) (mw_0 _ _ _) rfl dX3_draws_117 rfl ?_
  refine j_sipush h (q := 123) (222) dX3_draws_120 rfl (by decide) ?_
  refine j_dup2 h (q := 124) dX3_draws_123 rfl rfl rfl ?_
  refine j_ldn h (q := 125) (222) (by decide) (mw_st _ _ _) rfl (by decide) (by decide) dX3_draws_124 rfl ?_
  rw [show Mst (sst (sst M st) (upd st 220 (nI (1 - qt ε)))) 222 = nI (qd ε) by show upd st 220 (nI (1 - qt ε)) 222 = _; rw [pk_un (by decide), hT.2.1 222 (by decide)]; exact R.2.2.2.2.2.1]
  refine j_iconst h (q := 126) (1) dX3_draws_125 rfl (by decide) ?_
  refine j_iadd h (q := 127) dX3_draws_126 rfl ?_
  rw [i_addL]
  refine j_stn h (q := 128) (222) (by decide) (mw_st _ _ _) rfl (by decide) (by decide) dX3_draws_127 rfl ?_
  refine j_stk rfl mw_ust ?_
  refine j_aload_n h (q := 129) 3 dX3_draws_128 rfl rfl ?_
  refine j_get h (q := 132) inX3 (C := RX3) (T := TX3) (N := 17) (ci := 3) rfl 0 (by decide) mF_X3_7 (by decide) (mw_0 _ _ _) rfl dX3_draws_129 rfl ?_
  refine j_sipush h (q := 135) (221) dX3_draws_132 rfl (by decide) ?_
  refine j_aload_n h (q := 136) 3 dX3_draws_135 rfl rfl ?_
  refine j_get h (q := 139) inX3 (C := RX3) (T := TX3) (N := 17) (ci := 3) rfl 0 (by decide) mF_X3_7 (by decide) (mw_0 _ _ _) rfl dX3_draws_136 rfl ?_
  refine j_sipush h (q := 142) (222) dX3_draws_139 rfl (by decide) ?_
  refine j_ldn h (q := 143) (222) (by decide) (mw_st _ _ _) rfl (by decide) (by decide) dX3_draws_142 rfl ?_
  rw [show Mst (sst (sst (sst M st) (upd st 220 (nI (1 - qt ε)))) (upd (upd st 220 (nI (1 - qt ε))) 222 (nI (qd ε + 1)))) 222 = nI (qd ε + 1) by show upd (upd st 220 (nI (1 - qt ε))) 222 (nI (qd ε + 1)) 222 = _; exact pk_us]
  refine j_sipush h (q := 146) (200) dX3_draws_143 rfl (by decide) ?_
  refine j_icmp_ne h (tgt := 153) (q := 149) dX3_draws_146 rfl (by decide) (fun c_146 => ?_) (fun c_146 => ?_)
  · rw [i_eqL (by omega) (by decide)] at c_146
    refine j_aload_n h (q := 154) 3 dX3_draws_153 rfl rfl ?_
    refine j_get h (q := 157) inX3 (C := RX3) (T := TX3) (N := 17) (ci := 3) rfl 0 (by decide) mF_X3_7 (by decide) (mw_0 _ _ _) rfl dX3_draws_154 rfl ?_
    refine j_sipush h (q := 160) (221) dX3_draws_157 rfl (by decide) ?_
    refine j_ldn h (q := 161) (221) (by decide) (mw_st _ _ _) rfl (by decide) (by decide) dX3_draws_160 rfl ?_
    rw [show Mst (sst (sst (sst M st) (upd st 220 (nI (1 - qt ε)))) (upd (upd st 220 (nI (1 - qt ε))) 222 (nI (qd ε + 1)))) 221 = 0 by show upd (upd st 220 (nI (1 - qt ε))) 222 (nI (qd ε + 1)) 221 = 0; rw [pk_un (by decide), pk_un (by decide), hT.2.1 221 (by decide), R.2.2.2.2.1, ho]; rfl]
    refine j_stn h (q := 162) (221) (by decide) (mw_st _ _ _) rfl (by decide) (by decide) dX3_draws_161 rfl ?_
    refine j_stk rfl mw_ust ?_
    refine j_iload_n h (q := 163) 1 dX3_draws_162 rfl rfl ?_
    refine j_iret h rfl dX3_draws_163 ?_
    refine k2 _ (MR_dne R G ho hT ?_)
    first | exact b2i_dt (by omega) | exact b2i_df (by omega)
  · rw [i_eqL (by omega) (by decide)] at c_146
    refine j_iconst h (q := 150) (1) dX3_draws_149 rfl (by decide) ?_
    refine j_goto h (tgt := 161) dX3_draws_150 (by decide) ?_
    refine j_stn h (q := 162) (221) (by decide) (mw_st _ _ _) rfl (by decide) (by decide) dX3_draws_161 rfl ?_
    refine j_stk rfl mw_ust ?_
    refine j_iload_n h (q := 163) 1 dX3_draws_162 rfl rfl ?_
    refine j_iret h rfl dX3_draws_163 ?_
    refine k2 _ (MR_dne R G ho hT ?_)
    first | exact b2i_dt (by omega) | exact b2i_df (by omega)

set_option maxRecDepth 100000 in
set_option maxHeartbeats 4000000 in
theorem draws_29 (g : jG) (w : jW) (M : Ms) {K : jK} {Φ : Option Value → jW → Prop} (h : jH g K RX3 cX3_draws 4 (some (.int))) {δ : Gm} (R : MR (Mst M) δ) (G : GI δ) (L : LK M δ) (ho : qo δ = false) (k3 : ∀ st, MR st (dneG (takeG δ)) → Φ (some (.int (ov (topO δ (4 + qt δ))))) (mw g w (sst M st))) : J g 2 K 4 Φ 29 [(1, .int (nI (qt δ))), (0, .ref (gr g 67))] [] (mw g w M) := by
  have e2 := G_t G
  by_cases z : qn δ (4 + qt δ) = 0
  · have hk := 0
    refine j_aload_n h (q := 30) 1 dX3_draws_29 rfl rfl ?_
    refine j_get h (q := 33) inX3 (C := RX3) (T := TX3) (N := 17) (ci := 3) rfl 9 (by decide) mF_X3_31 (by decide) (mw_0 _ _ _) rfl dX3_draws_30 rfl ?_
    refine j_iconst h (q := 34) (4) dX3_draws_33 rfl (by decide) ?_
    refine j_iload_n h (q := 35) 0 dX3_draws_34 rfl rfl ?_
    refine j_iadd h (q := 36) dX3_draws_35 rfl ?_
    refine j_ldn h (q := 37) (4 + qt δ) (by decide) (mw_tp _ _ _) (by first | rfl | (simp only [nI_add, i_addL, i_Ladd, i_mulL, i_Lmul]; done) | (simp only [nI_add, i_addL, i_Ladd, i_mulL, i_Lmul]; congr 1; omega)) (by omega) (by decide) dX3_draws_36 rfl ?_
    rw [show Mtp M (4 + qt δ) = ov (topO δ (4 + qt δ)) from (L _ (by omega)).2, topO_0 z]
    refine j_istore_n h (q := 38) (loc' := [(2, _), (1, _), (0, _)]) dX3_draws_37 rfl (by decide) rfl ?_
    refine j_iload_n h (q := 39) 0 dX3_draws_38 rfl rfl ?_
    refine j_bipush h (q := 41) (-6) dX3_draws_39 rfl (by decide) ?_
    refine j_icmp_eq h (tgt := 60) (q := 44) dX3_draws_41 rfl (by decide) (fun c_41 => ?_) (fun c_41 => ?_)
    rotate_left
    · exact absurd (show (-6 : Int32) = -6 from rfl) c_41
    have ez : takeG δ = δ := by unfold takeG; rw [if_pos z]
    refine draws_60 g w M h R G ho _ (fun st hR => ?_)
    rw [topO_0 z, ez] at k3
    exact k3 st hR
  · have hk := G_k G (show 4 + qt δ < 22 by omega) (show 0 < qn δ (4 + qt δ) by omega)
    refine j_aload_n h (q := 30) 1 dX3_draws_29 rfl rfl ?_
    refine j_get h (q := 33) inX3 (C := RX3) (T := TX3) (N := 17) (ci := 3) rfl 9 (by decide) mF_X3_31 (by decide) (mw_0 _ _ _) rfl dX3_draws_30 rfl ?_
    refine j_iconst h (q := 34) (4) dX3_draws_33 rfl (by decide) ?_
    refine j_iload_n h (q := 35) 0 dX3_draws_34 rfl rfl ?_
    refine j_iadd h (q := 36) dX3_draws_35 rfl ?_
    refine j_ldn h (q := 37) (4 + qt δ) (by decide) (mw_tp _ _ _) (by first | rfl | (simp only [nI_add, i_addL, i_Ladd, i_mulL, i_Lmul]; done) | (simp only [nI_add, i_addL, i_Ladd, i_mulL, i_Lmul]; congr 1; omega)) (by omega) (by decide) dX3_draws_36 rfl ?_
    rw [show Mtp M (4 + qt δ) = ov (topO δ (4 + qt δ)) from (L _ (by omega)).2, topO_k (by omega)]
    refine j_istore_n h (q := 38) (loc' := [(2, _), (1, _), (0, _)]) dX3_draws_37 rfl (by decide) rfl ?_
    refine j_iload_n h (q := 39) 0 dX3_draws_38 rfl rfl ?_
    refine j_bipush h (q := 41) (-6) dX3_draws_39 rfl (by decide) ?_
    refine j_icmp_eq h (tgt := 60) (q := 44) dX3_draws_41 rfl (by decide) (fun c_41 => ?_) (fun c_41 => ?_)
    · exact absurd (show nI (topK δ (4 + qt δ)) = -6 from c_41) (ov_ne hk)
    refine j_aload_n h (q := 45) 2 dX3_draws_44 rfl rfl ?_
    refine j_iload_n h (q := 46) 0 dX3_draws_45 rfl rfl ?_
    refine j_iconst h (q := 47) (2) dX3_draws_46 rfl (by decide) ?_
    refine j_iload_n h (q := 48) 1 dX3_draws_47 rfl rfl ?_
    refine j_iadd h (q := 49) dX3_draws_48 rfl ?_
    refine j_aload_n h (q := 50) 2 dX3_draws_49 rfl rfl ?_
    refine j_get h (q := 53) inX3 (C := RX3) (T := TX3) (N := 17) (ci := 3) rfl 8 (by decide) mF_X3_28 (by decide) (mw_0 _ _ _) rfl dX3_draws_50 rfl ?_
    refine j_iconst h (q := 54) (2) dX3_draws_53 rfl (by decide) ?_
    refine j_iload_n h (q := 55) 1 dX3_draws_54 rfl rfl ?_
    refine j_iadd h (q := 56) dX3_draws_55 rfl ?_
    refine j_ldn h (q := 57) (2 + qt δ) (by decide) (mw_sz _ _ _) (by first | rfl | (simp only [nI_add, i_addL, i_Ladd, i_mulL, i_Lmul]; done) | (simp only [nI_add, i_addL, i_Ladd, i_mulL, i_Lmul]; congr 1; omega)) (by omega) (by decide) dX3_draws_56 rfl ?_
    rw [show Msz M (2 + qt δ) = nI (qn δ (2 + qt δ)) from (L _ (by omega)).1, i_Ladd]
    refine j_cV h (q := 60) (C := RX3) (T := TX3) (N := 17) (ci := 3) mo_X3_lay mI_X3_lay mV_X3_lay mL_X3_49 (m_lay g w M rfl hk _ _) (by decide) (by decide) (mw_0 _ _ _) rfl rfl rfl (Nat.le_of_ble_eq_true rfl) dX3_draws_57 rfl ?_
    rintro _ w57 ⟨rfl, e⟩
    subst e
    have ez : takeG δ = (mvN δ (4 + qt δ) (2 + qt δ), mvC δ (4 + qt δ) (2 + qt δ), δ.2.2) := by unfold takeG; rw [if_neg z]
    have R1 := MR_mv R G (show 4 + qt δ < 22 by omega) (show 2 + qt δ < 22 by omega) (by omega) (by omega)
    have G1 := GI_take G
    rw [ez] at G1
    rw [topO_k (by omega), ez] at k3
    exact draws_60 g w (sst M (upd (upd (Mst M) (topK δ (4 + qt δ)) (nI (2 + qt δ))) (104 + topK δ (4 + qt δ)) (nI (qn δ (2 + qt δ))))) h R1 G1 ho _ (fun st hR => k3 st hR)

set_option maxRecDepth 100000 in
set_option maxHeartbeats 4000000 in
theorem m_draws (g : jG) (w : jW) (M : Ms) (γ : Gm) (R : MR (Mst M) γ) (G : GI γ) (ho : qo γ = false)  : ConI g 2 yX3_draws cX3_draws 4 (some (.int)) [.ref (gr g 67)] (mw g w M) (fun x w' => x = ov (drawO γ) ∧ ∃ st sz tp, w' = mw g w (stp (ssz (sst M st) sz) tp) ∧ MR st (drawG γ)) := by
  refine con_of (by decide +kernel) (Nat.le_of_ble_eq_true rfl) [(0, _)] rfl (fun K h => ?_)
  have e2 := G_t G
  have hn4 := G_n2 G (p := 4 + qt γ) (by omega)
  refine j_aload_n h (q := 1) 0 dX3_draws_0 rfl rfl ?_
  refine j_get h (q := 4) inX3 (C := RX3) (T := TX3) (N := 17) (ci := 3) rfl 0 (by decide) mF_X3_7 (by decide) (mw_0 _ _ _) rfl dX3_draws_1 rfl ?_
  refine j_sipush h (q := 7) (220) dX3_draws_4 rfl (by decide) ?_
  refine j_ldn h (q := 8) (220) (by decide) (mw_st _ _ _) rfl (by decide) (by decide) dX3_draws_7 rfl ?_
  rw [M_sd R]
  refine j_istore_n h (q := 9) (loc' := [(1, _), (0, _)]) dX3_draws_8 rfl (by decide) rfl ?_
  refine j_aload_n h (q := 10) 1 dX3_draws_9 rfl rfl ?_
  refine j_cV h (q := 13) (C := RX3) (T := TX3) (N := 17) (ci := 3) mo_X3_look mI_X3_look mV_X3_look mL_X3_102 (m_look g w M γ R G) (by decide) (by decide) (mw_0 _ _ _) rfl rfl rfl (Nat.le_of_ble_eq_true rfl) dX3_draws_10 rfl ?_
  rintro _ w10 ⟨rfl, e⟩
  obtain ⟨sz, tp, rfl, L⟩ := e
  refine j_aload_n h (q := 14) 1 dX3_draws_13 rfl rfl ?_
  refine j_get h (q := 17) inX3 (C := RX3) (T := TX3) (N := 17) (ci := 3) rfl 8 (by decide) mF_X3_28 (by decide) (mw_0 _ _ _) rfl dX3_draws_14 rfl ?_
  refine j_iconst h (q := 18) (4) dX3_draws_17 rfl (by decide) ?_
  refine j_iload_n h (q := 19) 0 dX3_draws_18 rfl rfl ?_
  refine j_iadd h (q := 20) dX3_draws_19 rfl ?_
  refine j_ldn h (q := 21) (4 + qt γ) (by decide) (mw_sz _ _ _) (by first | rfl | (simp only [nI_add, i_addL, i_Ladd, i_mulL, i_Lmul]; done) | (simp only [nI_add, i_addL, i_Ladd, i_mulL, i_Lmul]; congr 1; omega)) (by omega) (by decide) dX3_draws_20 rfl ?_
  rw [show Msz (stp (ssz M sz) tp) (4 + qt γ) = nI (qn γ (4 + qt γ)) from (L _ (by omega)).1]
  refine j_if_ne h (tgt := 29) (q := 24) dX3_draws_21 rfl (by decide) (fun c_21 => ?_) (fun c_21 => ?_)
  · rw [i_eqL (by omega) (by decide)] at c_21
    have ez : turnG γ = γ := by unfold turnG; rw [if_neg c_21]
    first
      | (refine draws_29 g w (stp (ssz M sz) tp) h (δ := γ) R G L ho (fun st hR => ⟨_, rfl, ?_, st, sz, tp, rfl, ?_⟩)
         · unfold drawO; rw [ez]
         · rw [draw_e, ez]; exact hR)
      | (have hq : qt γ = qt (turnG γ) := (turn_n γ).symm
         rw [hq]
         refine draws_29 g w (stp (ssz (sst (stp (ssz M sz) tp) st2) sz2) tp2) h (δ := turnG γ) R2 (GI_turn G) L2 (by rw [show qo (turnG γ) = qo γ from congrArg (fun z => z.2.2.2.2.2.2) (turn_2 γ)]; exact ho) (fun st hR => ⟨_, rfl, ?_, st, sz2, tp2, rfl, ?_⟩)
         · unfold drawO; rw [turn_n]
         · rw [draw_e]; exact hR)
  · rw [i_eqL (by omega) (by decide)] at c_21
    refine j_aload_n h (q := 25) 1 dX3_draws_24 rfl rfl ?_
    refine j_iload_n h (q := 26) 0 dX3_draws_25 rfl rfl ?_
    refine j_cV h (q := 29) (C := RX3) (T := TX3) (N := 17) (ci := 3) mo_X3_turnOver mI_X3_turnOver mV_X3_turnOver mL_X3_108 (m_turnOver g w (stp (ssz M sz) tp) γ R G L c_21 rfl) (by decide) (by decide) (mw_0 _ _ _) rfl rfl rfl (Nat.le_of_ble_eq_true rfl) dX3_draws_26 rfl ?_
    rintro _ w26 ⟨rfl, e⟩
    obtain ⟨st2, sz2, tp2, rfl, R2, L2⟩ := e
    first
      | (refine draws_29 g w (stp (ssz M sz) tp) h (δ := γ) R G L ho (fun st hR => ⟨_, rfl, ?_, st, sz, tp, rfl, ?_⟩)
         · unfold drawO; rw [ez]
         · rw [draw_e, ez]; exact hR)
      | (have hq : qt γ = qt (turnG γ) := (turn_n γ).symm
         rw [hq]
         refine draws_29 g w (stp (ssz (sst (stp (ssz M sz) tp) st2) sz2) tp2) h (δ := turnG γ) R2 (GI_turn G) L2 (by rw [show qo (turnG γ) = qo γ from congrArg (fun z => z.2.2.2.2.2.2) (turn_2 γ)]; exact ho) (fun st hR => ⟨_, rfl, ?_, st, sz2, tp2, rfl, ?_⟩)
         · unfold drawO; rw [turn_n]
         · rw [draw_e]; exact hR)
