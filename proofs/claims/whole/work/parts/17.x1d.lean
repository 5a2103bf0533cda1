set_option maxRecDepth 100000 in
set_option maxHeartbeats 4000000 in
theorem c_moveCard (g : jG) (w : jW) (t : Nat) (ht : t + 6 ≤ NW) (T : Ts) (γ : Gm) (R : TR T γ) (G : GI γ) {a b : Int32} {f u : Nat} (ha : a = nI f) (hb : b = nI u) (hf : f < 22) (hu : u < 22) (hk : okG γ f u = true)  : ConI g 3 yX1_moveCard cX1_moveCard 4 (some (.int)) [.ref (gr g t), .int a, .int b] (tab g w t T) (fun x w' => x = gainG γ f u ∧ ∃ T', w' = tab g w t T' ∧ TR T' (moveG γ f u)) := by
  refine con_of (by decide +kernel) (Nat.le_of_ble_eq_true rfl) [(0, _), (1, _), (2, _)] rfl (fun K h => ?_)
  subst ha; subst hb
  refine j_aload_n h (q := 1) 0 dX1_moveCard_0 rfl rfl ?_
  refine j_iload_n h (q := 2) 1 dX1_moveCard_1 rfl rfl ?_
  refine j_iload_n h (q := 3) 2 dX1_moveCard_2 rfl rfl ?_
  refine j_cV h (q := 6) (C := RX1) (T := TX1) (N := 9) (ci := 1) mo_X1_pointsFor mI_X1_pointsFor mV_X1_pointsFor mL_X1_136 (c_pointsFor g _ _ ht _ γ R G rfl rfl hf hu) (by decide) (by omega) (tab_0 _ _ _ _) rfl rfl rfl (Nat.le_of_ble_eq_true rfl) dX1_moveCard_3 rfl ?_
  rintro _ w3 ⟨x3, rfl, e⟩
  obtain ⟨rfl, rfl⟩ := e
  obtain ⟨n1, n2, n3⟩ := okG_ne hk (G_t G)
  have n0 := (okG_spec hk).2.1
  have e2 := G_t G
  have hcu : qn γ u < cap u := by
    have a := G_n (GI_move G hk hu) hu
    have b : qn (moveG γ f u) u = qn γ u + 1 := if_pos rfl
    omega
  refine j_istore_n h (q := 7) (loc' := [(3, _), (0, _), (1, _), (2, _)]) dX1_moveCard_6 rfl (by decide) rfl ?_
  refine j_aload_n h (q := 8) 1 dX1_moveCard_7 rfl rfl ?_
  refine j_iload_n h (q := 9) 3 dX1_moveCard_8 rfl rfl ?_
  refine j_aload_n h (q := 10) 1 dX1_moveCard_9 rfl rfl ?_
  refine j_iload_n h (q := 11) 2 dX1_moveCard_10 rfl rfl ?_
  refine j_cV h (q := 14) (C := RX1) (T := TX1) (N := 9) (ci := 1) mo_X1_takeFrom mI_X1_takeFrom mV_X1_takeFrom mL_X1_139 (c_take g _ _ ht _ rfl hf (qn γ f) (R_sz R hf) (G_f G hf) n0 (k := topK γ f) (G_k G hf n0) (R_cd R hf (by omega))) (by decide) (by omega) (tab_0 _ _ _ _) rfl rfl rfl (Nat.le_of_ble_eq_true rfl) dX1_moveCard_11 rfl ?_
  rintro _ w11 ⟨x11, rfl, e⟩
  obtain ⟨rfl, rfl⟩ := e
  refine j_cV h (q := 17) (C := RX1) (T := TX1) (N := 9) (ci := 1) mo_X1_layOn mI_X1_layOn mV_X1_layOn mL_X1_30 (c_X1_layOn g _ _ ht _ rfl hu (qn γ u) (by show upd (Tsz T) f _ u = _; unfold upd; rw [if_neg (fun z => n1 z.symm)]; exact R_sz R hu) (by have := fpv_cap hu; omega) _) (by decide) (by omega) (tab_0 _ _ _ _) rfl rfl rfl (Nat.le_of_ble_eq_true rfl) dX1_moveCard_14 rfl ?_
  rintro _ w14 ⟨rfl, e⟩
  obtain ⟨T1, R1, e1⟩ : ∃ T1, TR T1 (mvN γ f u, mvC γ f u, γ.2.2) ∧ w14 = tab g w t T1 := ⟨_, TR_mv R (GI_caps G) hf hu n1 n0 hcu, e⟩
  subst e1
  have p1 : Ttp T1 = nI (qt γ) := R1.2.2.2.2.2.1
  have p2 : Tdr T1 = nI (qd γ) := R1.2.2.2.2.2.2.1
  have p3 : Tmv T1 = qm γ := R1.2.2.2.2.2.2.2.1
  have hov : Tov T1 = b2i (qo γ) := R1.2.2.2.2.2.2.2.2
  have p4 : ∀ s, s < 2 → Tpt T1 s = qp γ s := R1.2.2.1
  have p5 : ∀ s, s < 2 → Tfz T1 s = nI (qf γ s) := R1.2.2.2.1
  have p6 : ∀ k, k < 8 → ∃ th, Tth T1 k = nI th ∧ th ≤ 203 ∧ qz γ k = th - qd γ := R1.2.2.2.2.1
  refine j_aload_n h (q := 18) 1 dX1_moveCard_17 rfl rfl ?_
  refine j_dup h (q := 19) dX1_moveCard_18 rfl rfl ?_
  refine j_get h (q := 22) inX1 (C := RX1) (T := TX1) (N := 9) (ci := 1) rfl 7 (by decide) mF_X1_52 (by omega) (tab_0 _ _ _ _) rfl dX1_moveCard_19 rfl ?_
  refine j_iconst h (q := 23) (1) dX1_moveCard_22 rfl (by decide) ?_
  refine j_iadd h (q := 24) dX1_moveCard_23 rfl ?_
  refine j_put h (q := 27) inX1 (C := RX1) (T := TX1) (N := 9) (ci := 1) rfl tyX1_ok nmX1 7 (by decide) mF_X1_52 rfl rfl rfl (by first | rfl | decide) (by omega) (tab_0 _ _ _ _) (Nat.le_of_ble_eq_true rfl) dX1_moveCard_24 rfl ?_
  refine j_stk rfl tab_u0 ?_
  refine j_aload_n h (q := 28) 1 dX1_moveCard_27 rfl rfl ?_
  refine j_aload_n h (q := 29) 1 dX1_moveCard_28 rfl rfl ?_
  refine j_get h (q := 32) inX1 (C := RX1) (T := TX1) (N := 9) (ci := 1) rfl 5 (by decide) mF_X1_45 (by omega) (tab_0 _ _ _ _) rfl dX1_moveCard_29 rfl ?_
  refine j_cV h (q := 35) (C := RX1) (T := TX1) (N := 9) (ci := 1) mo_X1_leftOf mI_X1_leftOf mV_X1_leftOf mL_X1_142 (c_leftOf g _ _ ht _ (s := qt γ) p1 (G_t G)) (by decide) (by omega) (tab_0 _ _ _ _) rfl rfl rfl (Nat.le_of_ble_eq_true rfl) dX1_moveCard_32 rfl ?_
  rintro _ w32 ⟨x32, rfl, e⟩
  obtain ⟨e3, rfl⟩ := e
  have hb0 := G_n2 (GI_move G hk hu) (p := qt γ) (by omega)
  have hb1 := G_n2 (GI_move G hk hu) (p := 2 + qt γ) (by omega)
  have hb2 := G_n2 (GI_move G hk hu) (p := 4 + qt γ) (by omega)
  have e4 : x32 = nI (leftG (mvN γ f u) (qt γ)) := by
    rw [e3]
    show Tsz T1 (qt γ) + Tsz T1 (2 + qt γ) + Tsz T1 (4 + qt γ) = _
    rw [R_sz R1 (by omega), R_sz R1 (by omega), R_sz R1 (by omega), nI_add, nI_add]
    rfl
  rw [e4]
  have hlb : leftG (mvN γ f u) (qt γ) < 1000000 := by
    have a0 : mvN γ f u (qt γ) ≤ 104 := hb0
    have a1 : mvN γ f u (2 + qt γ) ≤ 104 := hb1
    have a2 : mvN γ f u (4 + qt γ) ≤ 104 := hb2
    unfold leftG; omega
  refine j_if_ne h (tgt := 46) (q := 38) dX1_moveCard_35 rfl (by decide) (fun c_35 => ?_) (fun c_35 => ?_)
  · rw [i_eqL hlb (by decide)] at c_35
    have he : endG γ f u = false := by unfold endG; rw [beq_eq_false_iff_ne]; exact c_35
    refine j_aload_n h (q := 47) 1 dX1_moveCard_46 rfl rfl ?_
    refine j_get h (q := 50) inX1 (C := RX1) (T := TX1) (N := 9) (ci := 1) rfl 2 (by decide) mF_X1_18 (by omega) (tab_0 _ _ _ _) rfl dX1_moveCard_47 rfl ?_
    refine j_aload_n h (q := 51) 1 dX1_moveCard_50 rfl rfl ?_
    refine j_get h (q := 54) inX1 (C := RX1) (T := TX1) (N := 9) (ci := 1) rfl 5 (by decide) mF_X1_45 (by omega) (tab_0 _ _ _ _) rfl dX1_moveCard_51 rfl ?_
    refine j_iload_n h (q := 55) 0 dX1_moveCard_54 rfl rfl ?_
    refine j_cSN h (q := 58) mo_X2_addAt mS_X2_addAt mL_X1_82 (c_X2_addAt g _ (by omega) (tab_3 _ _ _ _) (by decide) _ _) (by decide) rfl rfl (Nat.le_of_ble_eq_true rfl) dX1_moveCard_55 rfl ?_
    rintro _ w55 ⟨rfl, e⟩
    rw [show Ttp T1 = nI (qt γ) from p1, sti_n (G_t G) (by decide), ati_n (G_t G) (by decide), tab_u3] at e
    subst e
    refine j_iload_n h (q := 59) 0 dX1_moveCard_58 rfl rfl ?_
    refine j_iret h rfl dX1_moveCard_59 ?_
    have hoo : qo γ = false := (okG_spec hk).1
    refine ⟨_, rfl, by unfold gainG; rw [he]; first | rfl | (show _ = _ + (0 : Int32); rw [Int32.add_zero]), _, rfl, ?_⟩
    refine TR_put R1 rfl rfl ?_ p5 p6 (by first | exact p1 | rfl) p2 (by show Tmv T1 + 1 = _; rw [p3]) (by rw [he, hoo]; first | rfl | (show Tov T1 = _; rw [hov, hoo]; rfl))
    intro s hs
    show upd (Tpt T1) (qt γ) _ s = _
    unfold upd gainG
    rw [he]
    by_cases z : s = qt γ
    · rw [if_pos z, if_pos z, p4 _ (G_t G), z]
      first | rfl | (show _ = _ + (_ + (0 : Int32)); rw [Int32.add_zero])
    · rw [if_neg z, if_neg z]; exact p4 s hs
  · rw [i_eqL hlb (by decide)] at c_35
    have he : endG γ f u = true := by unfold endG; rw [beq_iff_eq]; exact c_35
    refine j_aload_n h (q := 39) 1 dX1_moveCard_38 rfl rfl ?_
    refine j_iconst h (q := 40) (1) dX1_moveCard_39 rfl (by decide) ?_
    refine j_put h (q := 43) inX1 (C := RX1) (T := TX1) (N := 9) (ci := 1) rfl tyX1_ok nmX1 8 (by decide) mF_X1_55 rfl rfl (by first | rfl | exact b2i_n _) (by first | rfl | decide) (by omega) (tab_0 _ _ _ _) (Nat.le_of_ble_eq_true rfl) dX1_moveCard_40 rfl ?_
    refine j_stk rfl tab_u0 ?_
    refine j_iinc h (q := 46) (loc' := [(3, _), (0, _), (1, _), (2, _)]) 0 _ dX1_moveCard_43 rfl rfl rfl (by decide) rfl ?_
    refine j_aload_n h (q := 47) 1 dX1_moveCard_46 rfl rfl ?_
    refine j_get h (q := 50) inX1 (C := RX1) (T := TX1) (N := 9) (ci := 1) rfl 2 (by decide) mF_X1_18 (by omega) (tab_0 _ _ _ _) rfl dX1_moveCard_47 rfl ?_
    refine j_aload_n h (q := 51) 1 dX1_moveCard_50 rfl rfl ?_
    refine j_get h (q := 54) inX1 (C := RX1) (T := TX1) (N := 9) (ci := 1) rfl 5 (by decide) mF_X1_45 (by omega) (tab_0 _ _ _ _) rfl dX1_moveCard_51 rfl ?_
    refine j_iload_n h (q := 55) 0 dX1_moveCard_54 rfl rfl ?_
    refine j_cSN h (q := 58) mo_X2_addAt mS_X2_addAt mL_X1_82 (c_X2_addAt g _ (by omega) (tab_3 _ _ _ _) (by decide) _ _) (by decide) rfl rfl (Nat.le_of_ble_eq_true rfl) dX1_moveCard_55 rfl ?_
    rintro _ w55 ⟨rfl, e⟩
    rw [show Ttp T1 = nI (qt γ) from p1, sti_n (G_t G) (by decide), ati_n (G_t G) (by decide), tab_u3] at e
    subst e
    refine j_iload_n h (q := 59) 0 dX1_moveCard_58 rfl rfl ?_
    refine j_iret h rfl dX1_moveCard_59 ?_
    have hoo : qo γ = false := (okG_spec hk).1
    refine ⟨_, rfl, by unfold gainG; rw [he]; first | rfl | (show _ = _ + (0 : Int32); rw [Int32.add_zero]), _, rfl, ?_⟩
    refine TR_put R1 rfl rfl ?_ p5 p6 (by first | exact p1 | rfl) p2 (by show Tmv T1 + 1 = _; rw [p3]) (by rw [he, hoo]; first | rfl | (show Tov T1 = _; rw [hov, hoo]; rfl))
    intro s hs
    show upd (Tpt T1) (qt γ) _ s = _
    unfold upd gainG
    rw [he]
    by_cases z : s = qt γ
    · rw [if_pos z, if_pos z, p4 _ (G_t G), z]
      first | rfl | (show _ = _ + (_ + (0 : Int32)); rw [Int32.add_zero])
    · rw [if_neg z, if_neg z]; exact p4 s hs

set_option maxRecDepth 100000 in
set_option maxHeartbeats 4000000 in
theorem lp_turnOver (g : jG) (w : jW) (t : Nat) (ht : t + 6 ≤ NW) (γ : Gm) (G : GI γ) {K : jK} {Φ : Option Value → jW → Prop} (h : jH g K RX1 cX1_turnOver 5 none) (k : ∀ T1, TR T1 (tnG γ (qn γ (2 + qt γ))) → J g 3 K 5 Φ 31 [(4, .int (nI (qn γ (2 + qt γ)))), (3, .int (nI (qn γ (2 + qt γ)))), (0, .ref (gr g t)), (1, .int (nI (2 + qt γ))), (2, .int (nI (4 + qt γ)))] [] (tab g w t T1)) : ∀ n i T1, i + n = qn γ (2 + qt γ) → TR T1 (tnG γ i) → J g 3 K 5 Φ 9 [(4, .int (nI (i))), (3, .int (nI (qn γ (2 + qt γ)))), (0, .ref (gr g t)), (1, .int (nI (2 + qt γ))), (2, .int (nI (4 + qt γ)))] [] (tab g w t T1) := by
  intro n
  induction n with
  | zero =>
    intro i T1 hi R1
    have hiN : i = qn γ (2 + qt γ) := by omega
    subst hiN
    refine j_iload h (q := 11) 0 dX1_turnOver_9 rfl rfl ?_
    refine j_iload_n h (q := 12) 1 dX1_turnOver_11 rfl rfl ?_
    refine j_icmp_ge h (tgt := 31) (q := 15) dX1_turnOver_12 rfl (by decide) (fun c_12 => ?_) (fun c_12 => ?_)
    rotate_left
    · exact absurd (Int32.le_refl _) c_12
    exact k T1 R1
  | succ n ih =>
    intro i T1 hi R1
    have e2 := G_t G
    have hb1 := G_n2 G (p := 2 + qt γ) (by omega)
    have hcc : qc γ (2 + qt γ) (qn γ (2 + qt γ) - i - 1) < 104 := G_c G (by omega) (by omega)
    refine j_iload h (q := 11) 0 dX1_turnOver_9 rfl rfl ?_
    refine j_iload_n h (q := 12) 1 dX1_turnOver_11 rfl rfl ?_
    refine j_icmp_ge h (tgt := 31) (q := 15) dX1_turnOver_12 rfl (by decide) (fun c_12 => ?_) (fun c_12 => ?_)
    · exact absurd c_12 (by rw [nI_leS (by omega) (by omega)]; omega)
    refine j_aload_n h (q := 16) 2 dX1_turnOver_15 rfl rfl ?_
    refine j_iload_n h (q := 17) 4 dX1_turnOver_16 rfl rfl ?_
    refine j_aload_n h (q := 18) 2 dX1_turnOver_17 rfl rfl ?_
    refine j_iload_n h (q := 19) 3 dX1_turnOver_18 rfl rfl ?_
    refine j_cV h (q := 22) (C := RX1) (T := TX1) (N := 9) (ci := 1) mo_X1_takeFrom mI_X1_takeFrom mV_X1_takeFrom mL_X1_139 (c_take g _ _ ht _ rfl (by omega) (qn γ (2 + qt γ) - i) (by rw [R_sz R1 (by omega), tn_n2]) (by have := fpv_cap (p := 2 + qt γ) (by omega); unfold cap at this; rw [if_pos (by omega)] at this; omega) (by omega) (k := qc γ (2 + qt γ) (qn γ (2 + qt γ) - i - 1)) hcc (by rw [R_cd R1 (by omega) (by rw [tn_n2]; omega), ← tn_top γ i]; unfold topK; rw [tn_n2])) (by decide) (by omega) (tab_0 _ _ _ _) rfl rfl rfl (Nat.le_of_ble_eq_true rfl) dX1_turnOver_19 rfl ?_
    rintro _ w19 ⟨x19, rfl, e⟩
    obtain ⟨rfl, rfl⟩ := e
    refine j_cV h (q := 25) (C := RX1) (T := TX1) (N := 9) (ci := 1) mo_X1_layOn mI_X1_layOn mV_X1_layOn mL_X1_30 (c_X1_layOn g _ _ ht _ rfl (by omega) i (by show upd (Tsz T1) (2 + qt γ) _ (4 + qt γ) = _; unfold upd; rw [if_neg (by omega), R_sz R1 (by omega), tn_n4]) (by have := fpv_cap (p := 4 + qt γ) (by omega); unfold cap at this; rw [if_pos (by omega)] at this; omega) _) (by decide) (by omega) (tab_0 _ _ _ _) rfl rfl rfl (Nat.le_of_ble_eq_true rfl) dX1_turnOver_22 rfl ?_
    rintro _ w22 ⟨rfl, e⟩
    obtain ⟨T2, R2, e1⟩ : ∃ T2, TR T2 (tnG γ (i + 1)) ∧ w22 = tab g w t T2 := ⟨_, tn_s G R1 (by omega), e⟩
    subst e1
    refine j_iinc h (q := 28) (loc' := [(4, _), (3, _), (0, _), (1, _), (2, _)]) 0 _ dX1_turnOver_25 rfl rfl rfl (by decide) rfl ?_
    refine j_goto h (tgt := 9) dX1_turnOver_28 (by decide) ?_
    rw [show nI i + Int32.ofInt 1 = nI (i + 1) from nI_1 i]
    refine j_sub [0, 1, 2, 3, 4] rfl ?_
    exact ih (i + 1) T2 (by omega) R2


set_option maxRecDepth 100000 in
set_option maxHeartbeats 4000000 in
theorem c_turnOver (g : jG) (w : jW) (t : Nat) (ht : t + 6 ≤ NW) (T : Ts) (γ : Gm) (R : TR T γ) (G : GI γ) {a b : Int32} (ha : a = nI (2 + qt γ)) (hb : b = nI (4 + qt γ)) (h0 : qn γ (4 + qt γ) = 0)  : ConV g 3 yX1_turnOver cX1_turnOver 5 none [.ref (gr g t), .int a, .int b] (tab g w t T) (fun w' => ∃ T', w' = tab g w t T' ∧ TR T' (turnG γ)) := by
  refine con_of (by decide +kernel) (Nat.le_of_ble_eq_true rfl) [(0, _), (1, _), (2, _)] rfl (fun K h => ?_)
  subst ha; subst hb
  refine j_aload_n h (q := 1) 0 dX1_turnOver_0 rfl rfl ?_
  refine j_iload_n h (q := 2) 1 dX1_turnOver_1 rfl rfl ?_
  refine j_cV h (q := 5) (C := RX1) (T := TX1) (N := 9) (ci := 1) mo_X1_sizeOf mI_X1_sizeOf mV_X1_sizeOf mL_X1_89 (c_size g _ _ ht _ γ R rfl (by have := G_t G; omega)) (by decide) (by omega) (tab_0 _ _ _ _) rfl rfl rfl (Nat.le_of_ble_eq_true rfl) dX1_turnOver_2 rfl ?_
  rintro _ w2 ⟨x2, rfl, e⟩
  obtain ⟨rfl, rfl⟩ := e
  refine j_istore_n h (q := 6) (loc' := [(3, _), (0, _), (1, _), (2, _)]) dX1_turnOver_5 rfl (by decide) rfl ?_
  refine j_iconst h (q := 7) (0) dX1_turnOver_6 rfl (by decide) ?_
  refine j_istore h (q := 9) (loc' := [(4, _), (3, _), (0, _), (1, _), (2, _)]) dX1_turnOver_7 rfl (by decide) rfl ?_
  refine lp_turnOver g w t ht γ G h (fun T1 R1 => ?_) (qn γ (2 + qt γ)) 0 T (by omega) (tn_0 R h0)
  refine j_vret h rfl dX1_turnOver_31 ?_
  exact ⟨rfl, T1, rfl, tn_end R1 h0⟩

set_option maxRecDepth 100000 in
set_option maxHeartbeats 4000000 in
theorem c_drawCard (g : jG) (w : jW) (t : Nat) (ht : t + 6 ≤ NW) (T : Ts) (γ : Gm) (R : TR T γ) (G : GI γ) (hno : qo γ = false)  : ConI g 4 yX1_drawCard cX1_drawCard 4 (some (.int)) [.ref (gr g t)] (tab g w t T) (fun x w' => x = ov (drawO γ) ∧ ∃ T', w' = tab g w t T' ∧ TR T' (drawG γ)) := by
  refine con_of (by decide +kernel) (Nat.le_of_ble_eq_true rfl) [(0, _)] rfl (fun K h => ?_)
  refine j_iconst h (q := 1) (4) dX1_drawCard_0 rfl (by decide) ?_
  refine j_aload_n h (q := 2) 0 dX1_drawCard_1 rfl rfl ?_
  refine j_get h (q := 5) inX1 (C := RX1) (T := TX1) (N := 9) (ci := 1) rfl 5 (by decide) mF_X1_45 (by omega) (tab_0 _ _ _ _) rfl dX1_drawCard_2 rfl ?_
  refine j_iadd h (q := 6) dX1_drawCard_5 rfl ?_
  have e2 := G_t G
  rw [R_tp R, i_Ladd]
  refine j_istore_n h (q := 7) (loc' := [(1, _), (0, _)]) dX1_drawCard_6 rfl (by decide) rfl ?_
  refine j_iconst h (q := 8) (2) dX1_drawCard_7 rfl (by decide) ?_
  refine j_aload_n h (q := 9) 1 dX1_drawCard_8 rfl rfl ?_
  refine j_get h (q := 12) inX1 (C := RX1) (T := TX1) (N := 9) (ci := 1) rfl 5 (by decide) mF_X1_45 (by omega) (tab_0 _ _ _ _) rfl dX1_drawCard_9 rfl ?_
  refine j_iadd h (q := 13) dX1_drawCard_12 rfl ?_
  rw [R_tp R, i_Ladd]
  refine j_istore_n h (q := 14) (loc' := [(2, _), (1, _), (0, _)]) dX1_drawCard_13 rfl (by decide) rfl ?_
  refine j_aload_n h (q := 15) 2 dX1_drawCard_14 rfl rfl ?_
  refine j_iload_n h (q := 16) 1 dX1_drawCard_15 rfl rfl ?_
  refine j_cV h (q := 19) (C := RX1) (T := TX1) (N := 9) (ci := 1) mo_X1_sizeOf mI_X1_sizeOf mV_X1_sizeOf mL_X1_89 (c_size g _ _ ht _ γ R rfl (by omega)) (by decide) (by omega) (tab_0 _ _ _ _) rfl rfl rfl (Nat.le_of_ble_eq_true rfl) dX1_drawCard_16 rfl ?_
  rintro _ w16 ⟨x16, rfl, e⟩
  obtain ⟨rfl, rfl⟩ := e
  have hb1 := G_n2 G (p := 4 + qt γ) (by omega)
  refine j_if_ne h (tgt := 28) (q := 22) dX1_drawCard_19 rfl (by decide) (fun c_19 => ?_) (fun c_19 => ?_)
  · rw [i_eqL (by omega) (by decide)] at c_19
    obtain ⟨T2, R2, hw2⟩ : ∃ T2, TR T2 (turnG γ) ∧ tab g w t T = tab g w t T2 := ⟨T, by unfold turnG; rw [if_neg c_19]; exact R, rfl⟩
    rw [hw2]
    have G2 := GI_turn G
    refine j_aload_n h (q := 29) 2 dX1_drawCard_28 rfl rfl ?_
    refine j_iload_n h (q := 30) 1 dX1_drawCard_29 rfl rfl ?_
    refine j_cV h (q := 33) (C := RX1) (T := TX1) (N := 9) (ci := 1) mo_X1_takeFrom mI_X1_takeFrom mV_X1_takeFrom mL_X1_139 (c_takeG g _ _ ht _ (turnG γ) R2 G2 rfl (by omega)) (by decide) (by omega) (tab_0 _ _ _ _) rfl rfl rfl (Nat.le_of_ble_eq_true rfl) dX1_drawCard_30 rfl ?_
    rintro _ w30 ⟨x30, rfl, e⟩
    obtain ⟨rfl, rfl⟩ := e
    have hq : qt (turnG γ) = qt γ := turn_n γ
    have hq2 := turn_2 γ
    refine j_istore_n h (q := 34) (loc' := [(3, _), (2, _), (1, _), (0, _)]) dX1_drawCard_33 rfl (by decide) rfl ?_
    refine j_iload_n h (q := 35) 0 dX1_drawCard_34 rfl rfl ?_
    refine j_bipush h (q := 37) (-6) dX1_drawCard_35 rfl (by decide) ?_
    refine j_icmp_eq h (tgt := 46) (q := 40) dX1_drawCard_37 rfl (by decide) (fun c_37 => ?_) (fun c_37 => ?_)
    · have hn0 : qn (turnG γ) (4 + qt γ) = 0 := topO_n.mp ((ov_n _ (G_o G2 (by omega))).mp c_37)
      obtain ⟨T3, R3, hw3⟩ : ∃ T3, TR T3 (takeG (turnG γ)) ∧ tab g w t (sSz T2 (upd (Tsz T2) (4 + qt γ) (nI (qn (turnG γ) (4 + qt γ) - 1)))) = tab g w t T3 := ⟨T2, by unfold takeG; rw [hq, if_pos hn0]; exact R2, by rw [upd_same (x := nI (qn (turnG γ) (4 + qt γ) - 1)) (by rw [R_sz R2 (by omega), hn0])]⟩
      rw [hw3]
      refine j_aload_n h (q := 47) 3 dX1_drawCard_46 rfl rfl ?_
      refine j_dup h (q := 48) dX1_drawCard_47 rfl rfl ?_
      refine j_get h (q := 51) inX1 (C := RX1) (T := TX1) (N := 9) (ci := 1) rfl 6 (by decide) mF_X1_49 (by omega) (tab_0 _ _ _ _) rfl dX1_drawCard_48 rfl ?_
      refine j_iconst h (q := 52) (1) dX1_drawCard_51 rfl (by decide) ?_
      refine j_iadd h (q := 53) dX1_drawCard_52 rfl ?_
      refine j_put h (q := 56) inX1 (C := RX1) (T := TX1) (N := 9) (ci := 1) rfl tyX1_ok nmX1 6 (by decide) mF_X1_49 rfl rfl rfl (by first | rfl | decide) (by omega) (tab_0 _ _ _ _) (Nat.le_of_ble_eq_true rfl) dX1_drawCard_53 rfl ?_
      refine j_stk rfl tab_u0 ?_
      refine j_aload_n h (q := 57) 3 dX1_drawCard_56 rfl rfl ?_
      refine j_aload_n h (q := 58) 3 dX1_drawCard_57 rfl rfl ?_
      refine j_get h (q := 61) inX1 (C := RX1) (T := TX1) (N := 9) (ci := 1) rfl 6 (by decide) mF_X1_49 (by omega) (tab_0 _ _ _ _) rfl dX1_drawCard_58 rfl ?_
      refine j_sipush h (q := 64) (200) dX1_drawCard_61 rfl (by decide) ?_
      have hq3 : (takeG (turnG γ)).2.2 = γ.2.2 := by unfold takeG; split <;> exact hq2
      have hd : Tdr T3 = nI (qd γ) := by rw [R_dr R3]; show nI (takeG (turnG γ)).2.2.2.2.2.2.1 = _; rw [hq3]
      have htp : Ttp T3 = nI (qt γ) := by rw [R_tp R3]; show nI (takeG (turnG γ)).2.2.2.2.2.1 = _; rw [hq3]
      have hdb : qd γ ≤ 200 := G.2.2.2.2.1
      refine j_icmp_lt h (tgt := 71) (q := 67) dX1_drawCard_64 rfl (by decide) (fun c_64 => ?_) (fun c_64 => ?_)
      · rw [show Tdr T3 + 1 = nI (qd γ + 1) by rw [hd, i_addL], i_ltL (by omega) (by decide)] at c_64
        have hdc : decide (200 ≤ qd γ + 1) = false := decide_eq_false (by omega)
        refine j_iconst h (q := 72) (0) dX1_drawCard_71 rfl (by decide) ?_
        refine j_put h (q := 75) inX1 (C := RX1) (T := TX1) (N := 9) (ci := 1) rfl tyX1_ok nmX1 8 (by decide) mF_X1_55 rfl rfl (by first | rfl | exact b2i_n _) (by first | rfl | decide) (by omega) (tab_0 _ _ _ _) (Nat.le_of_ble_eq_true rfl) dX1_drawCard_72 rfl ?_
        refine j_stk rfl tab_u0 ?_
        refine j_aload_n h (q := 76) 3 dX1_drawCard_75 rfl rfl ?_
        refine j_iconst h (q := 77) (1) dX1_drawCard_76 rfl (by decide) ?_
        refine j_aload_n h (q := 78) 3 dX1_drawCard_77 rfl rfl ?_
        refine j_get h (q := 81) inX1 (C := RX1) (T := TX1) (N := 9) (ci := 1) rfl 5 (by decide) mF_X1_45 (by omega) (tab_0 _ _ _ _) rfl dX1_drawCard_78 rfl ?_
        refine j_isub h (q := 82) dX1_drawCard_81 rfl ?_
        refine j_put h (q := 85) inX1 (C := RX1) (T := TX1) (N := 9) (ci := 1) rfl tyX1_ok nmX1 5 (by decide) mF_X1_45 rfl rfl rfl (by first | rfl | decide) (by omega) (tab_0 _ _ _ _) (Nat.le_of_ble_eq_true rfl) dX1_drawCard_82 rfl ?_
        refine j_stk rfl tab_u0 ?_
        refine j_iload_n h (q := 86) 0 dX1_drawCard_85 rfl rfl ?_
        refine j_iret h rfl dX1_drawCard_86 ?_
        refine ⟨_, rfl, rfl, _, rfl, ?_⟩
        unfold drawG
        have h3 := R3
        have e3 : (takeG (turnG γ)) = ((takeG (turnG γ)).1, (takeG (turnG γ)).2.1, γ.2.2) := by rw [← hq3]
        refine TR_put (γ := takeG (turnG γ)) R3 rfl rfl (fun s hs => ?_) (fun s hs => ?_) (fun j hj => ?_) ?_ ?_ ?_ ?_
        · rw [e3] at h3; exact R_pt h3 hs
        · rw [e3] at h3; exact R_fz h3 hs
        · rw [e3] at h3
          obtain ⟨th, q1, q2, q3⟩ := R_th h3 hj
          have q4 : qz γ j = th - qd γ := q3
          exact ⟨th, q1, q2, by omega⟩
        · show (1 : Int32) - Ttp T3 = _; rw [htp]; exact i_Lsub (by omega)
        · show Tdr T3 + 1 = _; rw [hd, i_addL]
        · rw [e3] at h3; exact h3.2.2.2.2.2.2.2.1
        · rw [hdc]; rfl
      · rw [show Tdr T3 + 1 = nI (qd γ + 1) by rw [hd, i_addL], i_ltL (by omega) (by decide)] at c_64
        have hdc : decide (200 ≤ qd γ + 1) = true := decide_eq_true (by omega)
        refine j_iconst h (q := 68) (1) dX1_drawCard_67 rfl (by decide) ?_
        refine j_goto h (tgt := 72) dX1_drawCard_68 (by decide) ?_
        refine j_put h (q := 75) inX1 (C := RX1) (T := TX1) (N := 9) (ci := 1) rfl tyX1_ok nmX1 8 (by decide) mF_X1_55 rfl rfl (by first | rfl | exact b2i_n _) (by first | rfl | decide) (by omega) (tab_0 _ _ _ _) (Nat.le_of_ble_eq_true rfl) dX1_drawCard_72 rfl ?_
        refine j_stk rfl tab_u0 ?_
        refine j_aload_n h (q := 76) 3 dX1_drawCard_75 rfl rfl ?_
        refine j_iconst h (q := 77) (1) dX1_drawCard_76 rfl (by decide) ?_
        refine j_aload_n h (q := 78) 3 dX1_drawCard_77 rfl rfl ?_
        refine j_get h (q := 81) inX1 (C := RX1) (T := TX1) (N := 9) (ci := 1) rfl 5 (by decide) mF_X1_45 (by omega) (tab_0 _ _ _ _) rfl dX1_drawCard_78 rfl ?_
        refine j_isub h (q := 82) dX1_drawCard_81 rfl ?_
        refine j_put h (q := 85) inX1 (C := RX1) (T := TX1) (N := 9) (ci := 1) rfl tyX1_ok nmX1 5 (by decide) mF_X1_45 rfl rfl rfl (by first | rfl | decide) (by omega) (tab_0 _ _ _ _) (Nat.le_of_ble_eq_true rfl) dX1_drawCard_82 rfl ?_
        refine j_stk rfl tab_u0 ?_
        refine j_iload_n h (q := 86) 0 dX1_drawCard_85 rfl rfl ?_
        refine j_iret h rfl dX1_drawCard_86 ?_
        refine ⟨_, rfl, rfl, _, rfl, ?_⟩
        unfold drawG
        have h3 := R3
        have e3 : (takeG (turnG γ)) = ((takeG (turnG γ)).1, (takeG (turnG γ)).2.1, γ.2.2) := by rw [← hq3]
        refine TR_put (γ := takeG (turnG γ)) R3 rfl rfl (fun s hs => ?_) (fun s hs => ?_) (fun j hj => ?_) ?_ ?_ ?_ ?_
        · rw [e3] at h3; exact R_pt h3 hs
        · rw [e3] at h3; exact R_fz h3 hs
        · rw [e3] at h3
          obtain ⟨th, q1, q2, q3⟩ := R_th h3 hj
          have q4 : qz γ j = th - qd γ := q3
          exact ⟨th, q1, q2, by omega⟩
        · show (1 : Int32) - Ttp T3 = _; rw [htp]; exact i_Lsub (by omega)
        · show Tdr T3 + 1 = _; rw [hd, i_addL]
        · rw [e3] at h3; exact h3.2.2.2.2.2.2.2.1
        · rw [hdc]; rfl
    · have hn0 : ¬ qn (turnG γ) (4 + qt γ) = 0 := fun z => c_37 ((ov_n _ (G_o G2 (by omega))).mpr (topO_n.mpr z))
      have hcw : qn (turnG γ) (2 + qt γ) < 104 := by
        have a := sumN_le (f := qn (takeG (turnG γ))) (k := 22) (p := 2 + qt γ) (by omega)
        have b := (PI_take G2.1 (by rw [hq]; exact e2)).2.2.2.1
        have c : qn (takeG (turnG γ)) (2 + qt γ) = qn (turnG γ) (2 + qt γ) + 1 := by
          unfold takeG; rw [hq, if_neg hn0]; exact if_pos rfl
        omega
      refine j_aload_n h (q := 41) 3 dX1_drawCard_40 rfl rfl ?_
      refine j_iload_n h (q := 42) 1 dX1_drawCard_41 rfl rfl ?_
      refine j_iload_n h (q := 43) 0 dX1_drawCard_42 rfl rfl ?_
      refine j_cV h (q := 46) (C := RX1) (T := TX1) (N := 9) (ci := 1) mo_X1_layOn mI_X1_layOn mV_X1_layOn mL_X1_30 (c_X1_layOn g _ _ ht _ rfl (by omega) (qn (turnG γ) (2 + qt γ)) (by show upd (Tsz T2) (4 + qt γ) _ (2 + qt γ) = _; unfold upd; rw [if_neg (by omega), R_sz R2 (by omega)]) (by have := fpv_cap (p := 2 + qt γ) (by omega); unfold cap at this; rw [if_pos (by omega)] at this; omega) _) (by decide) (by omega) (tab_0 _ _ _ _) rfl rfl rfl (Nat.le_of_ble_eq_true rfl) dX1_drawCard_43 rfl ?_
      rintro _ w43 ⟨rfl, e⟩
      obtain ⟨T3, R3, hw3⟩ : ∃ T3, TR T3 (takeG (turnG γ)) ∧ w43 = tab g w t T3 := by
        refine ⟨_, ?_, e⟩
        have a := TR_mv (f := 4 + qt γ) (u := 2 + qt γ) R2 (GI_caps G2) (by omega) (by omega) (by omega) (by omega) (by unfold cap; rw [if_pos (by omega)]; exact hcw)
        unfold takeG
        rw [hq, if_neg hn0, topO_k (by omega)]
        exact a
      subst hw3
      refine j_aload_n h (q := 47) 3 dX1_drawCard_46 rfl rfl ?_
      refine j_dup h (q := 48) dX1_drawCard_47 rfl rfl ?_
      refine j_get h (q := 51) inX1 (C := RX1) (T := TX1) (N := 9) (ci := 1) rfl 6 (by decide) mF_X1_49 (by omega) (tab_0 _ _ _ _) rfl dX1_drawCard_48 rfl ?_
      refine j_iconst h (q := 52) (1) dX1_drawCard_51 rfl (by decide) ?_
      refine j_iadd h (q := 53) dX1_drawCard_52 rfl ?_
      refine j_put h (q := 56) inX1 (C := RX1) (T := TX1) (N := 9) (ci := 1) rfl tyX1_ok nmX1 6 (by decide) mF_X1_49 rfl rfl rfl (by first | rfl | decide) (by omega) (tab_0 _ _ _ _) (Nat.le_of_ble_eq_true rfl) dX1_drawCard_53 rfl ?_
      refine j_stk rfl tab_u0 ?_
      refine j_aload_n h (q := 57) 3 dX1_drawCard_56 rfl rfl ?_
      refine j_aload_n h (q := 58) 3 dX1_drawCard_57 rfl rfl ?_
      refine j_get h (q := 61) inX1 (C := RX1) (T := TX1) (N := 9) (ci := 1) rfl 6 (by decide) mF_X1_49 (by omega) (tab_0 _ _ _ _) rfl dX1_drawCard_58 rfl ?_
      refine j_sipush h (q := 64) (200) dX1_drawCard_61 rfl (by decide) ?_
      have hq3 : (takeG (turnG γ)).2.2 = γ.2.2 := by unfold takeG; split <;> exact hq2
      have hd : Tdr T3 = nI (qd γ) := by rw [R_dr R3]; show nI (takeG (turnG γ)).2.2.2.2.2.2.1 = _; rw [hq3]
      have htp : Ttp T3 = nI (qt γ) := by rw [R_tp R3]; show nI (takeG (turnG γ)).2.2.2.2.2.1 = _; rw [hq3]
      have hdb : qd γ ≤ 200 := G.2.2.2.2.1
      refine j_icmp_lt h (tgt := 71) (q := 67) dX1_drawCard_64 rfl (by decide) (fun c_64 => ?_) (fun c_64 => ?_)
      · rw [show Tdr T3 + 1 = nI (qd γ + 1) by rw [hd, i_addL], i_ltL (by omega) (by decide)] at c_64
        have hdc : decide (200 ≤ qd γ + 1) = false := decide_eq_false (by omega)
        refine j_iconst h (q := 72) (0) dX1_drawCard_71 rfl (by decide) ?_
        refine j_put h (q := 75) inX1 (C := RX1) (T := TX1) (N := 9) (ci := 1) rfl tyX1_ok nmX1 8 (by decide) mF_X1_55 rfl rfl (by first | rfl | exact b2i_n _) (by first | rfl | decide) (by omega) (tab_0 _ _ _ _) (Nat.le_of_ble_eq_true rfl) dX1_drawCard_72 rfl ?_
        refine j_stk rfl tab_u0 ?_
        refine j_aload_n h (q := 76) 3 dX1_drawCard_75 rfl rfl ?_
        refine j_iconst h (q := 77) (1) dX1_drawCard_76 rfl (by decide) ?_
        refine j_aload_n h (q := 78) 3 dX1_drawCard_77 rfl rfl ?_
        refine j_get h (q := 81) inX1 (C := RX1) (T := TX1) (N := 9) (ci := 1) rfl 5 (by decide) mF_X1_45 (by omega) (tab_0 _ _ _ _) rfl dX1_drawCard_78 rfl ?_
        refine j_isub h (q := 82) dX1_drawCard_81 rfl ?_
        refine j_put h (q := 85) inX1 (C := RX1) (T := TX1) (N := 9) (ci := 1) rfl tyX1_ok nmX1 5 (by decide) mF_X1_45 rfl rfl rfl (by first | rfl | decide) (by omega) (tab_0 _ _ _ _) (Nat.le_of_ble_eq_true rfl) dX1_drawCard_82 rfl ?_
        refine j_stk rfl tab_u0 ?_
        refine j_iload_n h (q := 86) 0 dX1_drawCard_85 rfl rfl ?_
        refine j_iret h rfl dX1_drawCard_86 ?_
        refine ⟨_, rfl, rfl, _, rfl, ?_⟩
        unfold drawG
        have h3 := R3
        have e3 : (takeG (turnG γ)) = ((takeG (turnG γ)).1, (takeG (turnG γ)).2.1, γ.2.2) := by rw [← hq3]
        refine TR_put (γ := takeG (turnG γ)) R3 rfl rfl (fun s hs => ?_) (fun s hs => ?_) (fun j hj => ?_) ?_ ?_ ?_ ?_
        · rw [e3] at h3; exact R_pt h3 hs
        · rw [e3] at h3; exact R_fz h3 hs
        · rw [e3] at h3
          obtain ⟨th, q1, q2, q3⟩ := R_th h3 hj
          have q4 : qz γ j = th - qd γ := q3
          exact ⟨th, q1, q2, by omega⟩
        · show (1 : Int32) - Ttp T3 = _; rw [htp]; exact i_Lsub (by omega)
        · show Tdr T3 + 1 = _; rw [hd, i_addL]
        · rw [e3] at h3; exact h3.2.2.2.2.2.2.2.1
        · rw [hdc]; rfl
      · rw [show Tdr T3 + 1 = nI (qd γ + 1) by rw [hd, i_addL], i_ltL (by omega) (by decide)] at c_64
        have hdc : decide (200 ≤ qd γ + 1) = true := decide_eq_true (by omega)
        refine j_iconst h (q := 68) (1) dX1_drawCard_67 rfl (by decide) ?_
        refine j_goto h (tgt := 72) dX1_drawCard_68 (by decide) ?_
        refine j_put h (q := 75) inX1 (C := RX1) (T := TX1) (N := 9) (ci := 1) rfl tyX1_ok nmX1 8 (by decide) mF_X1_55 rfl rfl (by first | rfl | exact b2i_n _) (by first | rfl | decide) (by omega) (tab_0 _ _ _ _) (Nat.le_of_ble_eq_true rfl) dX1_drawCard_72 rfl ?_
        refine j_stk rfl tab_u0 ?_
        refine j_aload_n h (q := 76) 3 dX1_drawCard_75 rfl rfl ?_
        refine j_iconst h (q := 77) (1) dX1_drawCard_76 rfl (by decide) ?_
        refine j_aload_n h (q := 78) 3 dX1_drawCard_77 rfl rfl ?_
        refine j_get h (q := 81) inX1 (C := RX1) (T := TX1) (N := 9) (ci := 1) rfl 5 (by decide) mF_X1_45 (by omega) (tab_0 _ _ _ _) rfl dX1_drawCard_78 rfl ?_
        refine j_isub h (q := 82) dX1_drawCard_81 rfl ?_
        refine j_put h (q := 85) inX1 (C := RX1) (T := TX1) (N := 9) (ci := 1) rfl tyX1_ok nmX1 5 (by decide) mF_X1_45 rfl rfl rfl (by first | rfl | decide) (by omega) (tab_0 _ _ _ _) (Nat.le_of_ble_eq_true rfl) dX1_drawCard_82 rfl ?_
        refine j_stk rfl tab_u0 ?_
        refine j_iload_n h (q := 86) 0 dX1_drawCard_85 rfl rfl ?_
        refine j_iret h rfl dX1_drawCard_86 ?_
        refine ⟨_, rfl, rfl, _, rfl, ?_⟩
        unfold drawG
        have h3 := R3
        have e3 : (takeG (turnG γ)) = ((takeG (turnG γ)).1, (takeG (turnG γ)).2.1, γ.2.2) := by rw [← hq3]
        refine TR_put (γ := takeG (turnG γ)) R3 rfl rfl (fun s hs => ?_) (fun s hs => ?_) (fun j hj => ?_) ?_ ?_ ?_ ?_
        · rw [e3] at h3; exact R_pt h3 hs
        · rw [e3] at h3; exact R_fz h3 hs
        · rw [e3] at h3
          obtain ⟨th, q1, q2, q3⟩ := R_th h3 hj
          have q4 : qz γ j = th - qd γ := q3
          exact ⟨th, q1, q2, by omega⟩
        · show (1 : Int32) - Ttp T3 = _; rw [htp]; exact i_Lsub (by omega)
        · show Tdr T3 + 1 = _; rw [hd, i_addL]
        · rw [e3] at h3; exact h3.2.2.2.2.2.2.2.1
        · rw [hdc]; rfl
  · rw [i_eqL (by omega) (by decide)] at c_19
    refine j_aload_n h (q := 23) 2 dX1_drawCard_22 rfl rfl ?_
    refine j_iload_n h (q := 24) 0 dX1_drawCard_23 rfl rfl ?_
    refine j_iload_n h (q := 25) 1 dX1_drawCard_24 rfl rfl ?_
    refine j_cV h (q := 28) (C := RX1) (T := TX1) (N := 9) (ci := 1) mo_X1_turnOver mI_X1_turnOver mV_X1_turnOver mL_X1_145 (c_turnOver g _ _ ht _ γ R G rfl rfl c_19) (by decide) (by omega) (tab_0 _ _ _ _) rfl rfl rfl (Nat.le_of_ble_eq_true rfl) dX1_drawCard_25 rfl ?_
    rintro _ w25 ⟨rfl, e⟩
    obtain ⟨T2, rfl, R2⟩ := e
    have G2 := GI_turn G
    refine j_aload_n h (q := 29) 2 dX1_drawCard_28 rfl rfl ?_
    refine j_iload_n h (q := 30) 1 dX1_drawCard_29 rfl rfl ?_
    refine j_cV h (q := 33) (C := RX1) (T := TX1) (N := 9) (ci := 1) mo_X1_takeFrom mI_X1_takeFrom mV_X1_takeFrom mL_X1_139 (c_takeG g _ _ ht _ (turnG γ) R2 G2 rfl (by omega)) (by decide) (by omega) (tab_0 _ _ _ _) rfl rfl rfl (Nat.le_of_ble_eq_true rfl) dX1_drawCard_30 rfl ?_
    rintro _ w30 ⟨x30, rfl, e⟩
    obtain ⟨rfl, rfl⟩ := e
    have hq : qt (turnG γ) = qt γ := turn_n γ
    have hq2 := turn_2 γ
    refine j_istore_n h (q := 34) (loc' := [(3, _), (2, _), (1, _), (0, _)]) dX1_drawCard_33 rfl (by decide) rfl ?_
    refine j_iload_n h (q := 35) 0 dX1_drawCard_34 rfl rfl ?_
    refine j_bipush h (q := 37) (-6) dX1_drawCard_35 rfl (by decide) ?_
    refine j_icmp_eq h (tgt := 46) (q := 40) dX1_drawCard_37 rfl (by decide) (fun c_37 => ?_) (fun c_37 => ?_)
    · have hn0 : qn (turnG γ) (4 + qt γ) = 0 := topO_n.mp ((ov_n _ (G_o G2 (by omega))).mp c_37)
      obtain ⟨T3, R3, hw3⟩ : ∃ T3, TR T3 (takeG (turnG γ)) ∧ tab g w t (sSz T2 (upd (Tsz T2) (4 + qt γ) (nI (qn (turnG γ) (4 + qt γ) - 1)))) = tab g w t T3 := ⟨T2, by unfold takeG; rw [hq, if_pos hn0]; exact R2, by rw [upd_same (x := nI (qn (turnG γ) (4 + qt γ) - 1)) (by rw [R_sz R2 (by omega), hn0])]⟩
      rw [hw3]
      refine j_aload_n h (q := 47) 3 dX1_drawCard_46 rfl rfl ?_
      refine j_dup h (q := 48) dX1_drawCard_47 rfl rfl ?_
      refine j_get h (q := 51) inX1 (C := RX1) (T := TX1) (N := 9) (ci := 1) rfl 6 (by decide) mF_X1_49 (by omega) (tab_0 _ _ _ _) rfl dX1_drawCard_48 rfl ?_
      refine j_iconst h (q := 52) (1) dX1_drawCard_51 rfl (by decide) ?_
      refine j_iadd h (q := 53) dX1_drawCard_52 rfl ?_
      refine j_put h (q := 56) inX1 (C := RX1) (T := TX1) (N := 9) (ci := 1) rfl tyX1_ok nmX1 6 (by decide) mF_X1_49 rfl rfl rfl (by first | rfl | decide) (by omega) (tab_0 _ _ _ _) (Nat.le_of_ble_eq_true rfl) dX1_drawCard_53 rfl ?_
      refine j_stk rfl tab_u0 ?_
      refine j_aload_n h (q := 57) 3 dX1_drawCard_56 rfl rfl ?_
      refine j_aload_n h (q := 58) 3 dX1_drawCard_57 rfl rfl ?_
      refine j_get h (q := 61) inX1 (C := RX1) (T := TX1) (N := 9) (ci := 1) rfl 6 (by decide) mF_X1_49 (by omega) (tab_0 _ _ _ _) rfl dX1_drawCard_58 rfl ?_
      refine j_sipush h (q := 64) (200) dX1_drawCard_61 rfl (by decide) ?_
      have hq3 : (takeG (turnG γ)).2.2 = γ.2.2 := by unfold takeG; split <;> exact hq2
      have hd : Tdr T3 = nI (qd γ) := by rw [R_dr R3]; show nI (takeG (turnG γ)).2.2.2.2.2.2.1 = _; rw [hq3]
      have htp : Ttp T3 = nI (qt γ) := by rw [R_tp R3]; show nI (takeG (turnG γ)).2.2.2.2.2.1 = _; rw [hq3]
      have hdb : qd γ ≤ 200 := G.2.2.2.2.1
      refine j_icmp_lt h (tgt := 71) (q := 67) dX1_drawCard_64 rfl (by decide) (fun c_64 => ?_) (fun c_64 => ?_)
      · rw [show Tdr T3 + 1 = nI (qd γ + 1) by rw [hd, i_addL], i_ltL (by omega) (by decide)] at c_64
        have hdc : decide (200 ≤ qd γ + 1) = false := decide_eq_false (by omega)
        refine j_iconst h (q := 72) (0) dX1_drawCard_71 rfl (by decide) ?_
        refine j_put h (q := 75) inX1 (C := RX1) (T := TX1) (N := 9) (ci := 1) rfl tyX1_ok nmX1 8 (by decide) mF_X1_55 rfl rfl (by first | rfl | exact b2i_n _) (by first | rfl | decide) (by omega) (tab_0 _ _ _ _) (Nat.le_of_ble_eq_true rfl) dX1_drawCard_72 rfl ?_
        refine j_stk rfl tab_u0 ?_
        refine j_aload_n h (q := 76) 3 dX1_drawCard_75 rfl rfl ?_
        refine j_iconst h (q := 77) (1) dX1_drawCard_76 rfl (by decide) ?_
        refine j_aload_n h (q := 78) 3 dX1_drawCard_77 rfl rfl ?_
        refine j_get h (q := 81) inX1 (C := RX1) (T := TX1) (N := 9) (ci := 1) rfl 5 (by decide) mF_X1_45 (by omega) (tab_0 _ _ _ _) rfl dX1_drawCard_78 rfl ?_
        refine j_isub h (q := 82) dX1_drawCard_81 rfl ?_
        refine j_put h (q := 85) inX1 (C := RX1) (T := TX1) (N := 9) (ci := 1) rfl tyX1_ok nmX1 5 (by decide) mF_X1_45 rfl rfl rfl (by first | rfl | decide) (by omega) (tab_0 _ _ _ _) (Nat.le_of_ble_eq_true rfl) dX1_drawCard_82 rfl ?_
        refine j_stk rfl tab_u0 ?_
        refine j_iload_n h (q := 86) 0 dX1_drawCard_85 rfl rfl ?_
        refine j_iret h rfl dX1_drawCard_86 ?_
        refine ⟨_, rfl, rfl, _, rfl, ?_⟩
        unfold drawG
        have h3 := R3
        have e3 : (takeG (turnG γ)) = ((takeG (turnG γ)).1, (takeG (turnG γ)).2.1, γ.2.2) := by rw [← hq3]
        refine TR_put (γ := takeG (turnG γ)) R3 rfl rfl (fun s hs => ?_) (fun s hs => ?_) (fun j hj => ?_) ?_ ?_ ?_ ?_
        · rw [e3] at h3; exact R_pt h3 hs
        · rw [e3] at h3; exact R_fz h3 hs
        · rw [e3] at h3
          obtain ⟨th, q1, q2, q3⟩ := R_th h3 hj
          have q4 : qz γ j = th - qd γ := q3
          exact ⟨th, q1, q2, by omega⟩
        · show (1 : Int32) - Ttp T3 = _; rw [htp]; exact i_Lsub (by omega)
        · show Tdr T3 + 1 = _; rw [hd, i_addL]
        · rw [e3] at h3; exact h3.2.2.2.2.2.2.2.1
        · rw [hdc]; rfl
      · rw [show Tdr T3 + 1 = nI (qd γ + 1) by rw [hd, i_addL], i_ltL (by omega) (by decide)] at c_64
        have hdc : decide (200 ≤ qd γ + 1) = true := decide_eq_true (by omega)
        refine j_iconst h (q := 68) (1) dX1_drawCard_67 rfl (by decide) ?_
        refine j_goto h (tgt := 72) dX1_drawCard_68 (by decide) ?_
        refine j_put h (q := 75) inX1 (C := RX1) (T := TX1) (N := 9) (ci := 1) rfl tyX1_ok nmX1 8 (by decide) mF_X1_55 rfl rfl (by first | rfl | exact b2i_n _) (by first | rfl | decide) (by omega) (tab_0 _ _ _ _) (Nat.le_of_ble_eq_true rfl) dX1_drawCard_72 rfl ?_
        refine j_stk rfl tab_u0 ?_
        refine j_aload_n h (q := 76) 3 dX1_drawCard_75 rfl rfl ?_
        refine j_iconst h (q := 77) (1) dX1_drawCard_76 rfl (by decide) ?_
        refine j_aload_n h (q := 78) 3 dX1_drawCard_77 rfl rfl ?_
        refine j_get h (q := 81) inX1 (C := RX1) (T := TX1) (N := 9) (ci := 1) rfl 5 (by decide) mF_X1_45 (by omega) (tab_0 _ _ _ _) rfl dX1_drawCard_78 rfl ?_
        refine j_isub h (q := 82) dX1_drawCard_81 rfl ?_
        refine j_put h (q := 85) inX1 (C := RX1) (T := TX1) (N := 9) (ci := 1) rfl tyX1_ok nmX1 5 (by decide) mF_X1_45 rfl rfl rfl (by first | rfl | decide) (by omega) (tab_0 _ _ _ _) (Nat.le_of_ble_eq_true rfl) dX1_drawCard_82 rfl ?_
        refine j_stk rfl tab_u0 ?_
        refine j_iload_n h (q := 86) 0 dX1_drawCard_85 rfl rfl ?_
        refine j_iret h rfl dX1_drawCard_86 ?_
        refine ⟨_, rfl, rfl, _, rfl, ?_⟩
        unfold drawG
        have h3 := R3
        have e3 : (takeG (turnG γ)) = ((takeG (turnG γ)).1, (takeG (turnG γ)).2.1, γ.2.2) := by rw [← hq3]
        refine TR_put (γ := takeG (turnG γ)) R3 rfl rfl (fun s hs => ?_) (fun s hs => ?_) (fun j hj => ?_) ?_ ?_ ?_ ?_
        · rw [e3] at h3; exact R_pt h3 hs
        · rw [e3] at h3; exact R_fz h3 hs
        · rw [e3] at h3
          obtain ⟨th, q1, q2, q3⟩ := R_th h3 hj
          have q4 : qz γ j = th - qd γ := q3
          exact ⟨th, q1, q2, by omega⟩
        · show (1 : Int32) - Ttp T3 = _; rw [htp]; exact i_Lsub (by omega)
        · show Tdr T3 + 1 = _; rw [hd, i_addL]
        · rw [e3] at h3; exact h3.2.2.2.2.2.2.2.1
        · rw [hdc]; rfl
    · have hn0 : ¬ qn (turnG γ) (4 + qt γ) = 0 := fun z => c_37 ((ov_n _ (G_o G2 (by omega))).mpr (topO_n.mpr z))
      have hcw : qn (turnG γ) (2 + qt γ) < 104 := by
        have a := sumN_le (f := qn (takeG (turnG γ))) (k := 22) (p := 2 + qt γ) (by omega)
        have b := (PI_take G2.1 (by rw [hq]; exact e2)).2.2.2.1
        have c : qn (takeG (turnG γ)) (2 + qt γ) = qn (turnG γ) (2 + qt γ) + 1 := by
          unfold takeG; rw [hq, if_neg hn0]; exact if_pos rfl
        omega
      refine j_aload_n h (q := 41) 3 dX1_drawCard_40 rfl rfl ?_
      refine j_iload_n h (q := 42) 1 dX1_drawCard_41 rfl rfl ?_
      refine j_iload_n h (q := 43) 0 dX1_drawCard_42 rfl rfl ?_
      refine j_cV h (q := 46) (C := RX1) (T := TX1) (N := 9) (ci := 1) mo_X1_layOn mI_X1_layOn mV_X1_layOn mL_X1_30 (c_X1_layOn g _ _ ht _ rfl (by omega) (qn (turnG γ) (2 + qt γ)) (by show upd (Tsz T2) (4 + qt γ) _ (2 + qt γ) = _; unfold upd; rw [if_neg (by omega), R_sz R2 (by omega)]) (by have := fpv_cap (p := 2 + qt γ) (by omega); unfold cap at this; rw [if_pos (by omega)] at this; omega) _) (by decide) (by omega) (tab_0 _ _ _ _) rfl rfl rfl (Nat.le_of_ble_eq_true rfl) dX1_drawCard_43 rfl ?_
      rintro _ w43 ⟨rfl, e⟩
      obtain ⟨T3, R3, hw3⟩ : ∃ T3, TR T3 (takeG (turnG γ)) ∧ w43 = tab g w t T3 := by
        refine ⟨_, ?_, e⟩
        have a := TR_mv (f := 4 + qt γ) (u := 2 + qt γ) R2 (GI_caps G2) (by omega) (by omega) (by omega) (by omega) (by unfold cap; rw [if_pos (by omega)]; exact hcw)
        unfold takeG
        rw [hq, if_neg hn0, topO_k (by omega)]
        exact a
      subst hw3
      refine j_aload_n h (q := 47) 3 dX1_drawCard_46 rfl rfl ?_
      refine j_dup h (q := 48) dX1_drawCard_47 rfl rfl ?_
      refine j_get h (q := 51) inX1 (C := RX1) (T := TX1) (N := 9) (ci := 1) rfl 6 (by decide) mF_X1_49 (by omega) (tab_0 _ _ _ _) rfl dX1_drawCard_48 rfl ?_
      refine j_iconst h (q := 52) (1) dX1_drawCard_51 rfl (by decide) ?_
      refine j_iadd h (q := 53) dX1_drawCard_52 rfl ?_
      refine j_put h (q := 56) inX1 (C := RX1) (T := TX1) (N := 9) (ci := 1) rfl tyX1_ok nmX1 6 (by decide) mF_X1_49 rfl rfl rfl (by first | rfl | decide) (by omega) (tab_0 _ _ _ _) (Nat.le_of_ble_eq_true rfl) dX1_drawCard_53 rfl ?_
      refine j_stk rfl tab_u0 ?_
      refine j_aload_n h (q := 57) 3 dX1_drawCard_56 rfl rfl ?_
      refine j_aload_n h (q := 58) 3 dX1_drawCard_57 rfl rfl ?_
      refine j_get h (q := 61) inX1 (C := RX1) (T := TX1) (N := 9) (ci := 1) rfl 6 (by decide) mF_X1_49 (by omega) (tab_0 _ _ _ _) rfl dX1_drawCard_58 rfl ?_
      refine j_sipush h (q := 64) (200) dX1_drawCard_61 rfl (by decide) ?_
      have hq3 : (takeG (turnG γ)).2.2 = γ.2.2 := by unfold takeG; split <;> exact hq2
      have hd : Tdr T3 = nI (qd γ) := by rw [R_dr R3]; show nI (takeG (turnG γ)).2.2.2.2.2.2.1 = _; rw [hq3]
      have htp : Ttp T3 = nI (qt γ) := by rw [R_tp R3]; show nI (takeG (turnG γ)).2.2.2.2.2.1 = _; rw [hq3]
      have hdb : qd γ ≤ 200 := G.2.2.2.2.1
      refine j_icmp_lt h (tgt := 71) (q := 67) dX1_drawCard_64 rfl (by decide) (fun c_64 => ?_) (fun c_64 => ?_)
      · rw [show Tdr T3 + 1 = nI (qd γ + 1) by rw [hd, i_addL], i_ltL (by omega) (by decide)] at c_64
        have hdc : decide (200 ≤ qd γ + 1) = false := decide_eq_false (by omega)
        refine j_iconst h (q := 72) (0) dX1_drawCard_71 rfl (by decide) ?_
        refine j_put h (q := 75) inX1 (C := RX1) (T := TX1) (N := 9) (ci := 1) rfl tyX1_ok nmX1 8 (by decide) mF_X1_55 rfl rfl (by first | rfl | exact b2i_n _) (by first | rfl | decide) (by omega) (tab_0 _ _ _ _) (Nat.le_of_ble_eq_true rfl) dX1_drawCard_72 rfl ?_
        refine j_stk rfl tab_u0 ?_
        refine j_aload_n h (q := 76) 3 dX1_drawCard_75 rfl rfl ?_
        refine j_iconst h (q := 77) (1) dX1_drawCard_76 rfl (by decide) ?_
        refine j_aload_n h (q := 78) 3 dX1_drawCard_77 rfl rfl ?_
        refine j_get h (q := 81) inX1 (C := RX1) (T := TX1) (N := 9) (ci := 1) rfl 5 (by decide) mF_X1_45 (by omega) (tab_0 _ _ _ _) rfl dX1_drawCard_78 rfl ?_
        refine j_isub h (q := 82) dX1_drawCard_81 rfl ?_
        refine j_put h (q := 85) inX1 (C := RX1) (T := TX1) (N := 9) (ci := 1) rfl tyX1_ok nmX1 5 (by decide) mF_X1_45 rfl rfl rfl (by first | rfl | decide) (by omega) (tab_0 _ _ _ _) (Nat.le_of_ble_eq_true rfl) dX1_drawCard_82 rfl ?_
        refine j_stk rfl tab_u0 ?_
        refine j_iload_n h (q := 86) 0 dX1_drawCard_85 rfl rfl ?_
        refine j_iret h rfl dX1_drawCard_86 ?_
        refine ⟨_, rfl, rfl, _, rfl, ?_⟩
        unfold drawG
        have h3 := R3
        have e3 : (takeG (turnG γ)) = ((takeG (turnG γ)).1, (takeG (turnG γ)).2.1, γ.2.2) := by rw [← hq3]
        refine TR_put (γ := takeG (turnG γ)) R3 rfl rfl (fun s hs => ?_) (fun s hs => ?_) (fun j hj => ?_) ?_ ?_ ?_ ?_
        · rw [e3] at h3; exact R_pt h3 hs
        · rw [e3] at h3; exact R_fz h3 hs
        · rw [e3] at h3
          obtain ⟨th, q1, q2, q3⟩ := R_th h3 hj
          have q4 : qz γ j = th - qd γ := q3
          exact ⟨th, q1, q2, by omega⟩
        · show (1 : Int32) - Ttp T3 = _; rw [htp]; exact i_Lsub (by omega)
        · show Tdr T3 + 1 = _; rw [hd, i_addL]
        · rw [e3] at h3; exact h3.2.2.2.2.2.2.2.1
        · rw [hdc]; rfl
      · rw [show Tdr T3 + 1 = nI (qd γ + 1) by rw [hd, i_addL], i_ltL (by omega) (by decide)] at c_64
        have hdc : decide (200 ≤ qd γ + 1) = true := decide_eq_true (by omega)
        refine j_iconst h (q := 68) (1) dX1_drawCard_67 rfl (by decide) ?_
        refine j_goto h (tgt := 72) dX1_drawCard_68 (by decide) ?_
        refine j_put h (q := 75) inX1 (C := RX1) (T := TX1) (N := 9) (ci := 1) rfl tyX1_ok nmX1 8 (by decide) mF_X1_55 rfl rfl (by first | rfl | exact b2i_n _) (by first | rfl | decide) (by omega) (tab_0 _ _ _ _) (Nat.le_of_ble_eq_true rfl) dX1_drawCard_72 rfl ?_
        refine j_stk rfl tab_u0 ?_
        refine j_aload_n h (q := 76) 3 dX1_drawCard_75 rfl rfl ?_
        refine j_iconst h (q := 77) (1) dX1_drawCard_76 rfl (by decide) ?_
        refine j_aload_n h (q := 78) 3 dX1_drawCard_77 rfl rfl ?_
        refine j_get h (q := 81) inX1 (C := RX1) (T := TX1) (N := 9) (ci := 1) rfl 5 (by decide) mF_X1_45 (by omega) (tab_0 _ _ _ _) rfl dX1_drawCard_78 rfl ?_
        refine j_isub h (q := 82) dX1_drawCard_81 rfl ?_
        refine j_put h (q := 85) inX1 (C := RX1) (T := TX1) (N := 9) (ci := 1) rfl tyX1_ok nmX1 5 (by decide) mF_X1_45 rfl rfl rfl (by first | rfl | decide) (by omega) (tab_0 _ _ _ _) (Nat.le_of_ble_eq_true rfl) dX1_drawCard_82 rfl ?_
        refine j_stk rfl tab_u0 ?_
        refine j_iload_n h (q := 86) 0 dX1_drawCard_85 rfl rfl ?_
        refine j_iret h rfl dX1_drawCard_86 ?_
        refine ⟨_, rfl, rfl, _, rfl, ?_⟩
        unfold drawG
        have h3 := R3
        have e3 : (takeG (turnG γ)) = ((takeG (turnG γ)).1, (takeG (turnG γ)).2.1, γ.2.2) := by rw [← hq3]
        refine TR_put (γ := takeG (turnG γ)) R3 rfl rfl (fun s hs => ?_) (fun s hs => ?_) (fun j hj => ?_) ?_ ?_ ?_ ?_
        · rw [e3] at h3; exact R_pt h3 hs
        · rw [e3] at h3; exact R_fz h3 hs
        · rw [e3] at h3
          obtain ⟨th, q1, q2, q3⟩ := R_th h3 hj
          have q4 : qz γ j = th - qd γ := q3
          exact ⟨th, q1, q2, by omega⟩
        · show (1 : Int32) - Ttp T3 = _; rw [htp]; exact i_Lsub (by omega)
        · show Tdr T3 + 1 = _; rw [hd, i_addL]
        · rw [e3] at h3; exact h3.2.2.2.2.2.2.2.1
        · rw [hdc]; rfl
