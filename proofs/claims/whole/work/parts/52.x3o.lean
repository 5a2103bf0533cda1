theorem MR_deal {st0 st1 st2 : Nat → Int32} {x : Nat} (h0 : ∀ j, j < 224 → st0 j = 0) (d0 : DPM st0 st1 0 52 (packG x 0)) (d1 : DPM (upd st1 210 2) st2 1 52 (packG x 1)) : MR (upd st2 211 2) (dealG x) := by
  have b0 := (PK_pack x (s := 0) (by decide)).1
  have b1 := (PK_pack x (s := 1) (by decide)).1
  have k1 : ∀ j, j < 52 → upd st2 211 2 (packG x 1 j) = nI (pOf 1 j) ∧ upd st2 211 2 (104 + packG x 1 j) = nI (iOf j) := fun j hj => by
    have := b1 j hj
    rw [pk_un (by omega), pk_un (by omega)]
    exact d1.1 j hj
  have k0 : ∀ j, j < 52 → upd st2 211 2 (packG x 0 j) = nI (pOf 0 j) ∧ upd st2 211 2 (104 + packG x 0 j) = nI (iOf j) := fun j hj => by
    have h9 := b0 j hj
    rw [pk_un (by omega), pk_un (by omega), d1.2 _ (fun l hl => by have := b1 l hl; omega), d1.2 _ (fun l hl => by have := b1 l hl; omega), pk_un (by omega), pk_un (by omega)]
    exact d0.1 j hj
  have kz : ∀ j, 208 ≤ j → j < 224 → j ≠ 210 → j ≠ 211 → upd st2 211 2 j = 0 := fun j a1 a2 a3 a4 => by
    rw [pk_un a4, d1.2 _ (fun l hl => by have := b1 l hl; omega), pk_un a3, d0.2 _ (fun l hl => by have := b0 l hl; omega)]
    exact h0 j a2
  have ka : ∀ s, s < 2 → ∀ j, j < 52 → upd st2 211 2 (packG x s j) = nI (pOf s j) ∧ upd st2 211 2 (104 + packG x s j) = nI (iOf j) := fun s hs => by
    rcases (show s = 0 ∨ s = 1 by omega) with rfl | rfl
    · exact k0
    · exact k1
  refine ⟨fun p i hp hi => ?_, fun s hs => ?_, fun k hk => kz _ (by omega) (by omega) (by omega) (by omega), kz _ (by omega) (by omega) (by omega) (by omega), kz _ (by omega) (by omega) (by omega) (by omega), kz _ (by omega) (by omega) (by omega) (by omega), kz _ (by omega) (by omega) (by omega) (by omega)⟩
  · have hi2 : i < dealN p := hi
    obtain ⟨e1, e2, e3⟩ := deal_ix hp hi2
    have q := ka _ e1 _ e2
    show upd st2 211 2 (dealC x p i) = nI p ∧ upd st2 211 2 (104 + dealC x p i) = nI i
    rw [dealC_e, q.1, q.2]
    have hp2 : pOf (sdG p) (ixG p i) = p := by unfold pOf; split <;> (try split) <;> omega
    have hi3 : iOf (ixG p i) = i := by unfold iOf; split <;> (try split) <;> omega
    rw [hp2, hi3]
    exact ⟨rfl, rfl⟩
  · refine ⟨kz _ (by omega) (by omega) (by omega) (by omega), ?_⟩
    rcases (show s = 0 ∨ s = 1 by omega) with rfl | rfl
    · show upd st2 211 2 210 = 2
      rw [pk_un (by decide), d1.2 _ (fun l hl => by have := b1 l hl; omega), pk_us]
    · show upd st2 211 2 211 = 2
      rw [pk_us]

set_option maxRecDepth 100000 in
set_option maxHeartbeats 4000000 in
theorem lp_dealS (g : jG) (w : jW) (M : Ms) {K : jK} {Φ : Option Value → jW → Prop} (h : jH g K RX3 cX3_deals 8 none) (a : Int32) {s x : Nat} (hs : s < 2) (hx : x < 2147483648) (kk : ∀ st pk, DPM (Mst M) st s 52 (shufG 51 ((fun j => 52 * s + j), x)).1 → J g 2 K 8 Φ 28 [(4, .int (nI (s + 1))), (2, .long (lN (shufG 51 ((fun j => 52 * s + j), x)).2)), (0, .ref (gr g 67)), (1, .int a)] [] (mw g w (spk (sst M (upd st (210 + s) 2)) pk))) : J g 2 K 8 Φ 28 [(4, .int (nI s)), (2, .long (lN x)), (0, .ref (gr g 67)), (1, .int a)] [] (mw g w M) := by
  refine j_iload h (q := 30) 0 dX3_deals_28 rfl rfl ?_
  refine j_iconst h (q := 31) (2) dX3_deals_30 rfl (by decide) ?_
  refine j_icmp_ge h (tgt := 164) (q := 34) dX3_deals_31 rfl (by decide) (fun c_31 => ?_) (fun c_31 => ?_)
  · exact absurd c_31 (by rw [i_Lle (by omega) (by omega)]; omega)
  refine j_iconst h (q := 35) (0) dX3_deals_34 rfl (by decide) ?_
  refine j_istore h (q := 37) (loc' := [(5, _), (4, _), (2, _), (0, _), (1, _)]) dX3_deals_35 rfl (by decide) rfl ?_
  refine j_sub [0, 1, 2, 3, 4] rfl ?_
  refine lp_dealB g w M h a _ hs (fun pk hpk => ?_) 52 0 (Mpk M) rfl (fun j hj => absurd hj (Nat.not_lt_zero _))
  refine j_bipush h (q := 67) (51) dX3_deals_65 rfl (by decide) ?_
  refine j_istore h (q := 69) (loc' := [(5, _), (4, _), (2, _), (0, _), (1, _)]) dX3_deals_67 rfl (by decide) rfl ?_
  refine j_sub [0, 1, 2, 3, 4] rfl ?_
  refine lp_dealC g w M h a 51 (fun j => 52 * s + j) x pk (by decide) hx hpk (fun pk2 hr2 => ?_)
  refine j_aload_n h (q := 141) 3 dX3_deals_140 rfl rfl ?_
  refine j_iload h (q := 143) 1 dX3_deals_141 rfl rfl ?_
  refine j_cV h (q := 146) (C := RX3) (T := TX3) (N := 17) (ci := 3) mo_X3_dealPack mI_X3_dealPack mV_X3_dealPack mL_X3_61 (m_dealPack g w (spk M pk2) hs (PK_shuf 51 ((fun j => 52 * s + j), x) (by decide) (PK_id s)) hr2) (by decide) (by decide) (mw_0 _ _ _) rfl rfl rfl (Nat.le_of_ble_eq_true rfl) dX3_deals_143 rfl ?_
  rintro _ w143 ⟨rfl, e⟩
  obtain ⟨st, rfl, hD⟩ := e
  refine j_aload_n h (q := 147) 3 dX3_deals_146 rfl rfl ?_
  refine j_get h (q := 150) inX3 (C := RX3) (T := TX3) (N := 17) (ci := 3) rfl 0 (by decide) mF_X3_7 (by decide) (mw_0 _ _ _) rfl dX3_deals_147 rfl ?_
  refine j_sipush h (q := 153) (210) dX3_deals_150 rfl (by decide) ?_
  refine j_iload h (q := 155) 1 dX3_deals_153 rfl rfl ?_
  refine j_iadd h (q := 156) dX3_deals_155 rfl ?_
  refine j_iconst h (q := 157) (2) dX3_deals_156 rfl (by decide) ?_
  refine j_stn h (q := 158) (210 + s) (by decide) (mw_st _ _ _) (by first | rfl | (simp only [nI_add, i_addL, i_Ladd, i_mulL, i_Lmul]; done) | (simp only [nI_add, i_addL, i_Ladd, i_mulL, i_Lmul]; congr 1; omega)) (by omega) (by decide) dX3_deals_157 rfl ?_
  refine j_stk rfl mw_ust ?_
  refine j_iinc h (q := 161) (loc' := [(4, _), (5, _), (2, _), (0, _), (1, _)]) 1 _ dX3_deals_158 rfl rfl rfl (by decide) rfl ?_
  refine j_goto h (tgt := 28) dX3_deals_161 (by decide) ?_
  rw [show nI s + Int32.ofInt 1 = nI (s + 1) from nI_1 s]
  refine j_sub [0, 2, 3, 4] rfl ?_
  exact kk st pk2 hD

set_option maxRecDepth 100000 in
set_option maxHeartbeats 4000000 in
theorem m_deals (g : jG) (w : jW) (M : Ms) {x : Nat} (hx : x < 2147483648)  : ConV g 2 yX3_deals cX3_deals 8 none [.ref (gr g 67), .int (nI x)] (mw g w M) (fun w' => ∃ st pk, w' = mw g w (spk (sst M st) pk) ∧ MR st (dealG x)) := by
  refine con_of (by decide +kernel) (Nat.le_of_ble_eq_true rfl) [(0, _), (1, _)] rfl (fun K h => ?_)
  refine j_iconst h (q := 1) (0) dX3_deals_0 rfl (by decide) ?_
  refine j_istore_n h (q := 2) (loc' := [(2, _), (0, _), (1, _)]) dX3_deals_1 rfl (by decide) rfl ?_
  refine j_sub [0, 1, 2] rfl ?_
  refine lp_dealA g w M h (nI x) (fun st0 h0 => ?_) 224 0 (Mst M) rfl (fun j hj => absurd hj (Nat.not_lt_zero _))
  refine j_iload_n h (q := 23) 2 dX3_deals_22 rfl rfl ?_
  refine j_i2l h (q := 24) dX3_deals_23 rfl ?_
  rw [nI_l (by omega)]
  refine j_lstore_n h (q := 25) (loc' := [(2, _), (0, _), (1, _)]) dX3_deals_24 rfl (by decide) rfl ?_
  refine j_iconst h (q := 26) (0) dX3_deals_25 rfl (by decide) ?_
  refine j_istore h (q := 28) (loc' := [(4, _), (2, _), (0, _), (1, _)]) dX3_deals_26 rfl (by decide) rfl ?_
  refine j_sub [0, 1, 2, 3] rfl ?_
  have hp0 : (shufG 51 ((fun j => 52 * 0 + j), x)).1 = packG x 0 := by unfold packG; rw [if_pos rfl]; unfold pack0; simp only [Nat.mul_zero, Nat.zero_add]
  have hp1 : (shufG 51 ((fun j => 52 * 1 + j), (shufG 51 ((fun j => 52 * 0 + j), x)).2)).1 = packG x 1 := by unfold packG; rw [if_neg (by decide)]; unfold pack1 pack0; simp only [Nat.mul_zero, Nat.zero_add, Nat.mul_one]
  refine lp_dealS g w (sst M st0) h (nI x) (s := 0) (by decide) hx (fun st1 pk1 d0 => ?_)
  refine lp_dealS g w (spk (sst (sst M st0) (upd st1 (210 + 0) 2)) pk1) h (nI x) (s := 1) (by decide) (shuf_lt _ _ hx) (fun st2 pk2 d1 => ?_)
  refine j_iload h (q := 30) 0 dX3_deals_28 rfl rfl ?_
  refine j_iconst h (q := 31) (2) dX3_deals_30 rfl (by decide) ?_
  refine j_icmp_ge h (tgt := 164) (q := 34) dX3_deals_31 rfl (by decide) (fun c_31 => ?_) (fun c_31 => ?_)
  rotate_left
  · exact absurd (show (2 : Int32) ≤ nI 2 by decide) c_31
  refine j_vret h rfl dX3_deals_164 ?_
  refine ⟨rfl, _, _, rfl, ?_⟩
  refine MR_deal (st0 := st0) (st1 := st1) (st2 := st2) h0 (x := x) ?_ ?_
  · exact hp0 ▸ d0
  · exact hp1 ▸ d1

set_option maxRecDepth 100000 in
set_option maxHeartbeats 4000000 in
theorem M_deal (g : jG) (w : jW) (M : Ms) (σ : Sg) (S : SI σ) (R : MX M σ) (a : Int32)  : ConI g 3 yX3_deal cX3_deal 2 (some (.int)) [.ref (gr g 67), .int a] (mw g w M) (fun x w' => x = (spDeal σ a).1 ∧ ∃ M', w' = mw g w M' ∧ MX M' (spDeal σ a).2) := by
  refine con_of (by decide +kernel) (Nat.le_of_ble_eq_true rfl) [(0, _), (1, _)] rfl (fun K h => ?_)
  by_cases h0 : a < 0
  · have hs : spDeal σ a = (-2, σ) := if_pos h0
    refine j_iload_n h (q := 1) 1 dX3_deal_0 rfl rfl ?_
    refine j_if_ge h (tgt := 7) (q := 4) dX3_deal_1 rfl (by decide) (fun c_1 => ?_) (fun c_1 => ?_)
    · exact absurd h0 (Int32.not_lt.mpr c_1)
    refine j_bipush h (q := 6) (-2) dX3_deal_4 rfl (by decide) ?_
    refine j_iret h rfl dX3_deal_6 ?_
    refine ⟨_, rfl, by rw [hs], M, rfl, by rw [hs]; exact R⟩
  · obtain ⟨k, hk, rfl⟩ := nI_of h0
    have hs : spDeal σ (nI k) = (ov (topO (dealG k) 0), recG σ (dealG k)) := by unfold spDeal; rw [if_neg h0, show vv (nI k) = k from nI_clamp hk]
    refine j_iload_n h (q := 1) 1 dX3_deal_0 rfl rfl ?_
    refine j_if_ge h (tgt := 7) (q := 4) dX3_deal_1 rfl (by decide) (fun c_1 => ?_) (fun c_1 => ?_)
    rotate_left
    · exact absurd (Int32.not_lt.mp h0) c_1
    refine j_aload_n h (q := 8) 0 dX3_deal_7 rfl rfl ?_
    refine j_cV h (q := 11) (C := RX3) (T := TX3) (N := 17) (ci := 3) mo_X3_record mI_X3_record mV_X3_record mL_X3_130 (m_record g w M σ S R) (by decide) (by decide) (mw_0 _ _ _) rfl rfl rfl (Nat.le_of_ble_eq_true rfl) dX3_deal_8 rfl ?_
    rintro _ w8 ⟨rfl, e⟩
    obtain ⟨M1, rfl, R1, q1, q2, q3⟩ := e
    refine j_aload_n h (q := 12) 0 dX3_deal_11 rfl rfl ?_
    refine j_iload_n h (q := 13) 1 dX3_deal_12 rfl rfl ?_
    refine j_cV h (q := 16) (C := RX3) (T := TX3) (N := 17) (ci := 3) mo_X3_deals mI_X3_deals mV_X3_deals mL_X3_37 (m_deals g w M1 (x := k) (by omega)) (by decide) (by decide) (mw_0 _ _ _) rfl rfl rfl (Nat.le_of_ble_eq_true rfl) dX3_deal_13 rfl ?_
    rintro _ w13 ⟨rfl, e⟩
    obtain ⟨st, pk, rfl, R2⟩ := e
    refine j_aload_n h (q := 17) 0 dX3_deal_16 rfl rfl ?_
    refine j_cV h (q := 20) (C := RX3) (T := TX3) (N := 17) (ci := 3) mo_X3_look mI_X3_look mV_X3_look mL_X3_102 (m_look g w (spk (sst M1 st) pk) (dealG k) R2 (GI_deal k)) (by decide) (by decide) (mw_0 _ _ _) rfl rfl rfl (Nat.le_of_ble_eq_true rfl) dX3_deal_17 rfl ?_
    rintro _ w17 ⟨rfl, e⟩
    obtain ⟨sz, tp, rfl, L⟩ := e
    refine j_aload_n h (q := 21) 0 dX3_deal_20 rfl rfl ?_
    refine j_get h (q := 24) inX3 (C := RX3) (T := TX3) (N := 17) (ci := 3) rfl 9 (by decide) mF_X3_31 (by decide) (mw_0 _ _ _) rfl dX3_deal_21 rfl ?_
    refine j_iconst h (q := 25) (0) dX3_deal_24 rfl (by decide) ?_
    refine j_ldn h (q := 26) (0) (by decide) (mw_tp _ _ _) rfl (by decide) (by decide) dX3_deal_25 rfl ?_
    refine j_iret h rfl dX3_deal_26 ?_
    exact ⟨_, rfl, by rw [hs]; exact (L 0 (by decide)).2, _, rfl, by rw [hs]; exact MX_go R1 ⟨rfl, rfl, rfl, rfl, rfl, rfl, rfl⟩ R2⟩
