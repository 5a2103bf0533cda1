set_option maxRecDepth 100000 in
set_option maxHeartbeats 4000000 in
theorem lp_putM (g : jG) (w : jW) (M : Ms) {K : jK} {Φ : Option Value → jW → Prop} (h : jH g K RX3 cX3_put 8 (some (.int))) (x : Int64) : ∀ k n r acc, n + k = 8 → (∀ r2 : Int64, r2.toUInt64.toNat = (sgG k r.toUInt64.toNat).2.2 → J g 1 K 8 Φ 67 [(6, .int (b2i (acc && (sgG k r.toUInt64.toNat).2.1))), (4, .long r2), (3, .int (nI (n + (sgG k r.toUInt64.toNat).1))), (0, .ref (gr g 67)), (1, .long x)] [] (mw g w M)) → J g 1 K 8 Φ 8 [(6, .int (b2i (acc))), (4, .long r), (3, .int (nI (n))), (0, .ref (gr g 67)), (1, .long x)] [] (mw g w M) := by
  intro k
  induction k with
  | zero =>
    intro n r acc hn kk
    have hn8 : n = 8 := by omega
    subst hn8
    refine j_iload_n h (q := 9) 2 dX3_put_8 rfl rfl ?_
    refine j_bipush h (q := 11) (8) dX3_put_9 rfl (by decide) ?_
    refine j_icmp_ge h (tgt := 67) (q := 14) dX3_put_11 rfl (by decide) (fun c_11 => ?_) (fun c_11 => ?_)
    rotate_left
    · exact absurd (show (8 : Int32) ≤ nI 8 by decide) c_11
    have q := kk r rfl
    rw [show (acc && (sgG 0 r.toUInt64.toNat).2.1) = acc from Bool.and_true acc] at q
    exact q
  | succ k ih =>
    intro n r acc hn kk
    refine j_iload_n h (q := 9) 2 dX3_put_8 rfl rfl ?_
    refine j_bipush h (q := 11) (8) dX3_put_9 rfl (by decide) ?_
    refine j_icmp_ge h (tgt := 67) (q := 14) dX3_put_11 rfl (by decide) (fun c_11 => ?_) (fun c_11 => ?_)
    · exact absurd c_11 (by rw [i_Lle (by omega) (by omega)]; omega)
    refine j_lload h (q := 16) 1 dX3_put_14 rfl rfl ?_
    refine j_ldc2 h (q := 19) mK_X3_169 dX3_put_16 rfl ?_
    refine j_land h (q := 20) dX3_put_19 rfl ?_
    refine j_lconst h (q := 21) 0 dX3_put_20 rfl (by decide) ?_
    refine j_lcmp h (q := 22) dX3_put_21 rfl ?_
    refine j_if_eq h (tgt := 67) (q := 25) dX3_put_22 rfl (by decide) (fun c_22 => ?_) (fun c_22 => ?_)
    · rw [by_ne] at c_22
      have q := kk r (by rw [sg_0 c_22])
      rw [sg_0 c_22, Bool.and_true] at q
      exact q
    · rw [by_ne] at c_22
      refine j_iload h (q := 27) 0 dX3_put_25 rfl rfl ?_
      refine j_if_eq h (tgt := 51) (q := 30) dX3_put_27 rfl (by decide) (fun c_27 => ?_) (fun c_27 => ?_)
      · rw [b2i_0] at c_27
        refine j_iconst h (q := 52) (0) dX3_put_51 rfl (by decide) ?_
        refine j_istore h (q := 54) (loc' := [(6, _), (4, _), (3, _), (0, _), (1, _)]) dX3_put_52 rfl (by decide) rfl ?_
        refine j_lload h (q := 56) 1 dX3_put_54 rfl rfl ?_
        refine j_bipush h (q := 58) (8) dX3_put_56 rfl (by decide) ?_
        refine j_lushr h (q := 59) dX3_put_58 rfl ?_
        refine j_lstore h (q := 61) (loc' := [(4, _), (6, _), (3, _), (0, _), (1, _)]) dX3_put_59 rfl (by decide) rfl ?_
        refine j_iinc h (q := 64) (loc' := [(3, _), (4, _), (6, _), (0, _), (1, _)]) 2 _ dX3_put_61 rfl rfl rfl (by decide) rfl ?_
        refine j_goto h (tgt := 8) dX3_put_64 (by decide) ?_
        rw [show nI n + Int32.ofInt 1 = nI (n + 1) from nI_1 n]
        refine j_sub [2, 1, 0, 3, 4] rfl ?_
        have es : ((r.toUInt64 >>> ((8 : Int32).toInt64.toUInt64 &&& Int64.toUInt64 63)).toInt64).toUInt64.toNat = r.toUInt64.toNat / 256 := put_sh r (k := 8) (by decide)
        have q := ih (n + 1) _ (acc && decide (33 ≤ r.toUInt64.toNat % 256 ∧ r.toUInt64.toNat % 256 ≤ 126)) (by omega) (fun r2 h2 => by
          have q := kk r2 (by rw [sg_s c_22, h2, es])
          rw [sg_s c_22] at q
          rw [es, Bool.and_assoc, show n + 1 + (sgG k (r.toUInt64.toNat / 256)).1 = n + ((sgG k (r.toUInt64.toNat / 256)).1 + 1) by omega]
          exact q)
        first
          | (rw [c_27, Bool.false_and] at q; exact q)
          | (rw [c_27, Bool.true_and, c_44] at q; exact q)
      · rw [b2i_1] at c_27
        refine j_lload h (q := 32) 1 dX3_put_30 rfl rfl ?_
        refine j_ldc2 h (q := 35) mK_X3_169 dX3_put_32 rfl ?_
        refine j_land h (q := 36) dX3_put_35 rfl ?_
        refine j_l2i h (q := 37) dX3_put_36 rfl ?_
        refine j_bipush h (q := 39) (33) dX3_put_37 rfl (by decide) ?_
        refine j_bipush h (q := 41) (126) dX3_put_39 rfl (by decide) ?_
        rw [put_and, lN_i]
        refine j_cS h (q := 44) mo_X3_within mS_X3_within mL_X3_64 (m_within g _ _ _ _) (by decide) rfl rfl (Nat.le_of_ble_eq_true rfl) dX3_put_41 rfl ?_
        rintro _ w41 ⟨x41, rfl, e⟩
        obtain ⟨rfl, rfl⟩ := e
        rw [show decide (¬ nI (r.toUInt64.toNat % 256) < 33 ∧ ¬ (126 : Int32) < nI (r.toUInt64.toNat % 256)) = decide (33 ≤ r.toUInt64.toNat % 256 ∧ r.toUInt64.toNat % 256 ≤ 126) from decide_eq_decide.mpr (by rw [i_ltL (by omega) (by decide), i_Llt (by omega) (by decide)]; omega)]
        refine j_if_eq h (tgt := 51) (q := 47) dX3_put_44 rfl (by decide) (fun c_44 => ?_) (fun c_44 => ?_)
        · rw [b2i_0] at c_44
          refine j_iconst h (q := 52) (0) dX3_put_51 rfl (by decide) ?_
          refine j_istore h (q := 54) (loc' := [(6, _), (4, _), (3, _), (0, _), (1, _)]) dX3_put_52 rfl (by decide) rfl ?_
          refine j_lload h (q := 56) 1 dX3_put_54 rfl rfl ?_
          refine j_bipush h (q := 58) (8) dX3_put_56 rfl (by decide) ?_
          refine j_lushr h (q := 59) dX3_put_58 rfl ?_
          refine j_lstore h (q := 61) (loc' := [(4, _), (6, _), (3, _), (0, _), (1, _)]) dX3_put_59 rfl (by decide) rfl ?_
          refine j_iinc h (q := 64) (loc' := [(3, _), (4, _), (6, _), (0, _), (1, _)]) 2 _ dX3_put_61 rfl rfl rfl (by decide) rfl ?_
          refine j_goto h (tgt := 8) dX3_put_64 (by decide) ?_
          rw [show nI n + Int32.ofInt 1 = nI (n + 1) from nI_1 n]
          refine j_sub [2, 1, 0, 3, 4] rfl ?_
          have es : ((r.toUInt64 >>> ((8 : Int32).toInt64.toUInt64 &&& Int64.toUInt64 63)).toInt64).toUInt64.toNat = r.toUInt64.toNat / 256 := put_sh r (k := 8) (by decide)
          have q := ih (n + 1) _ (acc && decide (33 ≤ r.toUInt64.toNat % 256 ∧ r.toUInt64.toNat % 256 ≤ 126)) (by omega) (fun r2 h2 => by
            have q := kk r2 (by rw [sg_s c_22, h2, es])
            rw [sg_s c_22] at q
            rw [es, Bool.and_assoc, show n + 1 + (sgG k (r.toUInt64.toNat / 256)).1 = n + ((sgG k (r.toUInt64.toNat / 256)).1 + 1) by omega]
            exact q)
          first
            | (rw [c_27, Bool.false_and] at q; exact q)
            | (rw [c_27, Bool.true_and, c_44] at q; exact q)
        · rw [b2i_1] at c_44
          refine j_iconst h (q := 48) (1) dX3_put_47 rfl (by decide) ?_
          refine j_goto h (tgt := 52) dX3_put_48 (by decide) ?_
          refine j_istore h (q := 54) (loc' := [(6, _), (4, _), (3, _), (0, _), (1, _)]) dX3_put_52 rfl (by decide) rfl ?_
          refine j_lload h (q := 56) 1 dX3_put_54 rfl rfl ?_
          refine j_bipush h (q := 58) (8) dX3_put_56 rfl (by decide) ?_
          refine j_lushr h (q := 59) dX3_put_58 rfl ?_
          refine j_lstore h (q := 61) (loc' := [(4, _), (6, _), (3, _), (0, _), (1, _)]) dX3_put_59 rfl (by decide) rfl ?_
          refine j_iinc h (q := 64) (loc' := [(3, _), (4, _), (6, _), (0, _), (1, _)]) 2 _ dX3_put_61 rfl rfl rfl (by decide) rfl ?_
          refine j_goto h (tgt := 8) dX3_put_64 (by decide) ?_
          rw [show nI n + Int32.ofInt 1 = nI (n + 1) from nI_1 n]
          refine j_sub [2, 1, 0, 3, 4] rfl ?_
          have es : ((r.toUInt64 >>> ((8 : Int32).toInt64.toUInt64 &&& Int64.toUInt64 63)).toInt64).toUInt64.toNat = r.toUInt64.toNat / 256 := put_sh r (k := 8) (by decide)
          have q := ih (n + 1) _ (acc && decide (33 ≤ r.toUInt64.toNat % 256 ∧ r.toUInt64.toNat % 256 ≤ 126)) (by omega) (fun r2 h2 => by
            have q := kk r2 (by rw [sg_s c_22, h2, es])
            rw [sg_s c_22] at q
            rw [es, Bool.and_assoc, show n + 1 + (sgG k (r.toUInt64.toNat / 256)).1 = n + ((sgG k (r.toUInt64.toNat / 256)).1 + 1) by omega]
            exact q)
          first
            | (rw [c_27, Bool.false_and] at q; exact q)
            | (rw [c_27, Bool.true_and, c_44] at q; exact q)

set_option maxRecDepth 100000 in
set_option maxHeartbeats 4000000 in
theorem lp_putA (g : jG) (w : jW) (M0 : Ms) {K : jK} {Φ : Option Value → jW → Prop} (h : jH g K RX3 cX3_put 8 (some (.int))) (x : Int64) (vi : Int32) (vr : Int64) (vn : Int32) {L n : Nat} (hn : n ≤ 8) (hL : L + n ≤ 60) (kk : ∀ l, J g 1 K 8 Φ 147 ([(7, .int (nI 0 - 1)), (6, .int vi), (4, .long vr), (3, .int vn), (0, .ref (gr g 67)), (1, .long x)] ++ l) [] (mw g w (spl (spd M0 (apR (Mpd M0) L x.toUInt64.toNat n n)) (nI (L + n))))) : ∀ r c M, c + r = n → M = spl (spd M0 (apR (Mpd M0) L x.toUInt64.toNat n c)) (nI (L + c)) → J g 1 K 8 Φ 105 [(7, .int (nI (r) - 1)), (6, .int vi), (4, .long vr), (3, .int vn), (0, .ref (gr g 67)), (1, .long x)] [] (mw g w M) := by
  intro r
  induction r with
  | zero =>
    intro c M hc hX
    refine j_iload h (q := 107) 0 dX3_put_105 rfl rfl ?_
    refine j_if_lt h (tgt := 147) (q := 110) dX3_put_107 rfl (by decide) (fun c_107 => ?_) (fun c_107 => ?_)
    rotate_left
    · exact absurd (show nI 0 - 1 < (0 : Int32) by decide) c_107
    rw [hX, show c = n by omega]
    exact kk []
  | succ r ih =>
    intro c M hc hX
    have hln : Mpl M = nI (L + c) := by rw [hX]
    rw [nI_pred]
    refine j_iload h (q := 107) 0 dX3_put_105 rfl rfl ?_
    refine j_if_lt h (tgt := 147) (q := 110) dX3_put_107 rfl (by decide) (fun c_107 => ?_) (fun c_107 => ?_)
    · exact absurd c_107 (nI_pos (by omega))
    refine j_aload_n h (q := 111) 4 dX3_put_110 rfl rfl ?_
    refine j_get h (q := 114) inX3 (C := RX3) (T := TX3) (N := 17) (ci := 3) rfl 6 (by decide) mF_X3_25 (by decide) (mw_0 _ _ _) rfl dX3_put_111 rfl ?_
    refine j_aload_n h (q := 115) 4 dX3_put_114 rfl rfl ?_
    refine j_get h (q := 118) inX3 (C := RX3) (T := TX3) (N := 17) (ci := 3) rfl 7 (by decide) mF_X3_163 (by decide) (mw_0 _ _ _) rfl dX3_put_115 rfl ?_
    refine j_lload_n h (q := 119) 5 dX3_put_118 rfl rfl ?_
    refine j_bipush h (q := 121) (8) dX3_put_119 rfl (by decide) ?_
    refine j_iload h (q := 123) 0 dX3_put_121 rfl rfl ?_
    refine j_imul h (q := 124) dX3_put_123 rfl ?_
    rw [i_Lmul]
    refine j_lushr h (q := 125) dX3_put_124 rfl ?_
    refine j_ldc2 h (q := 128) mK_X3_169 dX3_put_125 rfl ?_
    refine j_land h (q := 129) dX3_put_128 rfl ?_
    refine j_l2i h (q := 130) dX3_put_129 rfl ?_
    rw [by_at x (show r < 8 by omega), hln]
    refine j_stn h (q := 131) (L + c) (by decide) (mw_pd _ _ _) rfl (by omega) (by decide) dX3_put_130 rfl ?_
    refine j_stk rfl mw_upd ?_
    refine j_aload_n h (q := 132) 4 dX3_put_131 rfl rfl ?_
    refine j_dup h (q := 133) dX3_put_132 rfl rfl ?_
    refine j_get h (q := 136) inX3 (C := RX3) (T := TX3) (N := 17) (ci := 3) rfl 7 (by decide) mF_X3_163 (by decide) (mw_0 _ _ _) rfl dX3_put_133 rfl ?_
    refine j_iconst h (q := 137) (1) dX3_put_136 rfl (by decide) ?_
    refine j_iadd h (q := 138) dX3_put_137 rfl ?_
    refine j_put h (q := 141) inX3 (C := RX3) (T := TX3) (N := 17) (ci := 3) rfl tyX3_ok nmX3 7 (by decide) mF_X3_163 rfl rfl rfl (by first | rfl | decide) (by decide) (mw_0 _ _ _) (Nat.le_of_ble_eq_true rfl) dX3_put_138 rfl ?_
    refine j_stk rfl mw_u0 ?_
    refine j_iinc h (q := 144) (loc' := [(7, _), (6, _), (4, _), (3, _), (0, _), (1, _)]) 0 _ dX3_put_141 rfl rfl rfl (by decide) rfl ?_
    refine j_goto h (tgt := 105) dX3_put_144 (by decide) ?_
    rw [nI_dec]
    refine j_sub [0, 1, 2, 3, 4, 5] rfl ?_
    refine ih (c + 1) _ (by omega) ?_
    subst hX
    rw [← apR_s (Mpd M0) L x.toUInt64.toNat n c hc, show nI (L + (c + 1)) = nI (L + c) + 1 from (nI_1 _).symm]
