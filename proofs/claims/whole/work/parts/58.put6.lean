theorem MX_put {M : Ms} {σ : Sg} (R : MX M σ) (x : Int64) : MX (spl (spd M (apR (Mpd M) (zl σ) (uN x) (cN x) (cN x))) (nI (zl σ + cN x))) (putG σ x) :=
  ⟨R.1, R.2.1, R.2.2.1, R.2.2.2.1, rfl, fun i hi => ap_in R.2.2.2.2.2 hi⟩

set_option maxRecDepth 100000 in
set_option maxHeartbeats 4000000 in
theorem M_put (g : jG) (w : jW) (M : Ms) (σ : Sg) (S : SI σ) (R : MX M σ) (v : Int64)  : ConI g 1 yX3_put cX3_put 8 (some (.int)) [.ref (gr g 67), .long v] (mw g w M) (fun x w' => x = (spPut σ v).1 ∧ ∃ M', w' = mw g w M' ∧ MX M' (spPut σ v).2) := by
  refine con_of (by decide +kernel) (Nat.le_of_ble_eq_true rfl) [(0, _), (1, _)] rfl (fun K h => ?_)
  have h8 := cN_8 v
  have h8b : (sgG 8 v.toUInt64.toNat).1 = cN v := rfl
  have hL := S.2.2.2.2.1
  refine j_iconst h (q := 1) (0) dX3_put_0 rfl (by decide) ?_
  refine j_istore_n h (q := 2) (loc' := [(3, _), (0, _), (1, _)]) dX3_put_1 rfl (by decide) rfl ?_
  refine j_lload_n h (q := 3) 2 dX3_put_2 rfl rfl ?_
  refine j_lstore h (q := 5) (loc' := [(4, _), (3, _), (0, _), (1, _)]) dX3_put_3 rfl (by decide) rfl ?_
  refine j_iconst h (q := 6) (1) dX3_put_5 rfl (by decide) ?_
  refine j_istore h (q := 8) (loc' := [(6, _), (4, _), (3, _), (0, _), (1, _)]) dX3_put_6 rfl (by decide) rfl ?_
  refine j_sub [0, 1, 2, 3, 4] rfl ?_
  refine lp_putM g w M h v 8 0 v true rfl (fun r2 h2 => ?_)
  rw [Bool.true_and, Nat.zero_add]
  refine j_iload_n h (q := 68) 2 dX3_put_67 rfl rfl ?_
  refine j_if_eq h (tgt := 83) (q := 71) dX3_put_68 rfl (by decide) (fun c_68 => ?_) (fun c_68 => ?_)
  · rw [i_eqL (by omega) (by decide)] at c_68
    refine j_bipush h (q := 85) (-2) dX3_put_83 rfl (by decide) ?_
    refine j_iret h rfl dX3_put_85 ?_
    have hs : spPut σ v = (-2, σ) := if_neg (fun z => z.2 c_68)
    exact ⟨_, rfl, by rw [hs], M, rfl, by rw [hs]; exact R⟩
  · rw [i_eqL (by omega) (by decide)] at c_68
    refine j_iload h (q := 73) 0 dX3_put_71 rfl rfl ?_
    refine j_if_eq h (tgt := 83) (q := 76) dX3_put_73 rfl (by decide) (fun c_73 => ?_) (fun c_73 => ?_)
    · rw [b2i_0] at c_73
      refine j_bipush h (q := 85) (-2) dX3_put_83 rfl (by decide) ?_
      refine j_iret h rfl dX3_put_85 ?_
      have hs : spPut σ v = (-2, σ) := if_neg (fun z => by have z1 := z.1.1; rw [c_73] at z1; cases z1)
      exact ⟨_, rfl, by rw [hs], M, rfl, by rw [hs]; exact R⟩
    · rw [b2i_1] at c_73
      refine j_lload h (q := 78) 1 dX3_put_76 rfl rfl ?_
      refine j_lconst h (q := 79) 0 dX3_put_78 rfl (by decide) ?_
      refine j_lcmp h (q := 80) dX3_put_79 rfl ?_
      refine j_if_eq h (tgt := 86) (q := 83) dX3_put_80 rfl (by decide) (fun c_80 => ?_) (fun c_80 => ?_)
      · rw [by_z] at c_80
        refine j_aload_n h (q := 87) 3 dX3_put_86 rfl rfl ?_
        refine j_get h (q := 90) inX3 (C := RX3) (T := TX3) (N := 17) (ci := 3) rfl 7 (by decide) mF_X3_163 (by decide) (mw_0 _ _ _) rfl dX3_put_87 rfl ?_
        rw [show Mpl M = nI (zl σ) from R.2.2.2.2.1]
        refine j_iload_n h (q := 91) 2 dX3_put_90 rfl rfl ?_
        refine j_iadd h (q := 92) dX3_put_91 rfl ?_
        refine j_bipush h (q := 94) (60) dX3_put_92 rfl (by decide) ?_
        refine j_icmp_le h (tgt := 100) (q := 97) dX3_put_94 rfl (by decide) (fun c_94 => ?_) (fun c_94 => ?_)
        · rw [nI_add, i_leL (by omega) (by decide)] at c_94
          refine j_iload_n h (q := 101) 2 dX3_put_100 rfl rfl ?_
          refine j_iconst h (q := 102) (1) dX3_put_101 rfl (by decide) ?_
          refine j_isub h (q := 103) dX3_put_102 rfl ?_
          refine j_istore h (q := 105) (loc' := [(7, _), (6, _), (4, _), (3, _), (0, _), (1, _)]) dX3_put_103 rfl (by decide) rfl ?_
          refine j_sub [0, 1, 2, 3, 4, 5] rfl ?_
          have hs : spPut σ v = (nI (zl σ + cN v), putG σ v) := by unfold spPut; rw [if_pos ⟨⟨c_73, h2.symm.trans c_80⟩, c_68⟩, if_neg (by omega)]
          refine lp_putA g w M h v _ r2 _ (L := zl σ) (n := cN v) h8 (by omega) (fun l => ?_) (cN v) 0 M (Nat.zero_add _) (by rw [apR_0, Nat.add_zero, ← R.2.2.2.2.1])
          refine j_sub [4] rfl ?_
          refine j_aload_n h (q := 148) 0 dX3_put_147 rfl rfl ?_
          refine j_get h (q := 151) inX3 (C := RX3) (T := TX3) (N := 17) (ci := 3) rfl 7 (by decide) mF_X3_163 (by decide) (mw_0 _ _ _) rfl dX3_put_148 rfl ?_
          refine j_iret h rfl dX3_put_151 ?_
          exact ⟨_, rfl, by rw [hs], _, rfl, by rw [hs]; exact MX_put R v⟩
        · rw [nI_add, i_leL (by omega) (by decide)] at c_94
          refine j_bipush h (q := 99) (-4) dX3_put_97 rfl (by decide) ?_
          refine j_iret h rfl dX3_put_99 ?_
          have hs : spPut σ v = (-4, σ) := by unfold spPut; rw [if_pos ⟨⟨c_73, h2.symm.trans c_80⟩, c_68⟩, if_pos (by omega)]
          exact ⟨_, rfl, by rw [hs], M, rfl, by rw [hs]; exact R⟩
      · rw [by_z] at c_80
        refine j_bipush h (q := 85) (-2) dX3_put_83 rfl (by decide) ?_
        refine j_iret h rfl dX3_put_85 ?_
        have hs : spPut σ v = (-2, σ) := if_neg (fun z => c_80 (h2.trans z.1.2))
        exact ⟨_, rfl, by rw [hs], M, rfl, by rw [hs]; exact R⟩
