def pOf (s k : Nat) : Nat := if k < 13 then s else if k < 17 then 6 + 4 * s + k - 13 else 4 + s
def iOf (k : Nat) : Nat := if k < 13 then k else if k < 17 then 0 else k - 17
/-- k cards of the pack f lie for the side s; nothing else has changed -/
def DPM (st0 st : Nat → Int32) (s k : Nat) (f : Nat → Nat) : Prop :=
  (∀ j, j < k → st (f j) = nI (pOf s j) ∧ st (104 + f j) = nI (iOf j)) ∧ ∀ i, (∀ j, j < k → i ≠ f j ∧ i ≠ 104 + f j) → st i = st0 i
theorem DPM_s {st0 st : Nat → Int32} {s k : Nat} {f : Nat → Nat} (h : DPM st0 st s k f) (hk : k < 52) (hf : PK s f) (hs : s < 2) {a b : Int32} (ea : a = nI (pOf s k)) (eb : b = nI (iOf k)) : DPM st0 (upd (upd st (f k) a) (104 + f k) b) s (k + 1) f := by
  obtain ⟨h1, h2⟩ := h
  have hb := hf.1 k hk
  refine ⟨fun j hj => ?_, fun i hi => ?_⟩
  · by_cases z : j = k
    · subst z
      rw [pk_un (by omega), pk_us, pk_us, ea, eb]
      exact ⟨rfl, rfl⟩
    · have hj2 : j < k := by omega
      have hne : f j ≠ f k := fun e => z (hf.2.1 j k (by omega) hk e)
      have hbj := hf.1 j (by omega)
      rw [pk_un (by omega), pk_un hne, pk_un (by omega), pk_un (by omega)]
      exact h1 j hj2
  · have hik := hi k (Nat.lt_succ_self k)
    rw [pk_un hik.2, pk_un hik.1]
    exact h2 i (fun j hj => hi j (Nat.lt_succ_of_lt hj))

set_option maxRecDepth 100000 in
set_option maxHeartbeats 4000000 in
theorem lp_dealP (g : jG) (w : jW) (M : Ms) {K : jK} {Φ : Option Value → jW → Prop} (h : jH g K RX3 cX3_dealPack 4 none) {s : Nat} (hs : s < 2) {f : Nat → Nat} (hf : PK s f) (hp : ∀ j, j < 52 → Mpk M j = nI (f j)) (k : ∀ st l, DPM (Mst M) st s 52 f → J g 1 K 4 Φ 77 ([(2, .int (nI 52)), (0, .ref (gr g 67)), (1, .int (nI s))] ++ l) [] (mw g w (sst M st))) : ∀ n i st, i + n = 52 → DPM (Mst M) st s i f → J g 1 K 4 Φ 2 [(2, .int (nI i)), (0, .ref (gr g 67)), (1, .int (nI s))] [] (mw g w (sst M st)) := by
  intro n
  induction n with
  | zero =>
    intro i st hi hT
    have hiN : i = 52 := by omega
    subst hiN
    refine j_iload_n h (q := 3) 0 dX3_dealPack_2 rfl rfl ?_
    refine j_bipush h (q := 5) (52) dX3_dealPack_3 rfl (by decide) ?_
    refine j_icmp_ge h (tgt := 77) (q := 8) dX3_dealPack_5 rfl (by decide) (fun c_5 => ?_) (fun c_5 => ?_)
    rotate_left
    · exact absurd (show (52 : Int32) ≤ nI 52 by decide) c_5
    exact k st [] hT
  | succ n ih =>
    intro i st hi hT
    have hi52 : i < 52 := by omega
    have hc : f i < 104 := by have := hf.1 i hi52; omega
    refine j_iload_n h (q := 3) 0 dX3_dealPack_2 rfl rfl ?_
    refine j_bipush h (q := 5) (52) dX3_dealPack_3 rfl (by decide) ?_
    refine j_icmp_ge h (tgt := 77) (q := 8) dX3_dealPack_5 rfl (by decide) (fun c_5 => ?_) (fun c_5 => ?_)
    · exact absurd c_5 (by rw [i_Lle (by omega) (by omega)]; omega)
    refine j_aload_n h (q := 9) 1 dX3_dealPack_8 rfl rfl ?_
    refine j_get h (q := 12) inX3 (C := RX3) (T := TX3) (N := 17) (ci := 3) rfl 10 (by decide) mF_X3_34 (by decide) (mw_0 _ _ _) rfl dX3_dealPack_9 rfl ?_
    refine j_iload_n h (q := 13) 0 dX3_dealPack_12 rfl rfl ?_
    refine j_ldn h (q := 14) (i) (by decide) (mw_pk _ _ _) rfl hi52 (by decide) dX3_dealPack_13 rfl ?_
    rw [show Mpk (sst M st) i = nI (f i) from hp i hi52]
    refine j_istore_n h (q := 15) (loc' := [(3, _), (2, _), (0, _), (1, _)]) dX3_dealPack_14 rfl (by decide) rfl ?_
    refine j_iload_n h (q := 16) 1 dX3_dealPack_15 rfl rfl ?_
    refine j_bipush h (q := 18) (13) dX3_dealPack_16 rfl (by decide) ?_
    refine j_icmp_ge h (tgt := 33) (q := 21) dX3_dealPack_18 rfl (by decide) (fun c_18 => ?_) (fun c_18 => ?_)
    · rw [i_Lle (by omega) (by decide)] at c_18
      refine j_iload_n h (q := 34) 1 dX3_dealPack_33 rfl rfl ?_
      refine j_bipush h (q := 36) (17) dX3_dealPack_34 rfl (by decide) ?_
      refine j_icmp_ge h (tgt := 59) (q := 39) dX3_dealPack_36 rfl (by decide) (fun c_36 => ?_) (fun c_36 => ?_)
      · rw [i_Lle (by omega) (by decide)] at c_36
        refine j_aload_n h (q := 60) 2 dX3_dealPack_59 rfl rfl ?_
        refine j_iload_n h (q := 61) 0 dX3_dealPack_60 rfl rfl ?_
        refine j_iconst h (q := 62) (4) dX3_dealPack_61 rfl (by decide) ?_
        refine j_iload_n h (q := 63) 3 dX3_dealPack_62 rfl rfl ?_
        refine j_iadd h (q := 64) dX3_dealPack_63 rfl ?_
        refine j_iload_n h (q := 65) 1 dX3_dealPack_64 rfl rfl ?_
        refine j_bipush h (q := 67) (17) dX3_dealPack_65 rfl (by decide) ?_
        refine j_isub h (q := 68) dX3_dealPack_67 rfl ?_
        refine j_cV h (q := 71) (C := RX3) (T := TX3) (N := 17) (ci := 3) mo_X3_lay mI_X3_lay mV_X3_lay mL_X3_49 (m_lay g w (sst M st) rfl hc _ _) (by decide) (by decide) (mw_0 _ _ _) rfl rfl rfl (Nat.le_of_ble_eq_true rfl) dX3_dealPack_68 rfl ?_
        rintro _ w68 ⟨rfl, e⟩
        subst e
        refine j_iinc h (q := 74) (loc' := [(2, _), (3, _), (0, _), (1, _)]) 1 _ dX3_dealPack_71 rfl rfl rfl (by decide) rfl ?_
        refine j_goto h (tgt := 2) dX3_dealPack_74 (by decide) ?_
        rw [show nI i + Int32.ofInt 1 = nI (i + 1) from nI_1 i]
        refine j_sub [0, 2, 3] rfl ?_
        first
          | exact ih (i + 1) _ (by omega) (DPM_s hT hi52 hf hs (by rw [i_Ladd]; unfold pOf; rw [if_pos (by omega), Nat.zero_add]) (by unfold iOf; rw [if_pos (by omega)]))
          | exact ih (i + 1) _ (by omega) (DPM_s hT hi52 hf hs (by rw [i_Lmul, i_Ladd, nI_add, i_subL (by omega)]; unfold pOf; rw [if_neg (by omega), if_pos (by omega)]) (by unfold iOf; rw [if_neg (by omega), if_pos (by omega)]; rfl))
          | exact ih (i + 1) _ (by omega) (DPM_s hT hi52 hf hs (by rw [i_Ladd]; unfold pOf; rw [if_neg (by omega), if_neg (by omega)]) (by rw [i_subL (by omega)]; unfold iOf; rw [if_neg (by omega), if_neg (by omega)]))
      · rw [i_Lle (by omega) (by decide)] at c_36
        refine j_aload_n h (q := 40) 2 dX3_dealPack_39 rfl rfl ?_
        refine j_iload_n h (q := 41) 0 dX3_dealPack_40 rfl rfl ?_
        refine j_bipush h (q := 43) (6) dX3_dealPack_41 rfl (by decide) ?_
        refine j_iconst h (q := 44) (4) dX3_dealPack_43 rfl (by decide) ?_
        refine j_iload_n h (q := 45) 3 dX3_dealPack_44 rfl rfl ?_
        refine j_imul h (q := 46) dX3_dealPack_45 rfl ?_
        refine j_iadd h (q := 47) dX3_dealPack_46 rfl ?_
        refine j_iload_n h (q := 48) 1 dX3_dealPack_47 rfl rfl ?_
        refine j_iadd h (q := 49) dX3_dealPack_48 rfl ?_
        refine j_bipush h (q := 51) (13) dX3_dealPack_49 rfl (by decide) ?_
        refine j_isub h (q := 52) dX3_dealPack_51 rfl ?_
        refine j_iconst h (q := 53) (0) dX3_dealPack_52 rfl (by decide) ?_
        refine j_cV h (q := 56) (C := RX3) (T := TX3) (N := 17) (ci := 3) mo_X3_lay mI_X3_lay mV_X3_lay mL_X3_49 (m_lay g w (sst M st) rfl hc _ _) (by decide) (by decide) (mw_0 _ _ _) rfl rfl rfl (Nat.le_of_ble_eq_true rfl) dX3_dealPack_53 rfl ?_
        rintro _ w53 ⟨rfl, e⟩
        subst e
        refine j_goto h (tgt := 71) dX3_dealPack_56 (by decide) ?_
        refine j_iinc h (q := 74) (loc' := [(2, _), (3, _), (0, _), (1, _)]) 1 _ dX3_dealPack_71 rfl rfl rfl (by decide) rfl ?_
        refine j_goto h (tgt := 2) dX3_dealPack_74 (by decide) ?_
        rw [show nI i + Int32.ofInt 1 = nI (i + 1) from nI_1 i]
        refine j_sub [0, 2, 3] rfl ?_
        first
          | exact ih (i + 1) _ (by omega) (DPM_s hT hi52 hf hs (by rw [i_Ladd]; unfold pOf; rw [if_pos (by omega), Nat.zero_add]) (by unfold iOf; rw [if_pos (by omega)]))
          | exact ih (i + 1) _ (by omega) (DPM_s hT hi52 hf hs (by rw [i_Lmul, i_Ladd, nI_add, i_subL (by omega)]; unfold pOf; rw [if_neg (by omega), if_pos (by omega)]) (by unfold iOf; rw [if_neg (by omega), if_pos (by omega)]; rfl))
          | exact ih (i + 1) _ (by omega) (DPM_s hT hi52 hf hs (by rw [i_Ladd]; unfold pOf; rw [if_neg (by omega), if_neg (by omega)]) (by rw [i_subL (by omega)]; unfold iOf; rw [if_neg (by omega), if_neg (by omega)]))
    · rw [i_Lle (by omega) (by decide)] at c_18
      refine j_aload_n h (q := 22) 2 dX3_dealPack_21 rfl rfl ?_
      refine j_iload_n h (q := 23) 0 dX3_dealPack_22 rfl rfl ?_
      refine j_iconst h (q := 24) (0) dX3_dealPack_23 rfl (by decide) ?_
      refine j_iload_n h (q := 25) 3 dX3_dealPack_24 rfl rfl ?_
      refine j_iadd h (q := 26) dX3_dealPack_25 rfl ?_
      refine j_iload_n h (q := 27) 1 dX3_dealPack_26 rfl rfl ?_
      refine j_cV h (q := 30) (C := RX3) (T := TX3) (N := 17) (ci := 3) mo_X3_lay mI_X3_lay mV_X3_lay mL_X3_49 (m_lay g w (sst M st) rfl hc _ _) (by decide) (by decide) (mw_0 _ _ _) rfl rfl rfl (Nat.le_of_ble_eq_true rfl) dX3_dealPack_27 rfl ?_
      rintro _ w27 ⟨rfl, e⟩
      subst e
      refine j_goto h (tgt := 71) dX3_dealPack_30 (by decide) ?_
      refine j_iinc h (q := 74) (loc' := [(2, _), (3, _), (0, _), (1, _)]) 1 _ dX3_dealPack_71 rfl rfl rfl (by decide) rfl ?_
      refine j_goto h (tgt := 2) dX3_dealPack_74 (by decide) ?_
      rw [show nI i + Int32.ofInt 1 = nI (i + 1) from nI_1 i]
      refine j_sub [0, 2, 3] rfl ?_
      first
        | exact ih (i + 1) _ (by omega) (DPM_s hT hi52 hf hs (by rw [i_Ladd]; unfold pOf; rw [if_pos (by omega), Nat.zero_add]) (by unfold iOf; rw [if_pos (by omega)]))
        | exact ih (i + 1) _ (by omega) (DPM_s hT hi52 hf hs (by rw [i_Lmul, i_Ladd, nI_add, i_subL (by omega)]; unfold pOf; rw [if_neg (by omega), if_pos (by omega)]) (by unfold iOf; rw [if_neg (by omega), if_pos (by omega)]; rfl))
        | exact ih (i + 1) _ (by omega) (DPM_s hT hi52 hf hs (by rw [i_Ladd]; unfold pOf; rw [if_neg (by omega), if_neg (by omega)]) (by rw [i_subL (by omega)]; unfold iOf; rw [if_neg (by omega), if_neg (by omega)]))

set_option maxRecDepth 100000 in
set_option maxHeartbeats 4000000 in
theorem m_dealPack (g : jG) (w : jW) (M : Ms) {s : Nat} (hs : s < 2) {f : Nat → Nat} (hf : PK s f) (hp : ∀ j, j < 52 → Mpk M j = nI (f j))  : ConV g 1 yX3_dealPack cX3_dealPack 4 none [.ref (gr g 67), .int (nI s)] (mw g w M) (fun w' => ∃ st, w' = mw g w (sst M st) ∧ DPM (Mst M) st s 52 f) := by
  refine con_of (by decide +kernel) (Nat.le_of_ble_eq_true rfl) [(0, _), (1, _)] rfl (fun K h => ?_)
  refine j_iconst h (q := 1) (0) dX3_dealPack_0 rfl (by decide) ?_
  refine j_istore_n h (q := 2) (loc' := [(2, _), (0, _), (1, _)]) dX3_dealPack_1 rfl (by decide) rfl ?_
  refine lp_dealP g w M h hs hf hp (fun st l hT => ?_) 52 0 (Mst M) rfl ⟨fun j hj => absurd hj (Nat.not_lt_zero _), fun _ _ => rfl⟩
  refine j_vret h rfl dX3_dealPack_77 ?_
  exact ⟨rfl, st, rfl, hT⟩

set_option maxRecDepth 100000 in
set_option maxHeartbeats 4000000 in
theorem lp_dealA (g : jG) (w : jW) (M : Ms) {K : jK} {Φ : Option Value → jW → Prop} (h : jH g K RX3 cX3_deals 8 none) (a : Int32) (k : ∀ st, (∀ j, j < 224 → st j = 0) → J g 2 K 8 Φ 22 [(2, .int (nI 224)), (0, .ref (gr g 67)), (1, .int a)] [] (mw g w (sst M st))) : ∀ n i st, i + n = 224 → (∀ j, j < i → st j = 0) → J g 2 K 8 Φ 2 [(2, .int (nI i)), (0, .ref (gr g 67)), (1, .int a)] [] (mw g w (sst M st)) := by
  intro n
  induction n with
  | zero =>
    intro i st hi hT
    have hiN : i = 224 := by omega
    subst hiN
    refine j_iload_n h (q := 3) 0 dX3_deals_2 rfl rfl ?_
    refine j_sipush h (q := 6) (224) dX3_deals_3 rfl (by decide) ?_
    refine j_icmp_ge h (tgt := 22) (q := 9) dX3_deals_6 rfl (by decide) (fun c_6 => ?_) (fun c_6 => ?_)
    rotate_left
    · exact absurd (show (224 : Int32) ≤ nI 224 by decide) c_6
    exact k st hT
  | succ n ih =>
    intro i st hi hT
    refine j_iload_n h (q := 3) 0 dX3_deals_2 rfl rfl ?_
    refine j_sipush h (q := 6) (224) dX3_deals_3 rfl (by decide) ?_
    refine j_icmp_ge h (tgt := 22) (q := 9) dX3_deals_6 rfl (by decide) (fun c_6 => ?_) (fun c_6 => ?_)
    · exact absurd c_6 (by rw [i_Lle (by omega) (by omega)]; omega)
    refine j_aload_n h (q := 10) 1 dX3_deals_9 rfl rfl ?_
    refine j_get h (q := 13) inX3 (C := RX3) (T := TX3) (N := 17) (ci := 3) rfl 0 (by decide) mF_X3_7 (by decide) (mw_0 _ _ _) rfl dX3_deals_10 rfl ?_
    refine j_iload_n h (q := 14) 0 dX3_deals_13 rfl rfl ?_
    refine j_iconst h (q := 15) (0) dX3_deals_14 rfl (by decide) ?_
    refine j_stn h (q := 16) (i) (by decide) (mw_st _ _ _) rfl (by omega) (by decide) dX3_deals_15 rfl ?_
    refine j_stk rfl mw_ust ?_
    refine j_iinc h (q := 19) (loc' := [(2, _), (0, _), (1, _)]) 0 _ dX3_deals_16 rfl rfl rfl (by decide) rfl ?_
    refine j_goto h (tgt := 2) dX3_deals_19 (by decide) ?_
    rw [show nI i + Int32.ofInt 1 = nI (i + 1) from nI_1 i]
    refine ih (i + 1) _ (by omega) (fun j hj => ?_)
    show upd st i 0 j = 0
    by_cases z : j = i
    · rw [z, pk_us]
    · rw [pk_un z]; exact hT j (by omega)

set_option maxRecDepth 100000 in
set_option maxHeartbeats 4000000 in
theorem lp_dealB (g : jG) (w : jW) (M : Ms) {K : jK} {Φ : Option Value → jW → Prop} (h : jH g K RX3 cX3_deals 8 none) (a : Int32) (xx : Int64) {s : Nat} (hs : s < 2) (k : ∀ pk, (∀ j, j < 52 → pk j = nI (52 * s + j)) → J g 2 K 8 Φ 65 [(5, .int (nI 52)), (4, .int (nI s)), (2, .long (xx)), (0, .ref (gr g 67)), (1, .int a)] [] (mw g w (spk M pk))) : ∀ n i pk, i + n = 52 → (∀ j, j < i → pk j = nI (52 * s + j)) → J g 2 K 8 Φ 37 [(5, .int (nI i)), (4, .int (nI s)), (2, .long (xx)), (0, .ref (gr g 67)), (1, .int a)] [] (mw g w (spk M pk)) := by
  intro n
  induction n with
  | zero =>
    intro i pk hi hT
    have hiN : i = 52 := by omega
    subst hiN
    refine j_iload h (q := 39) 0 dX3_deals_37 rfl rfl ?_
    refine j_bipush h (q := 41) (52) dX3_deals_39 rfl (by decide) ?_
    refine j_icmp_ge h (tgt := 65) (q := 44) dX3_deals_41 rfl (by decide) (fun c_41 => ?_) (fun c_41 => ?_)
    rotate_left
    · exact absurd (show (52 : Int32) ≤ nI 52 by decide) c_41
    exact k pk hT
  | succ n ih =>
    intro i pk hi hT
    refine j_iload h (q := 39) 0 dX3_deals_37 rfl rfl ?_
    refine j_bipush h (q := 41) (52) dX3_deals_39 rfl (by decide) ?_
    refine j_icmp_ge h (tgt := 65) (q := 44) dX3_deals_41 rfl (by decide) (fun c_41 => ?_) (fun c_41 => ?_)
    · exact absurd c_41 (by rw [i_Lle (by omega) (by omega)]; omega)
    refine j_aload_n h (q := 45) 3 dX3_deals_44 rfl rfl ?_
    refine j_get h (q := 48) inX3 (C := RX3) (T := TX3) (N := 17) (ci := 3) rfl 10 (by decide) mF_X3_34 (by decide) (mw_0 _ _ _) rfl dX3_deals_45 rfl ?_
    refine j_iload h (q := 50) 0 dX3_deals_48 rfl rfl ?_
    refine j_bipush h (q := 52) (52) dX3_deals_50 rfl (by decide) ?_
    refine j_iload h (q := 54) 1 dX3_deals_52 rfl rfl ?_
    refine j_imul h (q := 55) dX3_deals_54 rfl ?_
    refine j_iload h (q := 57) 0 dX3_deals_55 rfl rfl ?_
    refine j_iadd h (q := 58) dX3_deals_57 rfl ?_
    rw [i_Lmul, nI_add]
    refine j_stn h (q := 59) (i) (by decide) (mw_pk _ _ _) rfl (by omega) (by decide) dX3_deals_58 rfl ?_
    refine j_stk rfl mw_upk ?_
    refine j_iinc h (q := 62) (loc' := [(5, _), (4, _), (2, _), (0, _), (1, _)]) 0 _ dX3_deals_59 rfl rfl rfl (by decide) rfl ?_
    refine j_goto h (tgt := 37) dX3_deals_62 (by decide) ?_
    rw [show nI i + Int32.ofInt 1 = nI (i + 1) from nI_1 i]
    refine ih (i + 1) _ (by omega) (fun j hj => ?_)
    show upd pk i (nI (52 * s + i)) j = nI (52 * s + j)
    by_cases z : j = i
    · rw [z, pk_us]
    · rw [pk_un z]; exact hT j (by omega)

set_option maxRecDepth 100000 in
set_option maxHeartbeats 4000000 in
theorem lp_dealC (g : jG) (w : jW) (M : Ms) {K : jK} {Φ : Option Value → jW → Prop} (h : jH g K RX3 cX3_deals 8 none) (a : Int32) {s : Nat} : ∀ k f x pk, k < 52 → x < 2147483648 → (∀ i, i < 52 → pk i = nI (f i)) → (∀ pk', (∀ i, i < 52 → pk' i = nI ((shufG k (f, x)).1 i)) → J g 2 K 8 Φ 140 [(5, .int (nI 0)), (4, .int (nI s)), (2, .long (lN (shufG k (f, x)).2)), (0, .ref (gr g 67)), (1, .int a)] [] (mw g w (spk M pk'))) → J g 2 K 8 Φ 69 [(5, .int (nI k)), (4, .int (nI s)), (2, .long (lN x)), (0, .ref (gr g 67)), (1, .int a)] [] (mw g w (spk M pk)) := by
  intro k
  induction k with
  | zero =>
    intro f x pk hk hx hraw kk
    refine j_iload h (q := 71) 0 dX3_deals_69 rfl rfl ?_
    refine j_if_le h (tgt := 140) (q := 74) dX3_deals_71 rfl (by decide) (fun c_71 => ?_) (fun c_71 => ?_)
    rotate_left
    · exact absurd (show nI 0 ≤ (0 : Int32) by decide) c_71
    exact kk pk hraw
  | succ k ih =>
    intro f x pk hk hx hraw kk
    refine j_iload h (q := 71) 0 dX3_deals_69 rfl rfl ?_
    refine j_if_le h (tgt := 140) (q := 74) dX3_deals_71 rfl (by decide) (fun c_71 => ?_) (fun c_71 => ?_)
    · exact absurd c_71 (by rw [i_leL (by omega) (by decide)]; omega)
    refine j_lload_n h (q := 75) 2 dX3_deals_74 rfl rfl ?_
    refine j_ldc2 h (q := 78) mK_X3_53 dX3_deals_75 rfl ?_
    refine j_lmul h (q := 79) dX3_deals_78 rfl ?_
    refine j_ldc2 h (q := 82) mK_X3_55 dX3_deals_79 rfl ?_
    refine j_ladd h (q := 83) dX3_deals_82 rfl ?_
    refine j_ldc2 h (q := 86) mK_X3_57 dX3_deals_83 rfl ?_
    refine j_lrem h (q := 87) dX3_deals_86 rfl (by decide) ?_
    rw [lcg_l hx]
    refine j_lstore_n h (q := 88) (loc' := [(2, _), (5, _), (4, _), (0, _), (1, _)]) dX3_deals_87 rfl (by decide) rfl ?_
    refine j_lload_n h (q := 89) 0 dX3_deals_88 rfl rfl ?_
    refine j_ldc2 h (q := 92) mK_X3_59 dX3_deals_89 rfl ?_
    refine j_ldiv h (q := 93) dX3_deals_92 rfl (by decide) ?_
    refine j_iload h (q := 95) 1 dX3_deals_93 rfl rfl ?_
    refine j_iconst h (q := 96) (1) dX3_deals_95 rfl (by decide) ?_
    refine j_iadd h (q := 97) dX3_deals_96 rfl ?_
    refine j_i2l h (q := 98) dX3_deals_97 rfl ?_
    rw [i_addL]
    refine j_lrem h (q := 99) dX3_deals_98 rfl (lN_ne (by omega)) ?_
    refine j_l2i h (q := 100) dX3_deals_99 rfl ?_
    rw [lcg_o (lcg_lt x) (by omega)]
    have ho : (lcg x / 65536 % (k + 1 + 1)) < 52 := by have := Nat.mod_lt (lcg x / 65536) (show k + 1 + 1 > 0 by omega); omega
    refine j_istore h (q := 102) (loc' := [(6, _), (2, _), (5, _), (4, _), (0, _), (1, _)]) dX3_deals_100 rfl (by decide) rfl ?_
    refine j_aload_n h (q := 103) 4 dX3_deals_102 rfl rfl ?_
    refine j_get h (q := 106) inX3 (C := RX3) (T := TX3) (N := 17) (ci := 3) rfl 10 (by decide) mF_X3_34 (by decide) (mw_0 _ _ _) rfl dX3_deals_103 rfl ?_
    refine j_iload h (q := 108) 2 dX3_deals_106 rfl rfl ?_
    refine j_ldn h (q := 109) (k + 1) (by decide) (mw_pk _ _ _) rfl (by omega) (by decide) dX3_deals_108 rfl ?_
    rw [show Mpk (spk M pk) (k + 1) = nI (f (k + 1)) from hraw _ (by omega)]
    refine j_istore h (q := 111) (loc' := [(7, _), (6, _), (2, _), (5, _), (4, _), (0, _), (1, _)]) dX3_deals_109 rfl (by decide) rfl ?_
    refine j_aload_n h (q := 112) 5 dX3_deals_111 rfl rfl ?_
    refine j_get h (q := 115) inX3 (C := RX3) (T := TX3) (N := 17) (ci := 3) rfl 10 (by decide) mF_X3_34 (by decide) (mw_0 _ _ _) rfl dX3_deals_112 rfl ?_
    refine j_iload h (q := 117) 3 dX3_deals_115 rfl rfl ?_
    refine j_aload_n h (q := 118) 5 dX3_deals_117 rfl rfl ?_
    refine j_get h (q := 121) inX3 (C := RX3) (T := TX3) (N := 17) (ci := 3) rfl 10 (by decide) mF_X3_34 (by decide) (mw_0 _ _ _) rfl dX3_deals_118 rfl ?_
    refine j_iload h (q := 123) 1 dX3_deals_121 rfl rfl ?_
    refine j_ldn h (q := 124) ((lcg x / 65536 % (k + 1 + 1))) (by decide) (mw_pk _ _ _) rfl ho (by decide) dX3_deals_123 rfl ?_
    rw [show Mpk (spk M pk) (lcg x / 65536 % (k + 1 + 1)) = nI (f (lcg x / 65536 % (k + 1 + 1))) from hraw _ ho]
    refine j_stn h (q := 125) (k + 1) (by decide) (mw_pk _ _ _) rfl (by omega) (by decide) dX3_deals_124 rfl ?_
    refine j_stk rfl mw_upk ?_
    refine j_aload_n h (q := 126) 5 dX3_deals_125 rfl rfl ?_
    refine j_get h (q := 129) inX3 (C := RX3) (T := TX3) (N := 17) (ci := 3) rfl 10 (by decide) mF_X3_34 (by decide) (mw_0 _ _ _) rfl dX3_deals_126 rfl ?_
    refine j_iload h (q := 131) 1 dX3_deals_129 rfl rfl ?_
    refine j_iload h (q := 133) 0 dX3_deals_131 rfl rfl ?_
    refine j_stn h (q := 134) ((lcg x / 65536 % (k + 1 + 1))) (by decide) (mw_pk _ _ _) rfl ho (by decide) dX3_deals_133 rfl ?_
    refine j_stk rfl mw_upk ?_
    refine j_iinc h (q := 137) (loc' := [(5, _), (7, _), (6, _), (2, _), (4, _), (0, _), (1, _)]) 3 _ dX3_deals_134 rfl rfl rfl (by decide) rfl ?_
    refine j_goto h (tgt := 69) dX3_deals_137 (by decide) ?_
    rw [show nI (k + 1) + Int32.ofInt (-1) = nI k from nI_m1 (Nat.succ_pos k)]
    refine j_sub [0, 4, 3, 5, 6] rfl ?_
    refine ih (swapF f (k + 1) (lcg x / 65536 % (k + 1 + 1))) (lcg x) _ (by omega) (lcg_lt x) (fun i hi => ?_) kk
    show upd (upd pk (k + 1) (nI (f (lcg x / 65536 % (k + 1 + 1))))) (lcg x / 65536 % (k + 1 + 1)) (nI (f (k + 1))) i = nI (swapF f (k + 1) (lcg x / 65536 % (k + 1 + 1)) i)
    unfold upd swapF
    by_cases z : i = (lcg x / 65536 % (k + 1 + 1))
    · rw [if_pos z, if_pos z]
    · rw [if_neg z, if_neg z]
      by_cases z2 : i = k + 1
      · rw [if_pos z2, if_pos z2]
      · rw [if_neg z2, if_neg z2]; exact hraw i hi
