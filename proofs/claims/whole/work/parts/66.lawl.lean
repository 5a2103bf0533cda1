set_option maxHeartbeats 4000000 in
set_option maxRecDepth 100000 in
/-- the law's loop -/
theorem law_loop {g : jG} {K : jK} {Q : State → Prop} {b L : Nat} {xs : Nat → Int32} (h : jH g K RL cL_law 4 (some .boolean)) (hX : jX g K b L xs) (hL : L ≤ 1536) (hend : ∀ loc w, JN g room_1 K 4 Q 662 loc [.int 1] w 77 9596) :
    ∀ n i (σ : Sg) (X : Xs) (M : Ms), i ≤ 2000 → L + 3 ≤ i + 3 * n → SI σ → XR X σ → MX M σ → JN g room_1 K 4 Q 18 (LOC g b i) [] (mw g (xw g DW X) M) 77 9596 := by
  intro n
  induction n with
  | zero =>
    intro i σ X M hi hin S RX RM
    refine n_iload_n h (q := 19) 0 rfl dL_law_18 rfl ?_
    refine n_aload_n h (q := 20) 3 rfl dL_law_19 rfl ?_
    refine n_slen h hX (q := 21) dL_law_20 rfl ?_
    refine n_iconst h (q := 22) (nI 3) (by decide) dL_law_21 rfl ?_
    refine n_isub h (q := 23) dL_law_22 rfl ?_
    refine n_icmp_gt h (tgt := 661) (q := 26) dL_law_23 rfl (by decide) (fun c1 => ?_) (fun c1 => ?_)
    · refine n_iconst h (q := 662) (1) (by decide) dL_law_661 rfl ?_
      exact hend _ _
    · exact absurd ((law_gt hi hL).mpr (by omega)) c1
  | succ n ih =>
    intro i σ X M hi hin S RX RM
    refine n_iload_n h (q := 19) 0 rfl dL_law_18 rfl ?_
    refine n_aload_n h (q := 20) 3 rfl dL_law_19 rfl ?_
    refine n_slen h hX (q := 21) dL_law_20 rfl ?_
    refine n_iconst h (q := 22) (nI 3) (by decide) dL_law_21 rfl ?_
    refine n_isub h (q := 23) dL_law_22 rfl ?_
    refine n_icmp_gt h (tgt := 661) (q := 26) dL_law_23 rfl (by decide) (fun c1 => ?_) (fun c1 => ?_)
    · refine n_iconst h (q := 662) (1) (by decide) dL_law_661 rfl ?_
      exact hend _ _
    have hi3 : i + 3 ≤ L := Decidable.byContradiction (fun z => c1 ((law_gt hi hL).mpr z))
    have kk : ∀ (σ' : Sg) (X' : Xs) (M' : Ms), SI σ' → XR X' σ' → MX M' σ' → JN g room_1 K 4 Q 655 (LOC g b i) [] (mw g (xw g DW X') M') 77 9596 := by
      intro σ' X' M' S' RX' RM'
      refine n_iinc h (q := 658) (a := 3) 0 (nI (i + 3)) rfl (show nI i + Int32.ofInt 3 = nI (i + 3) from nI_add i 3) (by decide) rfl dL_law_655 rfl ?_
      refine n_goto h (tgt := 18) dL_law_658 (by decide) ?_
      exact ih (i + 3) σ' X' M' (by omega) (by omega) S' RX' RM'
    refine n_aload_n h (q := 27) 3 rfl dL_law_26 rfl ?_
    refine n_iload_n h (q := 28) 0 rfl dL_law_27 rfl ?_
    refine n_sld h hX (q := 29) (vp_in_nI (show i < L by omega) (by omega)) dL_law_28 rfl ?_
    refine n_bipush h (q := 31) (31) (by decide) dL_law_29 rfl ?_
    refine n_iand h (q := 32) dL_law_31 rfl ?_
    generalize xs (nI i).toNatClampNeg &&& 31 = v
    by_cases hv : 0 ≤ v.toInt ∧ v.toInt ≤ 20
    · obtain ⟨h0, h20⟩ := hv
      rcases (show v.toInt = 0 ∨ v.toInt = 1 ∨ v.toInt = 2 ∨ v.toInt = 3 ∨ v.toInt = 4 ∨ v.toInt = 5 ∨ v.toInt = 6 ∨ v.toInt = 7 ∨ v.toInt = 8 ∨ v.toInt = 9 ∨ v.toInt = 10 ∨ v.toInt = 11 ∨ v.toInt = 12 ∨ v.toInt = 13 ∨ v.toInt = 14 ∨ v.toInt = 15 ∨ v.toInt = 16 ∨ v.toInt = 17 ∨ v.toInt = 18 ∨ v.toInt = 19 ∨ v.toInt = 20 by omega) with hk | hk | hk | hk | hk | hk | hk | hk | hk | hk | hk | hk | hk | hk | hk | hk | hk | hk | hk | hk | hk
      · exact n_tableIn h (off := 100) (tgt := 132) dL_law_32 (by rw [hk]; decide) (by rw [hk]; decide) (by rw [hk]; rfl) (by decide) (lc_deal h hX hL hi3 S RX RM kk)
      · exact n_tableIn h (off := 123) (tgt := 155) dL_law_32 (by rw [hk]; decide) (by rw [hk]; decide) (by rw [hk]; rfl) (by decide) (lc_move h hX hL hi3 S RX RM kk)
      · exact n_tableIn h (off := 156) (tgt := 188) dL_law_32 (by rw [hk]; decide) (by rw [hk]; decide) (by rw [hk]; rfl) (by decide) (lc_draw h hX hL hi3 S RX RM kk)
      · exact n_tableIn h (off := 169) (tgt := 201) dL_law_32 (by rw [hk]; decide) (by rw [hk]; decide) (by rw [hk]; rfl) (by decide) (lc_freeze h hX hL hi3 S RX RM kk)
      · exact n_tableIn h (off := 192) (tgt := 224) dL_law_32 (by rw [hk]; decide) (by rw [hk]; decide) (by rw [hk]; rfl) (by decide) (lc_play h hX hL hi3 S RX RM kk)
      · exact n_tableIn h (off := 215) (tgt := 247) dL_law_32 (by rw [hk]; decide) (by rw [hk]; decide) (by rw [hk]; rfl) (by decide) (lc_playAll h hX hL hi3 S RX RM kk)
      · exact n_tableIn h (off := 228) (tgt := 260) dL_law_32 (by rw [hk]; decide) (by rw [hk]; decide) (by rw [hk]; rfl) (by decide) (lc_pile h hX hL hi3 S RX RM kk)
      · exact n_tableIn h (off := 261) (tgt := 293) dL_law_32 (by rw [hk]; decide) (by rw [hk]; decide) (by rw [hk]; rfl) (by decide) (lc_card h hX hL hi3 S RX RM kk)
      · exact n_tableIn h (off := 294) (tgt := 326) dL_law_32 (by rw [hk]; decide) (by rw [hk]; decide) (by rw [hk]; rfl) (by decide) (lc_where h hX hL hi3 S RX RM kk)
      · exact n_tableIn h (off := 327) (tgt := 359) dL_law_32 (by rw [hk]; decide) (by rw [hk]; decide) (by rw [hk]; rfl) (by decide) (lc_side h hX hL hi3 S RX RM kk)
      · exact n_tableIn h (off := 360) (tgt := 392) dL_law_32 (by rw [hk]; decide) (by rw [hk]; decide) (by rw [hk]; rfl) (by decide) (lc_count h hX hL hi3 S RX RM kk)
      · exact n_tableIn h (off := 383) (tgt := 415) dL_law_32 (by rw [hk]; decide) (by rw [hk]; decide) (by rw [hk]; rfl) (by decide) (lc_ofMove h hX hL hi3 S RX RM kk)
      · exact n_tableIn h (off := 416) (tgt := 448) dL_law_32 (by rw [hk]; decide) (by rw [hk]; decide) (by rw [hk]; rfl) (by decide) (lc_best h hX hL hi3 S RX RM kk)
      · exact n_tableIn h (off := 429) (tgt := 461) dL_law_32 (by rw [hk]; decide) (by rw [hk]; decide) (by rw [hk]; rfl) (by decide) (lc_ifPlayed h hX hL hi3 S RX RM kk)
      · exact n_tableIn h (off := 462) (tgt := 494) dL_law_32 (by rw [hk]; decide) (by rw [hk]; decide) (by rw [hk]; rfl) (by decide) (lc_buried h hX hL hi3 S RX RM kk)
      · exact n_tableIn h (off := 485) (tgt := 517) dL_law_32 (by rw [hk]; decide) (by rw [hk]; decide) (by rw [hk]; rfl) (by decide) (lc_put h hX hL hi3 S RX RM kk)
      · exact n_tableIn h (off := 538) (tgt := 570) dL_law_32 (by rw [hk]; decide) (by rw [hk]; decide) (by rw [hk]; rfl) (by decide) (lc_wipe h hX hL hi3 S RX RM kk)
      · exact n_tableIn h (off := 551) (tgt := 583) dL_law_32 (by rw [hk]; decide) (by rw [hk]; decide) (by rw [hk]; rfl) (by decide) (lc_fault h hX hL hi3 S RX RM kk)
      · exact n_tableIn h (off := 564) (tgt := 596) dL_law_32 (by rw [hk]; decide) (by rw [hk]; decide) (by rw [hk]; rfl) (by decide) (lc_undo h hX hL hi3 S RX RM kk)
      · exact n_tableIn h (off := 577) (tgt := 609) dL_law_32 (by rw [hk]; decide) (by rw [hk]; decide) (by rw [hk]; rfl) (by decide) (lc_save h hX hL hi3 S RX RM kk)
      · exact n_tableIn h (off := 600) (tgt := 632) dL_law_32 (by rw [hk]; decide) (by rw [hk]; decide) (by rw [hk]; rfl) (by decide) (lc_restore h hX hL hi3 S RX RM kk)
    · exact n_tableOut h (tgt := 655) dL_law_32 (by omega) (by decide) (kk σ X M S RX RM)
