/-! the law: its loop and its start -/
theorem law_loop {Λ : kL} {X : kX} {Z : State → Prop} (hok : kOK Λ) (hX : kXo Λ) (hSt : kSt Λ) (hSh : kSh Λ) (hJ : kJd Λ) {b n : Nat} {xs : Nat → Int32} (hscr : va_T .int b n (fun j => .int (xs j)) (kA Λ) (kS Λ) (kS Λ).heap) (hn : n ≤ 3072) {S : Nat → Nat} {m : Nat} {Am : Nat → Nat} {ou : Nat} (hS : cInj S) (hA : mInj Am) (hsep : sepS S m Am ou) (hend : ∀ (bc bs : Nat) (σ : kh) (L : List (Option Value)), J Λ X mL_law 601024 7293034 Z bc bs σ 1099 L [.int 1]) : ∀ (k0 t : Nat) (σ : kh) (G : Nat → kc) (D : kh) (I : Nat → Int32) (F : Nat → Nat → Int32) (f : Nat → Int64) (N : Nat → Int32) (B : Nat → List Int32) (T R : Nat → List (List Int32)), t + k0 = 512 → lwI Λ S m Am ou σ G D I F f N B T R → J Λ X mL_law 601024 7293034 Z (8 * k0) (5200 * k0) σ 23 [some (.ref b), some (.ref (S 0)), some (.ref m), some (.ref ou), some (.int (nI (6 * t))), none, none] [] := by
  intro k0
  induction k0 using Nat.strongRecOn with
  | ind k0 ih =>
    intro t σ G D I F f N B T R ht hI
    refine J.iload dL_law_23 rfl ?_
    refine J.aload_nR dL_law_25 rfl ?_
    refine J.tlen dL_law_26 hscr ?_
    refine J.bipush (v := 6) dL_law_27 (by decide) ?_
    refine J.isub dL_law_29 ?_
    refine J.icmp_gt (tgt := 1098) dL_law_30 (by decide) (fun c_30 => ?_) (fun c_30 => ?_)
    · skip
      refine J.iconst (v := 1) dL_law_1098 (by decide) ?_
      exact hend _ _ _ _
    · skip
      have h6 := lw_in hn (by omega) c_30
      obtain ⟨k, rfl⟩ : ∃ k, k0 = k + 1 := ⟨k0 - 1, by omega⟩
      refine J.less (bc' := 8 * k + 8) (bs' := 5200 * k + 5200) (by omega) (by omega) ?_
      have hc : ∀ (σ' : kh) (G' : Nat → kc) (D' : kh) (I' : Nat → Int32) (F' : Nat → Nat → Int32) (f' : Nat → Int64) (N' : Nat → Int32) (B' : Nat → List Int32) (T' R' : Nat → List (List Int32)), lwI Λ S m Am ou σ' G' D' I' F' f' N' B' T' R' → J Λ X mL_law 601024 7293034 Z (8 * k) (5200 * k) σ' 1092 [some (.ref b), some (.ref (S 0)), some (.ref m), some (.ref ou), some (.int (nI (6 * t))), none, none] [] := by
        intro σ' G' D' I' F' f' N' B' T' R' hI'
        refine J.iinc (v := nI (6 * (t + 1))) (L' := [some (.ref b), some (.ref (S 0)), some (.ref m), some (.ref ou), some (.int (nI (6 * (t + 1)))), none, none]) dL_law_1092 rfl (nI_ad (6 * t) 6) (by decide) rfl rfl ?_
        refine J.goto (tgt := 23) dL_law_1095 (by decide) ?_
        exact ih k (by omega) (t + 1) σ' G' D' I' F' f' N' B' T' R' (by omega) hI'
      refine J.aload_nR dL_law_33 rfl ?_
      refine J.iload dL_law_34 rfl ?_
      refine J.ti (j := 6 * t) dL_law_36 hscr rfl (by omega) (by omega) ?_
      refine J.bipush (v := 31) dL_law_37 (by decide) ?_
      refine J.iand dL_law_39 ?_
      by_cases sw_40 : ((xs (6 * t)) &&& 31).toInt < 0 ∨ 20 < ((xs (6 * t)) &&& 31).toInt
      · refine J.tableOut (tgt := 1092) dL_law_40 sw_40 (by decide) ?_
        refine J.less (bc' := 8 * k) (bs' := 5200 * k) (by omega) (by omega) ?_
        exact hc _ _ _ _ _ _ _ _ _ _ hI
      by_cases sw_40_0 : ((xs (6 * t)) &&& 31) = 0
      · refine J.tableIn (off := 100) (tgt := 140) dL_law_40 (by rw [sw_40_0]; decide) (by rw [sw_40_0]; decide) (by rw [sw_40_0]; rfl) (by decide) ?_
        exact lc_feed hok hX hSt hSh hJ hscr hn hS hA hsep hc hI h6
      by_cases sw_40_1 : ((xs (6 * t)) &&& 31) = 1
      · refine J.tableIn (off := 173) (tgt := 213) dL_law_40 (by rw [sw_40_1]; decide) (by rw [sw_40_1]; decide) (by rw [sw_40_1]; rfl) (by decide) ?_
        exact lc_end hok hX hSt hSh hJ hscr hn hS hA hsep hc hI h6
      by_cases sw_40_2 : ((xs (6 * t)) &&& 31) = 2
      · refine J.tableIn (off := 198) (tgt := 238) dL_law_40 (by rw [sw_40_2]; decide) (by rw [sw_40_2]; decide) (by rw [sw_40_2]; rfl) (by decide) ?_
        exact lc_again hok hX hSt hSh hJ hscr hn hS hA hsep hc hI h6
      by_cases sw_40_3 : ((xs (6 * t)) &&& 31) = 3
      · refine J.tableIn (off := 235) (tgt := 275) dL_law_40 (by rw [sw_40_3]; decide) (by rw [sw_40_3]; decide) (by rw [sw_40_3]; rfl) (by decide) ?_
        exact lc_scope hok hX hSt hSh hJ hscr hn hS hA hsep hc hI h6
      by_cases sw_40_4 : ((xs (6 * t)) &&& 31) = 4
      · refine J.tableIn (off := 279) (tgt := 319) dL_law_40 (by rw [sw_40_4]; decide) (by rw [sw_40_4]; decide) (by rw [sw_40_4]; rfl) (by decide) ?_
        exact lc_client hok hX hSt hSh hJ hscr hn hS hA hsep hc hI h6
      by_cases sw_40_5 : ((xs (6 * t)) &&& 31) = 5
      · refine J.tableIn (off := 391) (tgt := 431) dL_law_40 (by rw [sw_40_5]; decide) (by rw [sw_40_5]; decide) (by rw [sw_40_5]; rfl) (by decide) ?_
        exact lc_redirect hok hX hSt hSh hJ hscr hn hS hA hsep hc hI h6
      by_cases sw_40_6 : ((xs (6 * t)) &&& 31) = 6
      · refine J.tableIn (off := 447) (tgt := 487) dL_law_40 (by rw [sw_40_6]; decide) (by rw [sw_40_6]; decide) (by rw [sw_40_6]; rfl) (by decide) ?_
        exact lc_lives hok hX hSt hSh hJ hscr hn hS hA hsep hc hI h6
      by_cases sw_40_7 : ((xs (6 * t)) &&& 31) = 7
      · refine J.tableIn (off := 507) (tgt := 547) dL_law_40 (by rw [sw_40_7]; decide) (by rw [sw_40_7]; decide) (by rw [sw_40_7]; rfl) (by decide) ?_
        exact lc_dice hok hX hSt hSh hJ hscr hn hS hA hsep hc hI h6
      by_cases sw_40_8 : ((xs (6 * t)) &&& 31) = 8
      · refine J.tableIn (off := 568) (tgt := 608) dL_law_40 (by rw [sw_40_8]; decide) (by rw [sw_40_8]; decide) (by rw [sw_40_8]; rfl) (by decide) ?_
        exact lc_tick hok hX hSt hSh hJ hscr hn hS hA hsep hc hI h6
      by_cases sw_40_9 : ((xs (6 * t)) &&& 31) = 9
      · refine J.tableIn (off := 624) (tgt := 664) dL_law_40 (by rw [sw_40_9]; decide) (by rw [sw_40_9]; decide) (by rw [sw_40_9]; rfl) (by decide) ?_
        exact lc_authorize hok hX hSt hSh hJ hscr hn hS hA hsep hc hI h6
      by_cases sw_40_10 : ((xs (6 * t)) &&& 31) = 10
      · refine J.tableIn (off := 637) (tgt := 677) dL_law_40 (by rw [sw_40_10]; decide) (by rw [sw_40_10]; decide) (by rw [sw_40_10]; rfl) (by decide) ?_
        exact lc_consent hok hX hSt hSh hJ hscr hn hS hA hsep hc hI h6
      by_cases sw_40_11 : ((xs (6 * t)) &&& 31) = 11
      · refine J.tableIn (off := 745) (tgt := 785) dL_law_40 (by rw [sw_40_11]; decide) (by rw [sw_40_11]; decide) (by rw [sw_40_11]; rfl) (by decide) ?_
        exact lc_token hok hX hSt hSh hJ hscr hn hS hA hsep hc hI h6
      by_cases sw_40_12 : ((xs (6 * t)) &&& 31) = 12
      · refine J.tableIn (off := 758) (tgt := 798) dL_law_40 (by rw [sw_40_12]; decide) (by rw [sw_40_12]; decide) (by rw [sw_40_12]; rfl) (by decide) ?_
        exact lc_revoke hok hX hSt hSh hJ hscr hn hS hA hsep hc hI h6
      by_cases sw_40_13 : ((xs (6 * t)) &&& 31) = 13
      · refine J.tableIn (off := 771) (tgt := 811) dL_law_40 (by rw [sw_40_13]; decide) (by rw [sw_40_13]; decide) (by rw [sw_40_13]; rfl) (by decide) ?_
        exact lc_check hok hX hSt hSh hJ hscr hn hS hA hsep hc hI h6
      by_cases sw_40_14 : ((xs (6 * t)) &&& 31) = 14
      · refine J.tableIn (off := 827) (tgt := 867) dL_law_40 (by rw [sw_40_14]; decide) (by rw [sw_40_14]; decide) (by rw [sw_40_14]; rfl) (by decide) ?_
        exact lc_status hok hX hSt hSh hJ hscr hn hS hA hsep hc hI h6
      by_cases sw_40_15 : ((xs (6 * t)) &&& 31) = 15
      · refine J.tableIn (off := 840) (tgt := 880) dL_law_40 (by rw [sw_40_15]; decide) (by rw [sw_40_15]; decide) (by rw [sw_40_15]; rfl) (by decide) ?_
        exact lc_error hok hX hSt hSh hJ hscr hn hS hA hsep hc hI h6
      by_cases sw_40_16 : ((xs (6 * t)) &&& 31) = 16
      · refine J.tableIn (off := 853) (tgt := 893) dL_law_40 (by rw [sw_40_16]; decide) (by rw [sw_40_16]; decide) (by rw [sw_40_16]; rfl) (by decide) ?_
        exact lc_out hok hX hSt hSh hJ hscr hn hS hA hsep hc hI h6
      by_cases sw_40_17 : ((xs (6 * t)) &&& 31) = 17
      · refine J.tableIn (off := 878) (tgt := 918) dL_law_40 (by rw [sw_40_17]; decide) (by rw [sw_40_17]; decide) (by rw [sw_40_17]; rfl) (by decide) ?_
        exact lc_outs hok hX hSt hSh hJ hscr hn hS hA hsep hc hI h6
      by_cases sw_40_18 : ((xs (6 * t)) &&& 31) = 18
      · refine J.tableIn (off := 891) (tgt := 931) dL_law_40 (by rw [sw_40_18]; decide) (by rw [sw_40_18]; decide) (by rw [sw_40_18]; rfl) (by decide) ?_
        exact lc_code hok hX hSt hSh hJ hscr hn hS hA hsep hc hI h6
      by_cases sw_40_19 : ((xs (6 * t)) &&& 31) = 19
      · refine J.tableIn (off := 959) (tgt := 999) dL_law_40 (by rw [sw_40_19]; decide) (by rw [sw_40_19]; decide) (by rw [sw_40_19]; rfl) (by decide) ?_
        exact lc_family hok hX hSt hSh hJ hscr hn hS hA hsep hc hI h6
      by_cases sw_40_20 : ((xs (6 * t)) &&& 31) = 20
      · refine J.tableIn (off := 1027) (tgt := 1067) dL_law_40 (by rw [sw_40_20]; decide) (by rw [sw_40_20]; decide) (by rw [sw_40_20]; rfl) (by decide) ?_
        exact lc_count hok hX hSt hSh hJ hscr hn hS hA hsep hc hI h6
      exact absurd (show ((xs (6 * t)) &&& 31).toInt < 0 ∨ 20 < ((xs (6 * t)) &&& 31).toInt by have n_0 : ¬ ((xs (6 * t)) &&& 31).toInt = 0 := fun q => sw_40_0 (i32_eq.mpr (q.trans (by decide))); have n_1 : ¬ ((xs (6 * t)) &&& 31).toInt = 1 := fun q => sw_40_1 (i32_eq.mpr (q.trans (by decide))); have n_2 : ¬ ((xs (6 * t)) &&& 31).toInt = 2 := fun q => sw_40_2 (i32_eq.mpr (q.trans (by decide))); have n_3 : ¬ ((xs (6 * t)) &&& 31).toInt = 3 := fun q => sw_40_3 (i32_eq.mpr (q.trans (by decide))); have n_4 : ¬ ((xs (6 * t)) &&& 31).toInt = 4 := fun q => sw_40_4 (i32_eq.mpr (q.trans (by decide))); have n_5 : ¬ ((xs (6 * t)) &&& 31).toInt = 5 := fun q => sw_40_5 (i32_eq.mpr (q.trans (by decide))); have n_6 : ¬ ((xs (6 * t)) &&& 31).toInt = 6 := fun q => sw_40_6 (i32_eq.mpr (q.trans (by decide))); have n_7 : ¬ ((xs (6 * t)) &&& 31).toInt = 7 := fun q => sw_40_7 (i32_eq.mpr (q.trans (by decide))); have n_8 : ¬ ((xs (6 * t)) &&& 31).toInt = 8 := fun q => sw_40_8 (i32_eq.mpr (q.trans (by decide))); have n_9 : ¬ ((xs (6 * t)) &&& 31).toInt = 9 := fun q => sw_40_9 (i32_eq.mpr (q.trans (by decide))); have n_10 : ¬ ((xs (6 * t)) &&& 31).toInt = 10 := fun q => sw_40_10 (i32_eq.mpr (q.trans (by decide))); have n_11 : ¬ ((xs (6 * t)) &&& 31).toInt = 11 := fun q => sw_40_11 (i32_eq.mpr (q.trans (by decide))); have n_12 : ¬ ((xs (6 * t)) &&& 31).toInt = 12 := fun q => sw_40_12 (i32_eq.mpr (q.trans (by decide))); have n_13 : ¬ ((xs (6 * t)) &&& 31).toInt = 13 := fun q => sw_40_13 (i32_eq.mpr (q.trans (by decide))); have n_14 : ¬ ((xs (6 * t)) &&& 31).toInt = 14 := fun q => sw_40_14 (i32_eq.mpr (q.trans (by decide))); have n_15 : ¬ ((xs (6 * t)) &&& 31).toInt = 15 := fun q => sw_40_15 (i32_eq.mpr (q.trans (by decide))); have n_16 : ¬ ((xs (6 * t)) &&& 31).toInt = 16 := fun q => sw_40_16 (i32_eq.mpr (q.trans (by decide))); have n_17 : ¬ ((xs (6 * t)) &&& 31).toInt = 17 := fun q => sw_40_17 (i32_eq.mpr (q.trans (by decide))); have n_18 : ¬ ((xs (6 * t)) &&& 31).toInt = 18 := fun q => sw_40_18 (i32_eq.mpr (q.trans (by decide))); have n_19 : ¬ ((xs (6 * t)) &&& 31).toInt = 19 := fun q => sw_40_19 (i32_eq.mpr (q.trans (by decide))); have n_20 : ¬ ((xs (6 * t)) &&& 31).toInt = 20 := fun q => sw_40_20 (i32_eq.mpr (q.trans (by decide))); omega) sw_40

theorem mR_00 : mR I00 (fun _ _ => 0) N00 (fun _ => []) (fun _ => []) (fun _ => []) := by
  refine ⟨⟨rfl, rfl, fun _ => rfl⟩, ⟨rfl, rfl⟩, ⟨rfl, rfl, rfl, rfl, rfl, rfl⟩, ⟨rfl, no0⟩, ⟨rfl, no0, no0, no0, no0, no0⟩, fun c hc => ?_, ⟨rfl, ?_, rfl, ?_⟩, ⟨rfl, no0, no0, no0, no0, no0, rfl, rfl, no0⟩, ⟨rfl, no0, no0, no0, no0, no0, no0⟩, ⟨rfl, no0, no0, no0, no0, no0, fun _ _ => ⟨rfl, rfl⟩⟩, ⟨rfl, no0, no0, no0, no0, no0, fun _ _ => rfl, rfl, no0, no0, no0, no0, fun _ _ => rfl⟩⟩
  · exact ⟨rfl, Nat.zero_le _, no0⟩
  · exact no0
  · exact no0
theorem wf_00 : wf N00 (fun _ => []) (fun _ => []) (fun _ => []) ∧ wfs (fun _ => []) := by
  refine ⟨⟨⟨Nat.zero_le _, bts_nil, Nat.zero_le _, bts_nil⟩, ⟨600, by decide, by decide, rfl⟩, ⟨Nat.zero_le _, fun i j h => absurd h (Nat.not_lt_zero i), no0⟩, ⟨Nat.zero_le _, fun i j h => absurd h (Nat.not_lt_zero i), rfl, rfl, no0, no0, no0, no0, no0⟩, fun c => ⟨Nat.zero_le _, fun _ => rfl, no0⟩, ⟨Nat.zero_le _, fun d h => absurd h List.not_mem_nil, fun d h => absurd h List.not_mem_nil, fun i j h => absurd h (Nat.not_lt_zero i), rfl⟩, ⟨Nat.zero_le _, rfl, rfl, no0, no0, no0, no0⟩, ⟨Nat.zero_le _, no0, no0, no0, Nat.zero_le _⟩, ⟨no0, no0⟩, ⟨Nat.zero_le _, no0, no0, no0, Nat.zero_le _, no0, no0, no0⟩, ⟨rfl, no0, no0, no0, no0⟩, ⟨no0, no0, no0, no0, no0, no0⟩⟩, no0, no0, no0⟩

theorem law_start {Λ : kL} {X : kX} {Z : State → Prop} (hok : kOK Λ) (hX : kXo Λ) {b n : Nat} {xs : Nat → Int32} (hscr : va_T .int b n (fun j => .int (xs j)) (kA Λ) (kS Λ) (kS Λ).heap) (hn : n ≤ 3072) (hend : ∀ (bc bs : Nat) (σ : kh) (L : List (Option Value)), J Λ X mL_law 601024 7293034 Z bc bs σ 1099 L [.int 1]) : J Λ X mL_law 601024 7293034 Z 601024 7293034 (fun _ => none) 0 [some (.ref b), none, none, none, none, none, none] [] := by
  have hSt := kSt_of hok
  have hSh := kSh_of hok
  have hJ := kJd_of hok
  refine J.less (bc' := 600000 + 1) (bs' := 7200000 + 18) (by omega) (by omega) ?_
  refine J.new dL_law_0 nw_L_8 (fun q1 hb1 hl1 => ?_)
  refine J.dup dL_law_3 rfl ?_
  refine J.less (bc' := 590000 + 120) (bs' := 7100000 + 13000) (by omega) (by omega) ?_
  refine J.callI [] dL_law_4 mdX11_init ⟨rfl, rfl⟩ imX11_init lk_L_52 rfl rfl rfl rfl (j_GS (kup_s _ _ _) hJ) ?_
  rintro _ σ1 ⟨rfl, S, G, hS0, hS, hG, hfs, hfr, hR⟩
  refine J.astore_n (L' := [some (.ref b), some (.ref q1), none, none, none, none, none]) dL_law_7 (by decide) rfl rfl ?_
  refine J.less (bc' := 580000 + 1) (bs' := 7000000 + 75) (by omega) (by omega) ?_
  refine J.new dL_law_8 nw_L_53 (fun q2 hb2 hl2 => ?_)
  refine J.dup dL_law_11 rfl ?_
  refine J.less (bc' := 570000 + 70) (bs' := 6500000 + 450000) (by omega) (by omega) ?_
  refine J.callI [] dL_law_12 mdX12_init ⟨rfl, rfl⟩ imX12_init lk_L_55 rfl rfl rfl rfl (j_M (kup_s _ _ _)) ?_
  rintro _ σ3 ⟨rfl, Am, hA, hm3, hfr3, hfA⟩
  refine J.astore_n (L' := [some (.ref b), some (.ref q1), some (.ref q2), none, none, none, none]) dL_law_15 (by decide) rfl rfl ?_
  refine J.iconst (v := 1) dL_law_16 (by decide) ?_
  refine J.less (bc' := 560000 + 1) (bs' := 6400000 + 1) (by omega) (by omega) ?_
  refine J.newL (n := 1) dL_law_17 ay_3 rfl (by decide) (fun q4 hb4 hl4 => ?_)
  refine J.astore_n (L' := [some (.ref b), some (.ref q1), some (.ref q2), some (.ref q4), none, none, none]) dL_law_19 (by decide) rfl rfl ?_
  refine J.iconst (v := 0) dL_law_20 (by decide) ?_
  refine J.istore (L' := [some (.ref b), some (.ref q1), some (.ref q2), some (.ref q4), some (.int 0), none, none]) dL_law_21 (by decide) rfl rfl ?_
  subst hS0
  have s2 : ∀ k, k < 51 → S k < q2 := fun k hk => hl2 _ _ (hG k hk)
  have h2 : ∀ (c' : kc) k, k < 51 → kup σ1 q2 c' (S k) = some (G k) := fun _ k hk => kup_i (Nat.ne_of_lt (s2 k hk)) (hG k hk)
  have h3 : ∀ k, k < 51 → σ3 (S k) = some (G k) := fun k hk => hfr3 _ _ (h2 _ k hk) (Nat.ne_of_lt (s2 k hk))
  have s4 : ∀ k, k < 51 → S k < q4 := fun k hk => hl4 _ _ (h3 k hk)
  have sA : ∀ k, k < 51 → ∀ j, mRef j = true → S k < Am j := fun k hk j hj => hfA j hj _ _ (h2 _ k hk)
  have hsep : sepS S q2 Am q4 := ⟨fun k hk => Nat.ne_of_lt (s2 k hk), fun k hk j hj => Nat.ne_of_lt (sA k hk j hj), fun k hk => Nat.ne_of_lt (s4 k hk), Nat.ne_of_gt (hl4 _ _ hm3.1), fun j hj => Nat.ne_of_gt (hl4 _ _ (hm3.2 j hj))⟩
  have hI : lwI Λ S q2 Am q4 (kup σ3 q4 (aL 1 (fun _ => 0))) G (fun _ => none) I00 (fun _ _ => 0) (fun _ => 0) N00 (fun _ => []) (fun _ => []) (fun _ => []) := ⟨⟨fun k hk => kup_i (Nat.ne_of_lt (s4 k hk)) (h3 k hk), (fun q c hq => by cases hq), (fun k hk => rfl)⟩, ⟨_, _, hR⟩, ⟨kup_i (Nat.ne_of_lt (hl4 _ _ hm3.1)) hm3.1, fun j hj => kup_i (Nat.ne_of_lt (hl4 _ _ (hm3.2 j hj))) (hm3.2 j hj)⟩, mR_00, wf_00.1, wf_00.2, kup_s _ _ _, rfl, fun _ _ => rfl, rfl⟩
  refine J.less (bc' := 8 * 512) (bs' := 5200 * 512) (by omega) (by omega) ?_
  exact law_loop hok hX hSt hSh hJ hscr hn hS hA hsep hend 512 0 _ _ _ _ _ _ _ _ _ _ rfl hI
