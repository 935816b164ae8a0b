/-! String.length and charAt of constants -/
theorem c_coder {Λ : kL} {σ : kh} {a : Nat} {bs : List Int32} (h : kStr Λ a bs) : jCt Λ mJ0_coder_7d493 0 0 [.ref a] σ (fun v σ' => v = some (.int 0) ∧ σ' = σ) := by
  refine jCt.of pn_J0 [some (.ref a)] rfl (Nat.le_of_ble_eq_true rfl) fun X => ?_
  obtain ⟨v, h1, h2, h3, h4, h5, h6, h7⟩ := h
  refine J.getsC dJ0_coder_7d493_0 h6 fw_J0_38 ?_
  refine J.if_eq (tgt := 13) dJ0_coder_7d493_3 (by decide) (fun c => absurd c (by decide)) (fun _ => ?_)
  refine J.aload_nR dJ0_coder_7d493_6 rfl ?_
  refine J.getfC dJ0_coder_7d493_7 h2 fw_J0_15 ?_
  refine J.goto (tgt := 14) dJ0_coder_7d493_10 (by decide) ?_
  exact J.zret dJ0_coder_7d493_14 rfl rfl ⟨rfl, rfl⟩
theorem c_isLatin1 {Λ : kL} {σ : kh} {a : Nat} {bs : List Int32} (h : kStr Λ a bs) : jCt Λ mJ0_isLatin1_aae02 0 0 [.ref a] σ (fun v σ' => v = some (.int 1) ∧ σ' = σ) := by
  refine jCt.of pn_J0 [some (.ref a)] rfl (Nat.le_of_ble_eq_true rfl) fun X => ?_
  obtain ⟨v, h1, h2, h3, h4, h5, h6, h7⟩ := h
  refine J.getsC dJ0_isLatin1_aae02_0 h6 fw_J0_38 ?_
  refine J.if_eq (tgt := 17) dJ0_isLatin1_aae02_3 (by decide) (fun c => absurd c (by decide)) (fun _ => ?_)
  refine J.aload_nR dJ0_isLatin1_aae02_6 rfl ?_
  refine J.getfC dJ0_isLatin1_aae02_7 h2 fw_J0_15 ?_
  refine J.if_ne (tgt := 17) dJ0_isLatin1_aae02_10 (by decide) (fun c => absurd rfl c) (fun _ => ?_)
  refine J.iconst (v := 1) dJ0_isLatin1_aae02_13 (by decide) ?_
  refine J.goto (tgt := 18) dJ0_isLatin1_aae02_14 (by decide) ?_
  exact J.zret dJ0_isLatin1_aae02_18 rfl rfl ⟨rfl, rfl⟩
theorem c_length {Λ : kL} {σ : kh} {a : Nat} {bs : List Int32} (h : kStr Λ a bs) : jCt Λ mJ0_length_8abf5 0 0 [.ref a] σ (fun v σ' => v = some (.int (nI bs.length)) ∧ σ' = σ) := by
  refine jCt.of pn_J0 [some (.ref a)] rfl (Nat.le_of_ble_eq_true rfl) fun X => ?_
  have hh := h
  obtain ⟨v, h1, h2, h3, h4, h5, h6, h7⟩ := h
  refine J.aload_nR dJ0_length_8abf5_0 rfl ?_
  refine J.getfC dJ0_length_8abf5_1 h3 fw_J0_9 ?_
  refine J.tlen dJ0_length_8abf5_4 h4 ?_
  refine J.aload_nR dJ0_length_8abf5_5 rfl ?_
  refine J.callC [] dJ0_length_8abf5_6 mdJ0_coder_7d493 imJ0_coder_7d493 seJ0_coder_7d493 h1 lm_J0_335 rfl rfl rfl rfl (c_coder hh) ?_
  rintro _ _ ⟨rfl, rfl⟩
  refine J.ishr dJ0_length_8abf5_9 ?_
  refine J.iret dJ0_length_8abf5_10 rfl ⟨?_, rfl⟩
  rw [sb_shr0]
theorem c_pcheckN {Λ : kL} {σ : kh} {x y : Int32} (h0 : ¬ x < 0) (h : x < y) : jCt Λ mJ3_checkIndex_8e157 0 0 [.int x, .int y, .null] σ (fun v σ' => v = some (.int x) ∧ σ' = σ) := by
  refine jCt.of pn_J3 [some (.int x), some (.int y), some .null] rfl (Nat.le_of_ble_eq_true rfl) fun X => ?_
  refine J.iload_n dJ3_checkIndex_8e157_0 rfl ?_
  refine J.if_lt (tgt := 9) dJ3_checkIndex_8e157_1 (by decide) (fun c => absurd c h0) (fun _ => ?_)
  refine J.iload_n dJ3_checkIndex_8e157_4 rfl ?_
  refine J.iload_n dJ3_checkIndex_8e157_5 rfl ?_
  refine J.icmp_lt (tgt := 16) dJ3_checkIndex_8e157_6 (by decide) (fun _ => ?_) (fun c => absurd h c)
  refine J.iload_n dJ3_checkIndex_8e157_16 rfl ?_
  exact J.iret dJ3_checkIndex_8e157_17 rfl ⟨rfl, rfl⟩
theorem c_pcheckR {Λ : kL} {σ : kh} {x y : Int32} {b : Nat} (h0 : ¬ x < 0) (h : x < y) : jCt Λ mJ3_checkIndex_8e157 0 0 [.int x, .int y, .ref b] σ (fun v σ' => v = some (.int x) ∧ σ' = σ) := by
  refine jCt.of pn_J3 [some (.int x), some (.int y), some (.ref b)] rfl (Nat.le_of_ble_eq_true rfl) fun X => ?_
  refine J.iload_n dJ3_checkIndex_8e157_0 rfl ?_
  refine J.if_lt (tgt := 9) dJ3_checkIndex_8e157_1 (by decide) (fun c => absurd c h0) (fun _ => ?_)
  refine J.iload_n dJ3_checkIndex_8e157_4 rfl ?_
  refine J.iload_n dJ3_checkIndex_8e157_5 rfl ?_
  refine J.icmp_lt (tgt := 16) dJ3_checkIndex_8e157_6 (by decide) (fun _ => ?_) (fun c => absurd h c)
  refine J.iload_n dJ3_checkIndex_8e157_16 rfl ?_
  exact J.iret dJ3_checkIndex_8e157_17 rfl ⟨rfl, rfl⟩
theorem c_scheck {Λ : kL} {σ : kh} {a : Nat} {bs : List Int32} (hs : kStr Λ a bs) {x y : Int32} (h0 : ¬ x < 0) (h : x < y) : jCt Λ mJ0_checkIndex_df160 0 0 [.int x, .int y] σ (fun v σ' => v = none ∧ σ' = σ) := by
  refine jCt.of pn_J0 [some (.int x), some (.int y)] rfl (Nat.le_of_ble_eq_true rfl) fun X => ?_
  obtain ⟨v, h1, h2, h3, h4, h5, h6, w, h7, h8⟩ := hs
  refine J.iload_n dJ0_checkIndex_df160_0 rfl ?_
  refine J.iload_n dJ0_checkIndex_df160_1 rfl ?_
  refine J.getsC dJ0_checkIndex_df160_2 h7 fw_J0_1053 ?_
  rcases h8 with rfl | ⟨b, rfl⟩
  · refine J.callS (b := 0) [.int x, .int y, .null] dJ0_checkIndex_df160_5 mdJ3_checkIndex_8e157 ssJ3_checkIndex_8e157 lk_J0_1059 rfl rfl rfl rfl (c_pcheckN h0 h) ?_
    rintro _ _ ⟨rfl, rfl⟩
    refine J.pop dJ0_checkIndex_df160_8 rfl ?_
    exact J.vret dJ0_checkIndex_df160_9 rfl ⟨rfl, rfl⟩
  · refine J.callS (b := 0) [.int x, .int y, .ref b] dJ0_checkIndex_df160_5 mdJ3_checkIndex_8e157 ssJ3_checkIndex_8e157 lk_J0_1059 rfl rfl rfl rfl (c_pcheckR h0 h) ?_
    rintro _ _ ⟨rfl, rfl⟩
    refine J.pop dJ0_checkIndex_df160_8 rfl ?_
    exact J.vret dJ0_checkIndex_df160_9 rfl ⟨rfl, rfl⟩
theorem c_l1charAt {Λ : kL} {σ : kh} {a v : Nat} {bs : List Int32} (hs : kStr Λ a bs) (h4 : va_T .byte v bs.length (fun j => .int (bs.getD j 0)) (kA Λ) (kS Λ) (kS Λ).heap) {j : Nat} (hj : j < bs.length) : jCt Λ mJ1_charAt_3b067 0 0 [.ref v, .int (nI j)] σ (fun r σ' => r = some (.int (bs.getD j 0 &&& 255)) ∧ σ' = σ) := by
  refine jCt.of pn_J1 [some (.ref v), some (.int (nI j))] rfl (Nat.le_of_ble_eq_true rfl) fun X => ?_
  have h5 : bs.length < 1000 := by obtain ⟨_, -, -, -, -, h5, -⟩ := hs; exact h5
  refine J.iload_n dJ1_charAt_3b067_0 rfl ?_
  refine J.aload_nR dJ1_charAt_3b067_1 rfl ?_
  refine J.tlen dJ1_charAt_3b067_2 h4 ?_
  refine J.callS (b := 0) [.int (nI j), .int (nI bs.length)] dJ1_charAt_3b067_3 mdJ0_checkIndex_df160 ssJ0_checkIndex_df160 lk_J1_9 rfl rfl rfl rfl (c_scheck hs (nI_pos (by omega)) (nI_lt hj (by omega))) ?_
  rintro _ _ ⟨rfl, rfl⟩
  refine J.aload_nR dJ1_charAt_3b067_6 rfl ?_
  refine J.iload_n dJ1_charAt_3b067_7 rfl ?_
  refine J.tb dJ1_charAt_3b067_8 h4 rfl hj (by omega) ?_
  refine J.sipush (v := 255) dJ1_charAt_3b067_9 (by decide) ?_
  refine J.iand dJ1_charAt_3b067_12 ?_
  refine J.i2c dJ1_charAt_3b067_13 ?_
  rw [sc_c2]
  exact J.zret dJ1_charAt_3b067_14 rfl (sc_nar _) ⟨rfl, rfl⟩
theorem c_charAt {Λ : kL} {σ : kh} {a : Nat} {bs : List Int32} (h : kStr Λ a bs) {j : Nat} (hj : j < bs.length) : jCt Λ mJ0_charAt_5068e 0 0 [.ref a, .int (nI j)] σ (fun v σ' => v = some (.int (bs.getD j 0 &&& 255)) ∧ σ' = σ) := by
  refine jCt.of pn_J0 [some (.ref a), some (.int (nI j))] rfl (Nat.le_of_ble_eq_true rfl) fun X => ?_
  have hh := h
  obtain ⟨v, h1, h2, h3, h4, h5, h6, h7⟩ := h
  refine J.aload_nR dJ0_charAt_5068e_0 rfl ?_
  refine J.callC [] dJ0_charAt_5068e_1 mdJ0_isLatin1_aae02 imJ0_isLatin1_aae02 seJ0_isLatin1_aae02 h1 lm_J0_492 rfl rfl rfl rfl (c_isLatin1 hh) ?_
  rintro _ _ ⟨rfl, rfl⟩
  refine J.if_eq (tgt := 16) dJ0_charAt_5068e_4 (by decide) (fun c => absurd c (by decide)) (fun _ => ?_)
  refine J.aload_nR dJ0_charAt_5068e_7 rfl ?_
  refine J.getfC dJ0_charAt_5068e_8 h3 fw_J0_9 ?_
  refine J.iload_n dJ0_charAt_5068e_11 rfl ?_
  refine J.callS (b := 0) [.ref v, .int (nI j)] dJ0_charAt_5068e_12 mdJ1_charAt_3b067 ssJ1_charAt_3b067 lk_J0_495 rfl rfl rfl rfl (c_l1charAt hh h4 hj) ?_
  rintro _ _ ⟨rfl, rfl⟩
  exact J.zret dJ0_charAt_5068e_15 rfl (sc_nar _) ⟨rfl, rfl⟩
