/-! ArrayList, over its object and its array (K) -/

theorem nl_e {n : Nat} (h2 : 2 ≤ n) (hn : n ≤ 40000) : nI n + (if (1 : Int32) < nI (n / 2) then nI (n / 2) else 1) = nI (n + n / 2) := by
  by_cases c : 1 < n / 2
  · have h1 : (1 : Int32) < nI (n / 2) := (show nI 1 < nI (n / 2) from nI_lt c (by omega))
    rw [if_pos h1, nI_add]
  · have h1 : ¬ (1 : Int32) < nI (n / 2) := (show ¬ nI 1 < nI (n / 2) from nI_nlt (by omega) (by decide))
    rw [if_neg h1, show n / 2 = 1 by omega]
    exact nI_add n 1

theorem r_newLength {Λ : kL} {σ : kh} {n : Nat} (h2 : 2 ≤ n) (hn : n ≤ 40000) : kCt Λ mJ8_newLength_cabcc 0 0 [.int (nI n), .int 1, .int (nI (n / 2))] σ (fun v σ' => v = some (.int (nI (n + n / 2))) ∧ σ' = σ) := by
  refine kCt.of pn_J8 [some (.int (nI n)), some (.int 1), some (.int (nI (n / 2))), none] rfl (Nat.le_of_ble_eq_true rfl) fun X => ?_
  refine K.iload_n dJ8_newLength_cabcc_0 rfl ?_
  refine K.iload_n dJ8_newLength_cabcc_1 rfl ?_
  refine K.iload_n dJ8_newLength_cabcc_2 rfl ?_
  refine K.mmax dJ8_newLength_cabcc_3 xmax_J8_194 rfl rfl ?_
  refine K.iadd dJ8_newLength_cabcc_6 ?_
  rw [show (nI n) + (if 1 < (nI (n / 2)) then nI (n / 2) else 1) = nI (n + n / 2) from nl_e h2 hn]
  refine K.istore_n (L' := [some (.int (nI n)), some (.int 1), some (.int (nI (n / 2))), some (.int (nI (n + n / 2)))]) dJ8_newLength_cabcc_7 (by decide) rfl rfl ?_
  refine K.iconst (v := 0) dJ8_newLength_cabcc_8 (by decide) ?_
  refine K.iload_n dJ8_newLength_cabcc_9 rfl ?_
  refine K.icmp_ge (tgt := 21) dJ8_newLength_cabcc_10 (by decide) (fun c_10 => absurd c_10 (nI_nle (by omega) (by omega))) (fun c_10 => ?_)
  refine K.iload_n dJ8_newLength_cabcc_13 rfl ?_
  refine K.ldc (v := 2147483639) dJ8_newLength_cabcc_14 co_J8_200 ?_
  refine K.icmp_gt (tgt := 21) dJ8_newLength_cabcc_16 (by decide) (fun c_16 => absurd c_16 (show ¬ nI 2147483639 < nI (n + n / 2) from nI_nlt (by omega) (by decide))) (fun c_16 => ?_)
  refine K.iload_n dJ8_newLength_cabcc_19 rfl ?_
  refine K.iret dJ8_newLength_cabcc_20 rfl ?_
  exact ⟨rfl, rfl⟩

theorem r_copyOf3 {Λ : kL} {σ : kh} {b n n2 mi : Nat} {f : Nat → Option Nat} (hb : σ b = some (aO n f)) (hn : n ≤ n2) (hm : n2 ≤ 100000) (hM : va_Mi "[Ljava/lang/Object;" mi (kS Λ)) {ci N : Nat} {C : String} {T : u_T} {ty : Nat → FieldType} (hcl : kCls ci C T N ty) (hca : Cond.castable C "java/lang/Object" ∈ lw_tbl) (hel : ∀ i, i < n → ∀ y, f i = some y → ∃ fs, σ y = some (.inr (ci, fs))) : kCt Λ mJ7_copyOf_6403c 1 n2 [.ref b, .int (nI n2), .ref mi] σ (fun v σ' => ∃ q, kB Λ ≤ q ∧ (∀ a c, σ a = some c → a < q) ∧ v = some (.ref q) ∧ σ' = kup σ q (aO n2 (va_cpy f (fun _ => none) 0 0 n))) := by
  refine kCt.of pn_J7 [some (.ref b), some (.int (nI n2)), some (.ref mi), none] rfl (Nat.le_of_ble_eq_true rfl) fun X => ?_
  refine K.aload_nR dJ7_copyOf_6403c_0 rfl ?_
  refine K.ldcM dJ7_copyOf_6403c_1 cl_J7_110 hM ?_
  refine K.acmp_ne (tgt := 13) dJ7_copyOf_6403c_3 (by decide) (fun q => absurd rfl q) (fun _ => ?_)
  refine K.iload_n dJ7_copyOf_6403c_6 rfl ?_
  refine K.less (bc' := 0 + 1) (bs' := 0 + n2) (by omega) (by omega) ?_
  refine K.newO (n := n2) dJ7_copyOf_6403c_7 cl_J7_2 rfl (by omega) (fun q_1 hb_2 hl_3 => ?_)
  have h_4 : (kup σ q_1 (aO n2 (fun _ => none))) b = some (aO n f) := kup_i (Nat.ne_of_lt (hl_3 _ _ hb)) hb
  have h_5 : (kup σ q_1 (aO n2 (fun _ => none))) q_1 = some (aO n2 (fun _ => none)) := kup_s _ _ _
  refine K.goto (tgt := 24) dJ7_copyOf_6403c_10 (by decide) ?_
  refine K.astore_n (L' := [some (.ref b), some (.int (nI n2)), some (.ref mi), some (.ref q_1)]) dJ7_copyOf_6403c_24 (by decide) rfl rfl ?_
  refine K.aload_nR dJ7_copyOf_6403c_25 rfl ?_
  refine K.iconst (v := 0) dJ7_copyOf_6403c_26 (by decide) ?_
  refine K.aload_nR dJ7_copyOf_6403c_27 rfl ?_
  refine K.iconst (v := 0) dJ7_copyOf_6403c_28 (by decide) ?_
  refine K.aload_nR dJ7_copyOf_6403c_29 rfl ?_
  refine K.alen (v := nI n) dJ7_copyOf_6403c_30 h_4 (by decide) rfl ?_
  refine K.iload_n dJ7_copyOf_6403c_31 rfl ?_
  refine K.mmin dJ7_copyOf_6403c_32 xmin_J7_304 rfl rfl ?_
  rw [show (if nI n2 < nI n then nI n2 else nI n) = nI n from if_neg (nI_nlt hn (by omega))]
  refine K.copyq (sp := 0) (dp := 0) (n := n) dJ7_copyOf_6403c_35 la_J7_150 h_4 h_5 (by omega) (by omega) (by omega) (by omega) hcl hca (fun i hi y hy => ?_) rfl rfl ?_
  · rw [Nat.zero_add] at hy
    obtain ⟨fs, hfs⟩ := hel i hi y hy
    exact ⟨fs, kup_i (Nat.ne_of_lt (hl_3 _ _ hfs)) hfs⟩
  have h_6 : (kup (kup σ q_1 (aO n2 (fun _ => none))) q_1 (aO n2 (va_cpy f (fun _ => none) 0 0 n))) b = some (aO n f) := kup_i (Nat.ne_of_lt (hl_3 _ _ hb)) h_4
  have h_7 : (kup (kup σ q_1 (aO n2 (fun _ => none))) q_1 (aO n2 (va_cpy f (fun _ => none) 0 0 n))) q_1 = some (aO n2 (va_cpy f (fun _ => none) 0 0 n)) := kup_s _ _ _
  refine K.aload_nR dJ7_copyOf_6403c_38 rfl ?_
  refine K.aret (r := some q_1) dJ7_copyOf_6403c_39 rfl (by first | exact Or.inl ⟨_, rfl⟩ | exact Or.inr ⟨_, rfl⟩) ?_
  exact ⟨q_1, hb_2, hl_3, rfl, kup_up _ _ _ _⟩

theorem r_copyOf {Λ : kL} {σ : kh} {b n n2 mi : Nat} {f : Nat → Option Nat} (hb : σ b = some (aO n f)) (hn : n ≤ n2) (hm : n2 ≤ 100000) (hM : va_Mi "[Ljava/lang/Object;" mi (kS Λ)) {ci N : Nat} {C : String} {T : u_T} {ty : Nat → FieldType} (hcl : kCls ci C T N ty) (hca : Cond.castable C "java/lang/Object" ∈ lw_tbl) (hel : ∀ i, i < n → ∀ y, f i = some y → ∃ fs, σ y = some (.inr (ci, fs))) : kCt Λ mJ7_copyOf_1904c 1 n2 [.ref b, .int (nI n2)] σ (fun v σ' => ∃ q, kB Λ ≤ q ∧ (∀ a c, σ a = some c → a < q) ∧ v = some (.ref q) ∧ σ' = kup σ q (aO n2 (va_cpy f (fun _ => none) 0 0 n))) := by
  refine kCt.of pn_J7 [some (.ref b), some (.int (nI n2))] rfl (Nat.le_of_ble_eq_true rfl) fun X => ?_
  refine K.aload_nR dJ7_copyOf_1904c_0 rfl ?_
  refine K.iload_n dJ7_copyOf_1904c_1 rfl ?_
  refine K.aload_nR dJ7_copyOf_1904c_2 rfl ?_
  refine K.getC dJ7_copyOf_1904c_3 lg_J7_86 hb hM rfl rfl ?_
  refine K.less (bc' := 0 + 1) (bs' := 0 + n2) (by omega) (by omega) ?_
  refine K.callS (b := 0) [.ref b, .int (nI n2), .ref mi] dJ7_copyOf_1904c_6 mdJ7_copyOf_6403c ssJ7_copyOf_6403c lk_J7_300 rfl rfl rfl rfl (r_copyOf3 hb hn hm hM hcl hca hel) ?_
  rintro _ _ ⟨q, g1, g2, rfl, rfl⟩
  refine K.aret (r := some q) dJ7_copyOf_1904c_9 rfl (by first | exact Or.inl ⟨_, rfl⟩ | exact Or.inr ⟨_, rfl⟩) ?_
  exact ⟨q, g1, g2, rfl, rfl⟩

theorem r_growF {Λ : kL} {σ : kh} {a b n : Nat} {md : Int32} {f : Nat → Option Nat} (ha : σ a = some (oAL b (nI n) md)) (hb : σ b = some (aO n f)) (h2 : 2 ≤ n) (hn : n ≤ 40000) (hJ : kJd Λ) {ci N : Nat} {C : String} {T : u_T} {ty : Nat → FieldType} (hcl : kCls ci C T N ty) (hca : Cond.castable C "java/lang/Object" ∈ lw_tbl) (hel : ∀ i, i < n → ∀ y, f i = some y → ∃ fs, σ y = some (.inr (ci, fs))) : kCt Λ mJx4a65c_grow_92f84 1 (n + n / 2) [.ref a, .int (nI (n + 1))] σ (fun v σ' => ∃ q, kB Λ ≤ q ∧ (∀ a c, σ a = some c → a < q) ∧ v = some (.ref q) ∧ σ' = kup (kup σ q (aO (n + n / 2) (va_cpy f (fun _ => none) 0 0 n))) a (oAL q (nI n) md)) := by
  refine kCt.of pn_Jx4a65c [some (.ref a), some (.int (nI (n + 1))), none, none] rfl (Nat.le_of_ble_eq_true rfl) fun X => ?_
  refine K.aload_nR dJx4a65c_grow_92f84_0 rfl ?_
  refine K.getf dJx4a65c_grow_92f84_1 fl_Jx4a65c_9 ha rfl ?_
  refine K.alen (v := nI n) dJx4a65c_grow_92f84_4 hb (by decide) rfl ?_
  refine K.istore_n (L' := [some (.ref a), some (.int (nI (n + 1))), some (.int (nI n)), none]) dJx4a65c_grow_92f84_5 (by decide) rfl rfl ?_
  refine K.iload_n dJx4a65c_grow_92f84_6 rfl ?_
  refine K.if_gt (tgt := 20) dJx4a65c_grow_92f84_7 (by decide) (fun c_7 => ?_) (fun c_7 => absurd (show nI 0 < nI n from nI_lt (by omega) (by omega)) c_7)
  refine K.iload_n dJx4a65c_grow_92f84_20 rfl ?_
  refine K.iload_n dJx4a65c_grow_92f84_21 rfl ?_
  refine K.iload_n dJx4a65c_grow_92f84_22 rfl ?_
  refine K.isub dJx4a65c_grow_92f84_23 ?_
  rw [show (nI (n + 1)) - (nI n) = 1 from (by rw [pk_sub (by omega), show n + 1 - n = 1 by omega]; rfl)]
  refine K.iload_n dJx4a65c_grow_92f84_24 rfl ?_
  refine K.iconst (v := 1) dJx4a65c_grow_92f84_25 (by decide) ?_
  refine K.ishr dJx4a65c_grow_92f84_26 ?_
  rw [show (nI n) >>> (1 &&& 31) = nI (n / 2) from (by have k9 := pk_shrN (n := n) (by omega) ((1 : Int32) &&& 31) 1 (by decide); rw [Nat.pow_one] at k9; exact k9)]
  refine K.callS0 (b := 0) [.int (nI n), .int 1, .int (nI (n / 2))] dJx4a65c_grow_92f84_27 mdJ8_newLength_cabcc ssJ8_newLength_cabcc lk_Jx4a65c_73 rfl rfl rfl rfl (r_newLength h2 hn) ?_
  rintro _ σ9 ⟨rfl, e9⟩
  have e9 := e9.symm; subst e9
  refine K.istore_n (L' := [some (.ref a), some (.int (nI (n + 1))), some (.int (nI n)), some (.int (nI (n + n / 2)))]) dJx4a65c_grow_92f84_30 (by decide) rfl rfl ?_
  refine K.aload_nR dJx4a65c_grow_92f84_31 rfl ?_
  refine K.aload_nR dJx4a65c_grow_92f84_32 rfl ?_
  refine K.getf dJx4a65c_grow_92f84_33 fl_Jx4a65c_9 ha rfl ?_
  refine K.iload_n dJx4a65c_grow_92f84_36 rfl ?_
  obtain ⟨hJ1, hJ2, mi, hM⟩ := hJ
  refine K.less (bc' := 0 + 1) (bs' := 0 + (n + n / 2)) (by omega) (by omega) ?_
  refine K.callS (b := 0) [.ref b, .int (nI (n + n / 2))] dJx4a65c_grow_92f84_37 mdJ7_copyOf_1904c ssJ7_copyOf_1904c lk_Jx4a65c_66 rfl rfl rfl rfl (r_copyOf hb (by omega) (by omega) hM hcl hca hel) ?_
  rintro _ _ ⟨q, g1, g2, rfl, rfl⟩
  have h_a : (kup σ q (aO (n + n / 2) (va_cpy f (fun _ => none) 0 0 n))) a = some (oAL b (nI n) md) := kup_i (Nat.ne_of_lt (g2 _ _ ha)) ha
  refine K.dup_x1 dJx4a65c_grow_92f84_40 rfl rfl ?_
  refine K.putf (fs' := [.int md, .ref q, .int (nI n)]) dJx4a65c_grow_92f84_41 fp_Jx4a65c_9 (fun h => by cases h) h_a rfl rfl (Nat.le_of_ble_eq_true rfl) rfl ?_
  have h_1 : (kup (kup σ q (aO (n + n / 2) (va_cpy f (fun _ => none) 0 0 n))) a (.inr (0, [.int md, .ref q, .int (nI n)]))) a = some (.inr (0, [.int md, .ref q, .int (nI n)])) := kup_s _ _ _
  refine K.aret (r := some q) dJx4a65c_grow_92f84_44 rfl (by first | exact Or.inl ⟨_, rfl⟩ | exact Or.inr ⟨_, rfl⟩) ?_
  exact ⟨q, g1, g2, rfl, rfl⟩

theorem r_growE {Λ : kL} {σ : kh} {a : Nat} {md : Int32} (ha : σ a = some (oAL (kEmp Λ) 0 md)) (hJ : kJd Λ) : kCt Λ mJx4a65c_grow_92f84 1 10 [.ref a, .int 1] σ (fun v σ' => ∃ q, kB Λ ≤ q ∧ (∀ a c, σ a = some c → a < q) ∧ v = some (.ref q) ∧ σ' = kup (kup σ q (aO 10 (fun _ => none))) a (oAL q 0 md)) := by
  refine kCt.of pn_Jx4a65c [some (.ref a), some (.int 1), none, none] rfl (Nat.le_of_ble_eq_true rfl) fun X => ?_
  refine K.aload_nR dJx4a65c_grow_92f84_0 rfl ?_
  refine K.getf dJx4a65c_grow_92f84_1 fl_Jx4a65c_9 ha rfl ?_
  refine K.tlen dJx4a65c_grow_92f84_4 hJ.2.1 ?_
  refine K.istore_n (L' := [some (.ref a), some (.int 1), some (.int (nI 0)), none]) dJx4a65c_grow_92f84_5 (by decide) rfl rfl ?_
  refine K.iload_n dJx4a65c_grow_92f84_6 rfl ?_
  refine K.if_gt (tgt := 20) dJx4a65c_grow_92f84_7 (by decide) (fun c_7 => absurd c_7 (by decide)) (fun c_7 => ?_)
  refine K.aload_nR dJx4a65c_grow_92f84_10 rfl ?_
  refine K.getf dJx4a65c_grow_92f84_11 fl_Jx4a65c_9 ha rfl ?_
  refine K.getsC dJx4a65c_grow_92f84_14 hJ.1 fw_Jx4a65c_39 ?_
  refine K.acmp_eq (tgt := 45) dJx4a65c_grow_92f84_17 (by decide) (fun _ => ?_) (fun q => absurd rfl q)
  refine K.aload_nR dJx4a65c_grow_92f84_45 rfl ?_
  refine K.bipush (v := 10) dJx4a65c_grow_92f84_46 (by decide) ?_
  refine K.iload_n dJx4a65c_grow_92f84_48 rfl ?_
  refine K.mmax dJx4a65c_grow_92f84_49 xmax_Jx4a65c_79 rfl rfl ?_
  refine K.less (bc' := 0 + 1) (bs' := 0 + 10) (by omega) (by omega) ?_
  refine K.newO (n := 10) dJx4a65c_grow_92f84_52 cl_Jx4a65c_7 (by decide) (by decide) (fun q_1 hb_2 hl_3 => ?_)
  have h_4 : (kup σ q_1 (aO 10 (fun _ => none))) a = some (.inr (0, [.int md, .ref (kEmp Λ), .int 0])) := kup_i (Nat.ne_of_lt (hl_3 _ _ ha)) ha
  have h_5 : (kup σ q_1 (aO 10 (fun _ => none))) q_1 = some (aO 10 (fun _ => none)) := kup_s _ _ _
  refine K.dup_x1 dJx4a65c_grow_92f84_55 rfl rfl ?_
  refine K.putf (fs' := [.int md, .ref q_1, .int 0]) dJx4a65c_grow_92f84_56 fp_Jx4a65c_9 (fun h => by cases h) h_4 rfl rfl (Nat.le_of_ble_eq_true rfl) rfl ?_
  have h_6 : (kup (kup σ q_1 (aO 10 (fun _ => none))) a (.inr (0, [.int md, .ref q_1, .int 0]))) a = some (.inr (0, [.int md, .ref q_1, .int 0])) := kup_s _ _ _
  have h_7 : (kup (kup σ q_1 (aO 10 (fun _ => none))) a (.inr (0, [.int md, .ref q_1, .int 0]))) q_1 = some (aO 10 (fun _ => none)) := kup_i (Ne.symm (Nat.ne_of_lt (hl_3 _ _ ha))) h_5
  refine K.aret (r := some q_1) dJx4a65c_grow_92f84_59 rfl (by first | exact Or.inl ⟨_, rfl⟩ | exact Or.inr ⟨_, rfl⟩) ?_
  exact ⟨_, hb_2, hl_3, rfl, rfl⟩

theorem r_growF0 {Λ : kL} {σ : kh} {a b n : Nat} {md : Int32} {f : Nat → Option Nat} (ha : σ a = some (oAL b (nI n) md)) (hb : σ b = some (aO n f)) (h2 : 2 ≤ n) (hn : n ≤ 40000) (hJ : kJd Λ) {ci N : Nat} {C : String} {T : u_T} {ty : Nat → FieldType} (hcl : kCls ci C T N ty) (hca : Cond.castable C "java/lang/Object" ∈ lw_tbl) (hel : ∀ i, i < n → ∀ y, f i = some y → ∃ fs, σ y = some (.inr (ci, fs))) : kCt Λ mJx4a65c_grow_d5877 1 (n + n / 2) [.ref a] σ (fun v σ' => ∃ q, kB Λ ≤ q ∧ (∀ a c, σ a = some c → a < q) ∧ v = some (.ref q) ∧ σ' = kup (kup σ q (aO (n + n / 2) (va_cpy f (fun _ => none) 0 0 n))) a (oAL q (nI n) md)) := by
  refine kCt.of pn_Jx4a65c [some (.ref a)] rfl (Nat.le_of_ble_eq_true rfl) fun X => ?_
  refine K.aload_nR dJx4a65c_grow_d5877_0 rfl ?_
  refine K.aload_nR dJx4a65c_grow_d5877_1 rfl ?_
  refine K.getf dJx4a65c_grow_d5877_2 fl_Jx4a65c_48 ha rfl ?_
  refine K.iconst (v := 1) dJx4a65c_grow_d5877_5 (by decide) ?_
  refine K.iadd dJx4a65c_grow_d5877_6 ?_
  rw [show (nI n) + 1 = nI (n + 1) from (nI_1 n)]
  refine K.less (bc' := 0 + 1) (bs' := 0 + (n + n / 2)) (by omega) (by omega) ?_
  refine K.callV [.int (nI (n + 1))] dJx4a65c_grow_d5877_7 mdJx4a65c_grow_92f84 imJx4a65c_grow_92f84 seJx4a65c_grow_92f84 (kc_0).1 ha lk_Jx4a65c_69 rfl rfl rfl rfl (r_growF ha hb h2 hn hJ hcl hca hel) ?_
  rintro _ _ ⟨q, g1, g2, rfl, rfl⟩
  refine K.aret (r := some q) dJx4a65c_grow_d5877_10 rfl (by first | exact Or.inl ⟨_, rfl⟩ | exact Or.inr ⟨_, rfl⟩) ?_
  exact ⟨q, g1, g2, rfl, rfl⟩

theorem r_growE0 {Λ : kL} {σ : kh} {a : Nat} {md : Int32} (ha : σ a = some (oAL (kEmp Λ) 0 md)) (hJ : kJd Λ) : kCt Λ mJx4a65c_grow_d5877 1 10 [.ref a] σ (fun v σ' => ∃ q, kB Λ ≤ q ∧ (∀ a c, σ a = some c → a < q) ∧ v = some (.ref q) ∧ σ' = kup (kup σ q (aO 10 (fun _ => none))) a (oAL q 0 md)) := by
  refine kCt.of pn_Jx4a65c [some (.ref a)] rfl (Nat.le_of_ble_eq_true rfl) fun X => ?_
  refine K.aload_nR dJx4a65c_grow_d5877_0 rfl ?_
  refine K.aload_nR dJx4a65c_grow_d5877_1 rfl ?_
  refine K.getf dJx4a65c_grow_d5877_2 fl_Jx4a65c_48 ha rfl ?_
  refine K.iconst (v := 1) dJx4a65c_grow_d5877_5 (by decide) ?_
  refine K.iadd dJx4a65c_grow_d5877_6 ?_
  rw [show 0 + 1 = 1 from (by decide)]
  refine K.less (bc' := 0 + 1) (bs' := 0 + 10) (by omega) (by omega) ?_
  refine K.callV [.int 1] dJx4a65c_grow_d5877_7 mdJx4a65c_grow_92f84 imJx4a65c_grow_92f84 seJx4a65c_grow_92f84 (kc_0).1 ha lk_Jx4a65c_69 rfl rfl rfl rfl (r_growE ha hJ) ?_
  rintro _ _ ⟨q, g1, g2, rfl, rfl⟩
  refine K.aret (r := some q) dJx4a65c_grow_d5877_10 rfl (by first | exact Or.inl ⟨_, rfl⟩ | exact Or.inr ⟨_, rfl⟩) ?_
  exact ⟨q, g1, g2, rfl, rfl⟩
