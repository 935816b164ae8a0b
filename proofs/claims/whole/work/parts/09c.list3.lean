/-! ArrayList: the other members, over object and array (K) -/

theorem r_size {Λ : kL} {σ : kh} {a b c : Nat} {md : Int32} (ha : σ a = some (oAL b (nI c) md)) : kCt Λ mJx4a65c_size_8abf5 0 0 [.ref a] σ (fun r σ' => r = some (.int (nI c)) ∧ σ' = σ) := by
  refine kCt.of pn_Jx4a65c [some (.ref a)] rfl (Nat.le_of_ble_eq_true rfl) fun X => ?_
  refine K.aload_nR dJx4a65c_size_8abf5_0 rfl ?_
  refine K.getf dJx4a65c_size_8abf5_1 fl_Jx4a65c_48 ha rfl ?_
  refine K.iret dJx4a65c_size_8abf5_4 rfl ?_
  exact ⟨rfl, rfl⟩

theorem r_isEmpty {Λ : kL} {σ : kh} {a b c : Nat} {md : Int32} (ha : σ a = some (oAL b (nI c) md)) : kCt Λ mJx4a65c_isEmpty_aae02 0 0 [.ref a] σ (fun r σ' => r = some (.int (if nI c = 0 then 1 else 0)) ∧ σ' = σ) := by
  refine kCt.of pn_Jx4a65c [some (.ref a)] rfl (Nat.le_of_ble_eq_true rfl) fun X => ?_
  refine K.aload_nR dJx4a65c_isEmpty_aae02_0 rfl ?_
  refine K.getf dJx4a65c_isEmpty_aae02_1 fl_Jx4a65c_48 ha rfl ?_
  refine K.if_ne (tgt := 11) dJx4a65c_isEmpty_aae02_4 (by decide) (fun c_4 => ?_) (fun c_4 => ?_)
  · skip
    refine K.iconst (v := 0) dJx4a65c_isEmpty_aae02_11 (by decide) ?_
    refine K.zret dJx4a65c_isEmpty_aae02_12 rfl rfl ?_
    refine ⟨congrArg (fun z => some (Value.int z)) ?_, rfl⟩
    first | exact (if_pos c_4).symm | exact (if_neg c_4).symm
  · skip
    refine K.iconst (v := 1) dJx4a65c_isEmpty_aae02_7 (by decide) ?_
    refine K.goto (tgt := 12) dJx4a65c_isEmpty_aae02_8 (by decide) ?_
    refine K.zret dJx4a65c_isEmpty_aae02_12 rfl rfl ?_
    refine ⟨congrArg (fun z => some (Value.int z)) ?_, rfl⟩
    first | exact (if_pos c_4).symm | exact (if_neg c_4).symm

theorem r_pcheckN {Λ : kL} {σ : kh} {x y : Int32} (h0 : ¬ x < 0) (h : x < y) : kCt Λ mJ3_checkIndex_8e157 0 0 [.int x, .int y, .null] σ (fun v σ' => v = some (.int x) ∧ σ' = σ) := by
  refine kCt.of pn_J3 [some (.int x), some (.int y), some (.null)] rfl (Nat.le_of_ble_eq_true rfl) fun X => ?_
  refine K.iload_n dJ3_checkIndex_8e157_0 rfl ?_
  refine K.if_lt (tgt := 9) dJ3_checkIndex_8e157_1 (by decide) (fun c_1 => absurd c_1 h0) (fun c_1 => ?_)
  refine K.iload_n dJ3_checkIndex_8e157_4 rfl ?_
  refine K.iload_n dJ3_checkIndex_8e157_5 rfl ?_
  refine K.icmp_lt (tgt := 16) dJ3_checkIndex_8e157_6 (by decide) (fun c_6 => ?_) (fun c_6 => absurd h c_6)
  refine K.iload_n dJ3_checkIndex_8e157_16 rfl ?_
  refine K.iret dJ3_checkIndex_8e157_17 rfl ?_
  exact ⟨rfl, rfl⟩

theorem r_ocheck {Λ : kL} {σ : kh} {x y : Int32} (h0 : ¬ x < 0) (h : x < y) : kCt Λ mJ15_checkIndex_7cf53 0 0 [.int x, .int y] σ (fun v σ' => v = some (.int x) ∧ σ' = σ) := by
  refine kCt.of pn_J15 [some (.int x), some (.int y)] rfl (Nat.le_of_ble_eq_true rfl) fun X => ?_
  refine K.iload_n dJ15_checkIndex_7cf53_0 rfl ?_
  refine K.iload_n dJ15_checkIndex_7cf53_1 rfl ?_
  refine K.aconst_null dJ15_checkIndex_7cf53_2 ?_
  refine K.callS0 (b := 0) [.int x, .int y, .null] dJ15_checkIndex_7cf53_3 mdJ3_checkIndex_8e157 ssJ3_checkIndex_8e157 lk_J15_105 rfl rfl rfl rfl (r_pcheckN h0 h) ?_
  rintro _ σ9 ⟨rfl, e9⟩
  have e9 := e9.symm; subst e9
  refine K.iret dJ15_checkIndex_7cf53_6 rfl ?_
  exact ⟨rfl, rfl⟩

theorem r_elementData {Λ : kL} {σ : kh} {a b c n : Nat} {f : Nat → Option Nat} {md : Int32} (ha : σ a = some (oAL b (nI c) md)) (hb : σ b = some (aO n f)) (hcn : c ≤ n) (hn : n ≤ 100000) {j : Nat} (hj : j < c) : kCt Λ mJx4a65c_elementData_915e3 0 0 [.ref a, .int (nI j)] σ (fun r σ' => r = some (va_rf (f j)) ∧ σ' = σ) := by
  refine kCt.of pn_Jx4a65c [some (.ref a), some (.int (nI j))] rfl (Nat.le_of_ble_eq_true rfl) fun X => ?_
  refine K.aload_nR dJx4a65c_elementData_915e3_0 rfl ?_
  refine K.getf dJx4a65c_elementData_915e3_1 fl_Jx4a65c_9 ha rfl ?_
  refine K.iload_n dJx4a65c_elementData_915e3_4 rfl ?_
  refine K.aaload (j := j) dJx4a65c_elementData_915e3_5 hb rfl (by omega) (by omega) ?_
  refine K.aret (r := f j) dJx4a65c_elementData_915e3_6 rfl (by first | exact Or.inl ⟨_, rfl⟩ | exact Or.inr ⟨_, rfl⟩) ?_
  exact ⟨rfl, rfl⟩

theorem r_get {Λ : kL} {σ : kh} {a b c n : Nat} {f : Nat → Option Nat} {md : Int32} (ha : σ a = some (oAL b (nI c) md)) (hb : σ b = some (aO n f)) (hcn : c ≤ n) (hn : n ≤ 100000) {j : Nat} (hj : j < c) : kCt Λ mJx4a65c_get_915e3 0 0 [.ref a, .int (nI j)] σ (fun r σ' => r = some (va_rf (f j)) ∧ σ' = σ) := by
  refine kCt.of pn_Jx4a65c [some (.ref a), some (.int (nI j))] rfl (Nat.le_of_ble_eq_true rfl) fun X => ?_
  refine K.iload_n dJx4a65c_get_915e3_0 rfl ?_
  refine K.aload_nR dJx4a65c_get_915e3_1 rfl ?_
  refine K.getf dJx4a65c_get_915e3_2 fl_Jx4a65c_48 ha rfl ?_
  refine K.callS0 (b := 0) [.int (nI j), .int (nI c)] dJx4a65c_get_915e3_5 mdJ15_checkIndex_7cf53 ssJ15_checkIndex_7cf53 lk_Jx4a65c_118 rfl rfl rfl rfl (r_ocheck (nI_pos (by omega)) (nI_lt hj (by omega))) ?_
  rintro _ σ9 ⟨rfl, e9⟩
  have e9 := e9.symm; subst e9
  refine K.pop dJx4a65c_get_915e3_8 rfl ?_
  refine K.aload_nR dJx4a65c_get_915e3_9 rfl ?_
  refine K.iload_n dJx4a65c_get_915e3_10 rfl ?_
  refine K.callV0 [.int (nI j)] dJx4a65c_get_915e3_11 mdJx4a65c_elementData_915e3 imJx4a65c_elementData_915e3 seJx4a65c_elementData_915e3 (kc_0).1 ha lk_Jx4a65c_123 rfl rfl rfl rfl (r_elementData ha hb hcn hn hj) ?_
  rintro _ σ9 ⟨rfl, e9⟩
  have e9 := e9.symm; subst e9
  refine K.aret (r := f j) dJx4a65c_get_915e3_14 rfl (by first | exact Or.inl ⟨_, rfl⟩ | exact Or.inr ⟨_, rfl⟩) ?_
  exact ⟨rfl, rfl⟩

theorem cpy0 {α : Type} (f g : Nat → α) (sp dp : Nat) : va_cpy f g sp dp 0 = g := by
  funext k
  exact if_neg (by omega)

/-- the heap behind fastRemove(es, 0) -/
def kfr (σ : kh) (a b c n : Nat) (md : Int32) (f : Nat → Option Nat) : kh := fun q => if q = a then some (oAL b (nI (c - 1)) (md + 1)) else if q = b then some (aO n (va_up (va_cpy f f 1 0 (c - 1)) (c - 1) none)) else σ q

theorem r_fastRemove {Λ : kL} {σ : kh} {a b c n : Nat} {f : Nat → Option Nat} {md : Int32} (ha : σ a = some (oAL b (nI c) md)) (hb : σ b = some (aO n f)) (hcn : c ≤ n) (hn : n ≤ 100000) (h1 : 1 ≤ c) {ci N : Nat} {C : String} {T : u_T} {ty : Nat → FieldType} (hcl : kCls ci C T N ty) (hca : Cond.castable C "java/lang/Object" ∈ lw_tbl) (hel : ∀ i, i < c → ∀ y, f i = some y → ∃ fs, σ y = some (.inr (ci, fs))) : kCt Λ mJx4a65c_fastRemove_b59b0 0 0 [.ref a, .ref b, .int 0] σ (fun r σ' => r = none ∧ σ' = kfr σ a b c n md f) := by
  refine kCt.of pn_Jx4a65c [some (.ref a), some (.ref b), some (.int 0), none] rfl (Nat.le_of_ble_eq_true rfl) fun X => ?_
  refine K.aload_nR dJx4a65c_fastRemove_b59b0_0 rfl ?_
  refine K.dup dJx4a65c_fastRemove_b59b0_1 rfl ?_
  refine K.getf dJx4a65c_fastRemove_b59b0_2 fl_Jx4a65c_63 ha rfl ?_
  refine K.iconst (v := 1) dJx4a65c_fastRemove_b59b0_5 (by decide) ?_
  refine K.iadd dJx4a65c_fastRemove_b59b0_6 ?_
  refine K.putf (fs' := [.int (md + 1), .ref b, .int (nI c)]) dJx4a65c_fastRemove_b59b0_7 fp_Jx4a65c_63 (fun h => by cases h) ha rfl rfl (Nat.le_of_ble_eq_true rfl) rfl ?_
  have h_1 : (kup σ a (.inr (0, [.int (md + 1), .ref b, .int (nI c)]))) a = some (.inr (0, [.int (md + 1), .ref b, .int (nI c)])) := kup_s _ _ _
  have h_2 : (kup σ a (.inr (0, [.int (md + 1), .ref b, .int (nI c)]))) b = some (aO n f) := kup_i (kne_ao hb ha) hb
  refine K.aload_nR dJx4a65c_fastRemove_b59b0_10 rfl ?_
  refine K.getf dJx4a65c_fastRemove_b59b0_11 fl_Jx4a65c_48 h_1 rfl ?_
  refine K.iconst (v := 1) dJx4a65c_fastRemove_b59b0_14 (by decide) ?_
  refine K.isub dJx4a65c_fastRemove_b59b0_15 ?_
  rw [show (nI c) - 1 = nI (c - 1) from (by rw [show (1 : Int32) = nI 1 from rfl, pk_sub h1])]
  refine K.dup dJx4a65c_fastRemove_b59b0_16 rfl ?_
  refine K.istore_n (L' := [some (.ref a), some (.ref b), some (.int 0), some (.int (nI (c - 1)))]) dJx4a65c_fastRemove_b59b0_17 (by decide) rfl rfl ?_
  refine K.iload_n dJx4a65c_fastRemove_b59b0_18 rfl ?_
  refine K.icmp_le (tgt := 34) dJx4a65c_fastRemove_b59b0_19 (by decide) (fun c_19 => ?_) (fun c_19 => ?_)
  · skip
    have hc1 : c - 1 = 0 := by have := (nI_leI (a := c - 1) (b := 0) (by omega) (by omega)).mp c_19; omega
    refine K.aload_nR dJx4a65c_fastRemove_b59b0_34 rfl ?_
    refine K.aload_nR dJx4a65c_fastRemove_b59b0_35 rfl ?_
    refine K.iload_n dJx4a65c_fastRemove_b59b0_36 rfl ?_
    refine K.dup_x1 dJx4a65c_fastRemove_b59b0_37 rfl rfl ?_
    refine K.putf (fs' := [.int (md + 1), .ref b, .int (nI (c - 1))]) dJx4a65c_fastRemove_b59b0_38 fp_Jx4a65c_48 (fun h => by cases h) h_1 rfl rfl (Nat.le_of_ble_eq_true rfl) rfl ?_
    have h_3 : (kup (kup σ a (.inr (0, [.int (md + 1), .ref b, .int (nI c)]))) a (.inr (0, [.int (md + 1), .ref b, .int (nI (c - 1))]))) a = some (.inr (0, [.int (md + 1), .ref b, .int (nI (c - 1))])) := kup_s _ _ _
    have h_4 : (kup (kup σ a (.inr (0, [.int (md + 1), .ref b, .int (nI c)]))) a (.inr (0, [.int (md + 1), .ref b, .int (nI (c - 1))]))) b = some (aO n f) := kup_i (kne_ao h_2 h_1) h_2
    refine K.aconst_null dJx4a65c_fastRemove_b59b0_41 ?_
    refine K.aastoreN (j := c - 1) dJx4a65c_fastRemove_b59b0_42 h_4 rfl (by omega) (by omega) ?_
    have h_5 : (kup (kup (kup σ a (.inr (0, [.int (md + 1), .ref b, .int (nI c)]))) a (.inr (0, [.int (md + 1), .ref b, .int (nI (c - 1))]))) b (aO n (va_up f (c - 1) none))) a = some (.inr (0, [.int (md + 1), .ref b, .int (nI (c - 1))])) := kup_i (kne_oa h_3 h_4) h_3
    have h_6 : (kup (kup (kup σ a (.inr (0, [.int (md + 1), .ref b, .int (nI c)]))) a (.inr (0, [.int (md + 1), .ref b, .int (nI (c - 1))]))) b (aO n (va_up f (c - 1) none))) b = some (aO n (va_up f (c - 1) none)) := kup_s _ _ _
    refine K.vret dJx4a65c_fastRemove_b59b0_43 rfl ?_
    refine ⟨rfl, ?_⟩
    have hcp : va_cpy f f 1 0 (c - 1) = f := by rw [hc1, cpy0]
    funext q9
    unfold kfr kup
    by_cases e1 : q9 = a
    · simp [e1, kne_oa ha hb]
    · by_cases e2 : q9 = b
      · simp [e1, e2, kne_ao hb ha, hcp]
      · simp [e1, e2]
  · skip
    have hc1 : 0 < c - 1 := Nat.not_le.mp fun q => c_19 (nI_le (a := c - 1) (b := 0) q (by omega))
    refine K.aload_nR dJx4a65c_fastRemove_b59b0_22 rfl ?_
    refine K.iload_n dJx4a65c_fastRemove_b59b0_23 rfl ?_
    refine K.iconst (v := 1) dJx4a65c_fastRemove_b59b0_24 (by decide) ?_
    refine K.iadd dJx4a65c_fastRemove_b59b0_25 ?_
    refine K.aload_nR dJx4a65c_fastRemove_b59b0_26 rfl ?_
    refine K.iload_n dJx4a65c_fastRemove_b59b0_27 rfl ?_
    refine K.iload_n dJx4a65c_fastRemove_b59b0_28 rfl ?_
    refine K.iload_n dJx4a65c_fastRemove_b59b0_29 rfl ?_
    refine K.isub dJx4a65c_fastRemove_b59b0_30 ?_
    rw [show nI (c - 1) - 0 = nI (c - 1) from (by rw [show (0 : Int32) = nI 0 from rfl, pk_sub (by omega), Nat.sub_zero]), show (0 : Int32) + 1 = nI 1 from rfl]
    refine K.copyq (sp := 1) (dp := 0) (n := c - 1) dJx4a65c_fastRemove_b59b0_31 la_Jx4a65c_112 h_2 h_2 (by omega) (by omega) (by omega) (by omega) hcl hca (fun i hi y hy => ?_) rfl rfl ?_
    · obtain ⟨fs, hfs⟩ := hel (1 + i) (by omega) y hy
      exact kobj_up ha hfs
    have h_7 : (kup (kup σ a (.inr (0, [.int (md + 1), .ref b, .int (nI c)]))) b (aO n (va_cpy f f 1 0 (c - 1)))) a = some (.inr (0, [.int (md + 1), .ref b, .int (nI c)])) := kup_i (kne_oa h_1 h_2) h_1
    have h_8 : (kup (kup σ a (.inr (0, [.int (md + 1), .ref b, .int (nI c)]))) b (aO n (va_cpy f f 1 0 (c - 1)))) b = some (aO n (va_cpy f f 1 0 (c - 1))) := kup_s _ _ _
    refine K.aload_nR dJx4a65c_fastRemove_b59b0_34 rfl ?_
    refine K.aload_nR dJx4a65c_fastRemove_b59b0_35 rfl ?_
    refine K.iload_n dJx4a65c_fastRemove_b59b0_36 rfl ?_
    refine K.dup_x1 dJx4a65c_fastRemove_b59b0_37 rfl rfl ?_
    refine K.putf (fs' := [.int (md + 1), .ref b, .int (nI (c - 1))]) dJx4a65c_fastRemove_b59b0_38 fp_Jx4a65c_48 (fun h => by cases h) h_7 rfl rfl (Nat.le_of_ble_eq_true rfl) rfl ?_
    have h_9 : (kup (kup (kup σ a (.inr (0, [.int (md + 1), .ref b, .int (nI c)]))) b (aO n (va_cpy f f 1 0 (c - 1)))) a (.inr (0, [.int (md + 1), .ref b, .int (nI (c - 1))]))) a = some (.inr (0, [.int (md + 1), .ref b, .int (nI (c - 1))])) := kup_s _ _ _
    have h_10 : (kup (kup (kup σ a (.inr (0, [.int (md + 1), .ref b, .int (nI c)]))) b (aO n (va_cpy f f 1 0 (c - 1)))) a (.inr (0, [.int (md + 1), .ref b, .int (nI (c - 1))]))) b = some (aO n (va_cpy f f 1 0 (c - 1))) := kup_i (kne_ao h_8 h_7) h_8
    refine K.aconst_null dJx4a65c_fastRemove_b59b0_41 ?_
    refine K.aastoreN (j := c - 1) dJx4a65c_fastRemove_b59b0_42 h_10 rfl (by omega) (by omega) ?_
    have h_11 : (kup (kup (kup (kup σ a (.inr (0, [.int (md + 1), .ref b, .int (nI c)]))) b (aO n (va_cpy f f 1 0 (c - 1)))) a (.inr (0, [.int (md + 1), .ref b, .int (nI (c - 1))]))) b (aO n (va_up (va_cpy f f 1 0 (c - 1)) (c - 1) none))) a = some (.inr (0, [.int (md + 1), .ref b, .int (nI (c - 1))])) := kup_i (kne_oa h_9 h_10) h_9
    have h_12 : (kup (kup (kup (kup σ a (.inr (0, [.int (md + 1), .ref b, .int (nI c)]))) b (aO n (va_cpy f f 1 0 (c - 1)))) a (.inr (0, [.int (md + 1), .ref b, .int (nI (c - 1))]))) b (aO n (va_up (va_cpy f f 1 0 (c - 1)) (c - 1) none))) b = some (aO n (va_up (va_cpy f f 1 0 (c - 1)) (c - 1) none)) := kup_s _ _ _
    refine K.vret dJx4a65c_fastRemove_b59b0_43 rfl ?_
    refine ⟨rfl, ?_⟩
    funext q9
    unfold kfr kup
    by_cases e1 : q9 = a
    · simp [e1, kne_oa ha hb]
    · by_cases e2 : q9 = b
      · simp [e1, e2, kne_ao hb ha]
      · simp [e1, e2]

theorem r_remove {Λ : kL} {σ : kh} {a b c n : Nat} {f : Nat → Option Nat} {md : Int32} (ha : σ a = some (oAL b (nI c) md)) (hb : σ b = some (aO n f)) (hcn : c ≤ n) (hn : n ≤ 100000) (h1 : 1 ≤ c) {ci N : Nat} {C : String} {T : u_T} {ty : Nat → FieldType} (hcl : kCls ci C T N ty) (hca : Cond.castable C "java/lang/Object" ∈ lw_tbl) (hel : ∀ i, i < c → ∀ y, f i = some y → ∃ fs, σ y = some (.inr (ci, fs))) {y0 : Nat} (hf0 : f 0 = some y0) : kCt Λ mJx4a65c_remove_915e3 0 0 [.ref a, .int 0] σ (fun r σ' => r = some (.ref y0) ∧ σ' = kfr σ a b c n md f) := by
  refine kCt.of pn_Jx4a65c [some (.ref a), some (.int 0), none, none] rfl (Nat.le_of_ble_eq_true rfl) fun X => ?_
  refine K.iload_n dJx4a65c_remove_915e3_0 rfl ?_
  refine K.aload_nR dJx4a65c_remove_915e3_1 rfl ?_
  refine K.getf dJx4a65c_remove_915e3_2 fl_Jx4a65c_48 ha rfl ?_
  refine K.callS0 (b := 0) [.int 0, .int (nI c)] dJx4a65c_remove_915e3_5 mdJ15_checkIndex_7cf53 ssJ15_checkIndex_7cf53 lk_Jx4a65c_118 rfl rfl rfl rfl (r_ocheck (by decide) (show nI 0 < nI c from nI_lt h1 (by omega))) ?_
  rintro _ σ9 ⟨rfl, e9⟩
  have e9 := e9.symm; subst e9
  refine K.pop dJx4a65c_remove_915e3_8 rfl ?_
  refine K.aload_nR dJx4a65c_remove_915e3_9 rfl ?_
  refine K.getf dJx4a65c_remove_915e3_10 fl_Jx4a65c_9 ha rfl ?_
  refine K.astore_n (L' := [some (.ref a), some (.int 0), some (.ref b), none]) dJx4a65c_remove_915e3_13 (by decide) rfl rfl ?_
  refine K.aload_nR dJx4a65c_remove_915e3_14 rfl ?_
  refine K.iload_n dJx4a65c_remove_915e3_15 rfl ?_
  refine K.aaload (j := 0) dJx4a65c_remove_915e3_16 hb rfl (by omega) (by omega) ?_
  rw [hf0]
  refine K.astore_n (L' := [some (.ref a), some (.int 0), some (.ref b), some (.ref y0)]) dJx4a65c_remove_915e3_17 (by decide) rfl rfl ?_
  refine K.aload_nR dJx4a65c_remove_915e3_18 rfl ?_
  refine K.aload_nR dJx4a65c_remove_915e3_19 rfl ?_
  refine K.iload_n dJx4a65c_remove_915e3_20 rfl ?_
  refine K.callV0 [.ref b, .int 0] dJx4a65c_remove_915e3_21 mdJx4a65c_fastRemove_b59b0 imJx4a65c_fastRemove_b59b0 seJx4a65c_fastRemove_b59b0 (kc_0).1 ha lk_Jx4a65c_144 rfl rfl rfl rfl (r_fastRemove ha hb hcn hn h1 hcl hca hel) ?_
  rintro _ _ ⟨rfl, rfl⟩
  refine K.aload_nR dJx4a65c_remove_915e3_24 rfl ?_
  refine K.aret (r := some y0) dJx4a65c_remove_915e3_25 rfl (by first | exact Or.inl ⟨_, rfl⟩ | exact Or.inr ⟨_, rfl⟩) ?_
  exact ⟨rfl, rfl⟩

theorem r_acInit {Λ : kL} {σ : kh} (a : Nat) : kCt Λ mJxa1e45_init_da8c8 0 0 [.ref a] σ (fun r σ' => r = none ∧ σ' = σ) := by
  refine kCt.of pn_Jxa1e45 [some (.ref a)] rfl (Nat.le_of_ble_eq_true rfl) fun X => ?_
  refine K.aload_nR dJxa1e45_init_da8c8_0 rfl ?_
  refine K.objInit dJxa1e45_init_da8c8_1 lo_Jxa1e45_1 oi_im oi_co rfl rfl ?_
  refine K.vret dJxa1e45_init_da8c8_4 rfl ?_
  exact ⟨rfl, rfl⟩

theorem r_alInit {Λ : kL} {σ : kh} {a : Nat} (ha : σ a = some (.inr (0, [.int 0, .null, .int 0]))) : kCt Λ mJxc12de_init_da8c8 0 0 [.ref a] σ (fun r σ' => r = none ∧ σ' = kup σ a (.inr (0, [.int 0, .null, .int 0]))) := by
  refine kCt.of pn_Jxc12de [some (.ref a)] rfl (Nat.le_of_ble_eq_true rfl) fun X => ?_
  refine K.aload_nR dJxc12de_init_da8c8_0 rfl ?_
  refine K.callI0 [] dJxc12de_init_da8c8_1 mdJxa1e45_init_da8c8 ⟨rfl, rfl⟩ imJxa1e45_init_da8c8 lk_Jxc12de_1 rfl rfl rfl rfl (r_acInit a) ?_
  rintro _ σ9 ⟨rfl, e9⟩
  have e9 := e9.symm; subst e9
  refine K.aload_nR dJxc12de_init_da8c8_4 rfl ?_
  refine K.iconst (v := 0) dJxc12de_init_da8c8_5 (by decide) ?_
  refine K.putf (fs' := [.int 0, .null, .int 0]) dJxc12de_init_da8c8_6 fp_Jxc12de_7 (fun h => by cases h) ha rfl rfl (Nat.le_of_ble_eq_true rfl) rfl ?_
  have h_1 : (kup σ a (.inr (0, [.int 0, .null, .int 0]))) a = some (.inr (0, [.int 0, .null, .int 0])) := kup_s _ _ _
  refine K.vret dJxc12de_init_da8c8_9 rfl ?_
  exact ⟨rfl, rfl⟩

theorem r_init {Λ : kL} {σ : kh} {a : Nat} (ha : σ a = some (.inr (0, [.int 0, .null, .int 0]))) (hJ : kJd Λ) : kCt Λ mJx4a65c_init_da8c8 0 0 [.ref a] σ (fun r σ' => r = none ∧ σ' = kup σ a (oAL (kEmp Λ) 0 0)) := by
  refine kCt.of pn_Jx4a65c [some (.ref a)] rfl (Nat.le_of_ble_eq_true rfl) fun X => ?_
  refine K.aload_nR dJx4a65c_init_da8c8_0 rfl ?_
  refine K.callI0 [] dJx4a65c_init_da8c8_1 mdJxc12de_init_da8c8 ⟨rfl, rfl⟩ imJxc12de_init_da8c8 lk_Jx4a65c_1 rfl rfl rfl rfl (r_alInit ha) ?_
  rintro _ _ ⟨rfl, rfl⟩
  have h_a : (kup σ a (.inr (0, [.int 0, .null, .int 0]))) a = some (.inr (0, [.int 0, .null, .int 0])) := kup_s _ _ _
  refine K.aload_nR dJx4a65c_init_da8c8_4 rfl ?_
  refine K.getsC dJx4a65c_init_da8c8_5 hJ.1 fw_Jx4a65c_39 ?_
  refine K.putf (fs' := [.int 0, .ref (kEmp Λ), .int 0]) dJx4a65c_init_da8c8_8 fp_Jx4a65c_9 (fun h => by cases h) h_a rfl rfl (Nat.le_of_ble_eq_true rfl) rfl ?_
  have h_1 : (kup (kup σ a (.inr (0, [.int 0, .null, .int 0]))) a (.inr (0, [.int 0, .ref (kEmp Λ), .int 0]))) a = some (.inr (0, [.int 0, .ref (kEmp Λ), .int 0])) := kup_s _ _ _
  refine K.vret dJx4a65c_init_da8c8_11 rfl ?_
  exact ⟨rfl, kup_up _ _ _ _⟩
