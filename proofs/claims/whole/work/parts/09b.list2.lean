/-! ArrayList: add, get, remove and their like, over object and array (K) -/

theorem r_add3R {Λ : kL} {σ : kh} {a b c n : Nat} {md : Int32} {f : Nat → Option Nat} (ha : σ a = some (oAL b (nI c) md)) (hb : σ b = some (aO n f)) (hc : c < n) (hn : n ≤ 100000) {ci N : Nat} {C : String} {T : u_T} {ty : Nat → FieldType} (hcl : kCls ci C T N ty) (hca : Cond.castable C "java/lang/Object" ∈ lw_tbl) {v : Nat} {vs : List Value} (hv : σ v = some (.inr (ci, vs))) : kCt Λ mJx4a65c_add_72be8 0 0 [.ref a, .ref v, .ref b, .int (nI c)] σ (fun r σ' => r = none ∧ σ' = kup (kup σ b (aO n (va_up f c (some v)))) a (oAL b (nI (c + 1)) md)) := by
  refine kCt.of pn_Jx4a65c [some (.ref a), some (.ref v), some (.ref b), some (.int (nI c))] rfl (Nat.le_of_ble_eq_true rfl) fun X => ?_
  refine K.iload_n dJx4a65c_add_72be8_0 rfl ?_
  refine K.aload_nR dJx4a65c_add_72be8_1 rfl ?_
  refine K.alen (v := nI n) dJx4a65c_add_72be8_2 hb (by decide) rfl ?_
  refine K.icmp_ne (tgt := 11) dJx4a65c_add_72be8_3 (by decide) (fun c_3 => ?_) (fun c_3 => absurd ((nI_eq (by omega) (by omega)).mp c_3) (by omega))
  refine K.aload_nR dJx4a65c_add_72be8_11 rfl ?_
  refine K.iload_n dJx4a65c_add_72be8_12 rfl ?_
  refine K.aload_nR dJx4a65c_add_72be8_13 rfl ?_
  refine K.aastore (j := c) dJx4a65c_add_72be8_14 hb rfl (by omega) (by omega) hv hcl hca ?_
  have h_1 : (kup σ b (aO n (va_up f c (some v)))) a = some (.inr (0, [.int md, .ref b, .int (nI c)])) := kup_i (kne_oa ha hb) ha
  have h_2 : (kup σ b (aO n (va_up f c (some v)))) b = some (aO n (va_up f c (some v))) := kup_s _ _ _
  refine K.aload_nR dJx4a65c_add_72be8_15 rfl ?_
  refine K.iload_n dJx4a65c_add_72be8_16 rfl ?_
  refine K.iconst (v := 1) dJx4a65c_add_72be8_17 (by decide) ?_
  refine K.iadd dJx4a65c_add_72be8_18 ?_
  rw [show (nI c) + 1 = nI (c + 1) from (nI_1 c)]
  refine K.putf (fs' := [.int md, .ref b, .int (nI (c + 1))]) dJx4a65c_add_72be8_19 fp_Jx4a65c_48 (fun h => by cases h) h_1 rfl rfl (Nat.le_of_ble_eq_true rfl) rfl ?_
  have h_3 : (kup (kup σ b (aO n (va_up f c (some v)))) a (.inr (0, [.int md, .ref b, .int (nI (c + 1))]))) a = some (.inr (0, [.int md, .ref b, .int (nI (c + 1))])) := kup_s _ _ _
  have h_4 : (kup (kup σ b (aO n (va_up f c (some v)))) a (.inr (0, [.int md, .ref b, .int (nI (c + 1))]))) b = some (aO n (va_up f c (some v))) := kup_i (kne_ao h_2 h_1) h_2
  refine K.vret dJx4a65c_add_72be8_22 rfl ?_
  exact ⟨rfl, rfl⟩

theorem r_add3F {Λ : kL} {σ : kh} {a b n : Nat} {md : Int32} {f : Nat → Option Nat} (ha : σ a = some (oAL b (nI n) md)) (hb : σ b = some (aO n f)) (h2 : 2 ≤ n) (hn : n ≤ 40000) (hJ : kJd Λ) {ci N : Nat} {C : String} {T : u_T} {ty : Nat → FieldType} (hcl : kCls ci C T N ty) (hca : Cond.castable C "java/lang/Object" ∈ lw_tbl) (hel : ∀ i, i < n → ∀ y, f i = some y → ∃ fs, σ y = some (.inr (ci, fs))) {v : Nat} {vs : List Value} (hv : σ v = some (.inr (ci, vs))) : kCt Λ mJx4a65c_add_72be8 1 (n + n / 2) [.ref a, .ref v, .ref b, .int (nI n)] σ (fun r σ' => ∃ q, kB Λ ≤ q ∧ (∀ a c, σ a = some c → a < q) ∧ r = none ∧ σ' = kup (kup (kup (kup σ q (aO (n + n / 2) (va_cpy f (fun _ => none) 0 0 n))) a (oAL q (nI n) md)) q (aO (n + n / 2) (va_up (va_cpy f (fun _ => none) 0 0 n) n (some v)))) a (oAL q (nI (n + 1)) md)) := by
  refine kCt.of pn_Jx4a65c [some (.ref a), some (.ref v), some (.ref b), some (.int (nI n))] rfl (Nat.le_of_ble_eq_true rfl) fun X => ?_
  refine K.iload_n dJx4a65c_add_72be8_0 rfl ?_
  refine K.aload_nR dJx4a65c_add_72be8_1 rfl ?_
  refine K.alen (v := nI n) dJx4a65c_add_72be8_2 hb (by decide) rfl ?_
  refine K.icmp_ne (tgt := 11) dJx4a65c_add_72be8_3 (by decide) (fun c_3 => absurd c_3 (fun q => q rfl)) (fun c_3 => ?_)
  refine K.aload_nR dJx4a65c_add_72be8_6 rfl ?_
  refine K.less (bc' := 0 + 1) (bs' := 0 + (n + n / 2)) (by omega) (by omega) ?_
  refine K.callV [] dJx4a65c_add_72be8_7 mdJx4a65c_grow_d5877 imJx4a65c_grow_d5877 seJx4a65c_grow_d5877 (kc_0).1 ha lk_Jx4a65c_129 rfl rfl rfl rfl (r_growF0 ha hb h2 hn hJ hcl hca hel) ?_
  rintro _ _ ⟨q, g1, g2, rfl, rfl⟩
  have n_qa : q ≠ a := Ne.symm (Nat.ne_of_lt (g2 _ _ ha))
  have h_a : (kup (kup σ q (aO (n + n / 2) (va_cpy f (fun _ => none) 0 0 n))) a (oAL q (nI n) md)) a = some (oAL q (nI n) md) := kup_s _ _ _
  have h_q : (kup (kup σ q (aO (n + n / 2) (va_cpy f (fun _ => none) 0 0 n))) a (oAL q (nI n) md)) q = some (aO (n + n / 2) (va_cpy f (fun _ => none) 0 0 n)) := kup_i n_qa (kup_s _ _ _)
  have h_v : ∃ vs, (kup (kup σ q (aO (n + n / 2) (va_cpy f (fun _ => none) 0 0 n))) a (oAL q (nI n) md)) v = some (.inr (ci, vs)) := by
    by_cases e : v = a
    · subst e; rw [ha] at hv; cases hv; exact ⟨_, h_a⟩
    · exact ⟨vs, kup_i e (kup_i (Nat.ne_of_lt (g2 _ _ hv)) hv)⟩
  obtain ⟨vs9, h_v⟩ := h_v
  refine K.astore_n (L' := [some (.ref a), some (.ref v), some (.ref q), some (.int (nI n))]) dJx4a65c_add_72be8_10 (by decide) rfl rfl ?_
  refine K.aload_nR dJx4a65c_add_72be8_11 rfl ?_
  refine K.iload_n dJx4a65c_add_72be8_12 rfl ?_
  refine K.aload_nR dJx4a65c_add_72be8_13 rfl ?_
  refine K.aastore (j := n) dJx4a65c_add_72be8_14 h_q rfl (by omega) (by omega) h_v hcl hca ?_
  have h_1 : (kup (kup (kup σ q (aO (n + n / 2) (va_cpy f (fun _ => none) 0 0 n))) a (oAL q (nI n) md)) q (aO (n + n / 2) (va_up (va_cpy f (fun _ => none) 0 0 n) n (some v)))) a = some (.inr (0, [.int md, .ref q, .int (nI n)])) := kup_i (Ne.symm n_qa) h_a
  have h_2 : (kup (kup (kup σ q (aO (n + n / 2) (va_cpy f (fun _ => none) 0 0 n))) a (oAL q (nI n) md)) q (aO (n + n / 2) (va_up (va_cpy f (fun _ => none) 0 0 n) n (some v)))) q = some (aO (n + n / 2) (va_up (va_cpy f (fun _ => none) 0 0 n) n (some v))) := kup_s _ _ _
  refine K.aload_nR dJx4a65c_add_72be8_15 rfl ?_
  refine K.iload_n dJx4a65c_add_72be8_16 rfl ?_
  refine K.iconst (v := 1) dJx4a65c_add_72be8_17 (by decide) ?_
  refine K.iadd dJx4a65c_add_72be8_18 ?_
  rw [show (nI n) + 1 = nI (n + 1) from (nI_1 n)]
  refine K.putf (fs' := [.int md, .ref q, .int (nI (n + 1))]) dJx4a65c_add_72be8_19 fp_Jx4a65c_48 (fun h => by cases h) h_1 rfl rfl (Nat.le_of_ble_eq_true rfl) rfl ?_
  have h_3 : (kup (kup (kup (kup σ q (aO (n + n / 2) (va_cpy f (fun _ => none) 0 0 n))) a (oAL q (nI n) md)) q (aO (n + n / 2) (va_up (va_cpy f (fun _ => none) 0 0 n) n (some v)))) a (.inr (0, [.int md, .ref q, .int (nI (n + 1))]))) a = some (.inr (0, [.int md, .ref q, .int (nI (n + 1))])) := kup_s _ _ _
  have h_4 : (kup (kup (kup (kup σ q (aO (n + n / 2) (va_cpy f (fun _ => none) 0 0 n))) a (oAL q (nI n) md)) q (aO (n + n / 2) (va_up (va_cpy f (fun _ => none) 0 0 n) n (some v)))) a (.inr (0, [.int md, .ref q, .int (nI (n + 1))]))) q = some (aO (n + n / 2) (va_up (va_cpy f (fun _ => none) 0 0 n) n (some v))) := kup_i n_qa h_2
  refine K.vret dJx4a65c_add_72be8_22 rfl ?_
  exact ⟨q, g1, g2, rfl, rfl⟩

theorem r_add3E {Λ : kL} {σ : kh} {a : Nat} {md : Int32} (ha : σ a = some (oAL (kEmp Λ) 0 md)) (hJ : kJd Λ) {ci N : Nat} {C : String} {T : u_T} {ty : Nat → FieldType} (hcl : kCls ci C T N ty) (hca : Cond.castable C "java/lang/Object" ∈ lw_tbl) {v : Nat} {vs : List Value} (hv : σ v = some (.inr (ci, vs))) : kCt Λ mJx4a65c_add_72be8 1 10 [.ref a, .ref v, .ref (kEmp Λ), .int 0] σ (fun r σ' => ∃ q, kB Λ ≤ q ∧ (∀ a c, σ a = some c → a < q) ∧ r = none ∧ σ' = kup (kup (kup (kup σ q (aO 10 (fun _ => none))) a (oAL q 0 md)) q (aO 10 (va_up (fun _ => none) 0 (some v)))) a (oAL q (nI 1) md)) := by
  refine kCt.of pn_Jx4a65c [some (.ref a), some (.ref v), some (.ref (kEmp Λ)), some (.int 0)] rfl (Nat.le_of_ble_eq_true rfl) fun X => ?_
  refine K.iload_n dJx4a65c_add_72be8_0 rfl ?_
  refine K.aload_nR dJx4a65c_add_72be8_1 rfl ?_
  refine K.tlen dJx4a65c_add_72be8_2 hJ.2.1 ?_
  refine K.icmp_ne (tgt := 11) dJx4a65c_add_72be8_3 (by decide) (fun c_3 => absurd c_3 (fun q => q rfl)) (fun c_3 => ?_)
  refine K.aload_nR dJx4a65c_add_72be8_6 rfl ?_
  refine K.less (bc' := 0 + 1) (bs' := 0 + 10) (by omega) (by omega) ?_
  refine K.callV [] dJx4a65c_add_72be8_7 mdJx4a65c_grow_d5877 imJx4a65c_grow_d5877 seJx4a65c_grow_d5877 (kc_0).1 ha lk_Jx4a65c_129 rfl rfl rfl rfl (r_growE0 ha hJ) ?_
  rintro _ _ ⟨q, g1, g2, rfl, rfl⟩
  have n_qa : q ≠ a := Ne.symm (Nat.ne_of_lt (g2 _ _ ha))
  have h_a : (kup (kup σ q (aO 10 (fun _ => none))) a (oAL q 0 md)) a = some (oAL q 0 md) := kup_s _ _ _
  have h_q : (kup (kup σ q (aO 10 (fun _ => none))) a (oAL q 0 md)) q = some (aO 10 (fun _ => none)) := kup_i n_qa (kup_s _ _ _)
  have h_v : ∃ vs, (kup (kup σ q (aO 10 (fun _ => none))) a (oAL q 0 md)) v = some (.inr (ci, vs)) := by
    by_cases e : v = a
    · subst e; rw [ha] at hv; cases hv; exact ⟨_, h_a⟩
    · exact ⟨vs, kup_i e (kup_i (Nat.ne_of_lt (g2 _ _ hv)) hv)⟩
  obtain ⟨vs9, h_v⟩ := h_v
  refine K.astore_n (L' := [some (.ref a), some (.ref v), some (.ref q), some (.int 0)]) dJx4a65c_add_72be8_10 (by decide) rfl rfl ?_
  refine K.aload_nR dJx4a65c_add_72be8_11 rfl ?_
  refine K.iload_n dJx4a65c_add_72be8_12 rfl ?_
  refine K.aload_nR dJx4a65c_add_72be8_13 rfl ?_
  refine K.aastore (j := 0) dJx4a65c_add_72be8_14 h_q rfl (by omega) (by omega) h_v hcl hca ?_
  have h_1 : (kup (kup (kup σ q (aO 10 (fun _ => none))) a (oAL q 0 md)) q (aO 10 (va_up (fun _ => none) 0 (some v)))) a = some (.inr (0, [.int md, .ref q, .int 0])) := kup_i (Ne.symm n_qa) h_a
  have h_2 : (kup (kup (kup σ q (aO 10 (fun _ => none))) a (oAL q 0 md)) q (aO 10 (va_up (fun _ => none) 0 (some v)))) q = some (aO 10 (va_up (fun _ => none) 0 (some v))) := kup_s _ _ _
  refine K.aload_nR dJx4a65c_add_72be8_15 rfl ?_
  refine K.iload_n dJx4a65c_add_72be8_16 rfl ?_
  refine K.iconst (v := 1) dJx4a65c_add_72be8_17 (by decide) ?_
  refine K.iadd dJx4a65c_add_72be8_18 ?_
  rw [show 0 + 1 = nI 1 from (by decide)]
  refine K.putf (fs' := [.int md, .ref q, .int (nI 1)]) dJx4a65c_add_72be8_19 fp_Jx4a65c_48 (fun h => by cases h) h_1 rfl rfl (Nat.le_of_ble_eq_true rfl) rfl ?_
  have h_3 : (kup (kup (kup (kup σ q (aO 10 (fun _ => none))) a (oAL q 0 md)) q (aO 10 (va_up (fun _ => none) 0 (some v)))) a (.inr (0, [.int md, .ref q, .int (nI 1)]))) a = some (.inr (0, [.int md, .ref q, .int (nI 1)])) := kup_s _ _ _
  have h_4 : (kup (kup (kup (kup σ q (aO 10 (fun _ => none))) a (oAL q 0 md)) q (aO 10 (va_up (fun _ => none) 0 (some v)))) a (.inr (0, [.int md, .ref q, .int (nI 1)]))) q = some (aO 10 (va_up (fun _ => none) 0 (some v))) := kup_i n_qa h_2
  refine K.vret dJx4a65c_add_72be8_22 rfl ?_
  exact ⟨q, g1, g2, rfl, rfl⟩

theorem kobj_up {σ : kh} {a y ci cj : Nat} {fs gs hs : List Value} (ha : σ a = some (.inr (cj, fs))) (hy : σ y = some (.inr (ci, gs))) : ∃ zs, kup σ a (.inr (cj, hs)) y = some (.inr (ci, zs)) := by
  by_cases e : y = a
  · subst e
    rw [ha] at hy
    cases hy
    exact ⟨hs, kup_s _ _ _⟩
  · exact ⟨gs, kup_i e hy⟩

theorem r_addR {Λ : kL} {σ : kh} {a b c n : Nat} {md : Int32} {f : Nat → Option Nat} (ha : σ a = some (oAL b (nI c) md)) (hb : σ b = some (aO n f)) (hc : c < n) (hn : n ≤ 100000) {ci N : Nat} {C : String} {T : u_T} {ty : Nat → FieldType} (hcl : kCls ci C T N ty) (hca : Cond.castable C "java/lang/Object" ∈ lw_tbl) {v : Nat} {vs : List Value} (hv : σ v = some (.inr (ci, vs))) {mc ms : Nat} : kCt Λ mJx4a65c_add_9ea2d mc ms [.ref a, .ref v] σ (fun r σ' => r = some (.int 1) ∧ σ' = kup (kup (kup σ a (oAL b (nI c) (md + 1))) b (aO n (va_up f c (some v)))) a (oAL b (nI (c + 1)) (md + 1))) := by
  refine kCt.of pn_Jx4a65c [some (.ref a), some (.ref v)] rfl (Nat.le_of_ble_eq_true rfl) fun X => ?_
  refine K.aload_nR dJx4a65c_add_9ea2d_0 rfl ?_
  refine K.dup dJx4a65c_add_9ea2d_1 rfl ?_
  refine K.getf dJx4a65c_add_9ea2d_2 fl_Jx4a65c_63 ha rfl ?_
  refine K.iconst (v := 1) dJx4a65c_add_9ea2d_5 (by decide) ?_
  refine K.iadd dJx4a65c_add_9ea2d_6 ?_
  refine K.putf (fs' := [.int (md + 1), .ref b, .int (nI c)]) dJx4a65c_add_9ea2d_7 fp_Jx4a65c_63 (fun h => by cases h) ha rfl rfl (Nat.le_of_ble_eq_true rfl) rfl ?_
  have h_1 : (kup σ a (.inr (0, [.int (md + 1), .ref b, .int (nI c)]))) a = some (.inr (0, [.int (md + 1), .ref b, .int (nI c)])) := kup_s _ _ _
  have h_2 : (kup σ a (.inr (0, [.int (md + 1), .ref b, .int (nI c)]))) b = some (aO n f) := kup_i (kne_ao hb ha) hb
  refine K.aload_nR dJx4a65c_add_9ea2d_10 rfl ?_
  refine K.aload_nR dJx4a65c_add_9ea2d_11 rfl ?_
  refine K.aload_nR dJx4a65c_add_9ea2d_12 rfl ?_
  refine K.getf dJx4a65c_add_9ea2d_13 fl_Jx4a65c_9 h_1 rfl ?_
  refine K.aload_nR dJx4a65c_add_9ea2d_16 rfl ?_
  refine K.getf dJx4a65c_add_9ea2d_17 fl_Jx4a65c_48 h_1 rfl ?_
  refine K.callV0 [.ref v, .ref b, .int (nI c)] dJx4a65c_add_9ea2d_20 mdJx4a65c_add_72be8 imJx4a65c_add_72be8 seJx4a65c_add_72be8 (kc_0).1 h_1 lk_Jx4a65c_131 rfl rfl rfl rfl (by obtain ⟨vs9, h_v⟩ := kobj_up (hs := [.int (md + 1), .ref b, .int (nI c)]) ha hv; exact r_add3R h_1 h_2 hc hn hcl hca h_v) ?_
  rintro _ _ ⟨rfl, rfl⟩
  refine K.iconst (v := 1) dJx4a65c_add_9ea2d_23 (by decide) ?_
  refine K.zret dJx4a65c_add_9ea2d_24 rfl rfl ?_
  exact ⟨rfl, rfl⟩

theorem r_addF {Λ : kL} {σ : kh} {a b n : Nat} {md : Int32} {f : Nat → Option Nat} (ha : σ a = some (oAL b (nI n) md)) (hb : σ b = some (aO n f)) (h2 : 2 ≤ n) (hn : n ≤ 40000) (hJ : kJd Λ) {ci N : Nat} {C : String} {T : u_T} {ty : Nat → FieldType} (hcl : kCls ci C T N ty) (hca : Cond.castable C "java/lang/Object" ∈ lw_tbl) (hel : ∀ i, i < n → ∀ y, f i = some y → ∃ fs, σ y = some (.inr (ci, fs))) {v : Nat} {vs : List Value} (hv : σ v = some (.inr (ci, vs))) {mc ms : Nat} (hc1 : 1 ≤ mc) (hs1 : (n + n / 2) ≤ ms) : kCt Λ mJx4a65c_add_9ea2d mc ms [.ref a, .ref v] σ (fun r σ' => ∃ q, kB Λ ≤ q ∧ (∀ a c, σ a = some c → a < q) ∧ r = some (.int 1) ∧ σ' = kup (kup (kup (kup (kup σ a (oAL b (nI n) (md + 1))) q (aO (n + n / 2) (va_cpy f (fun _ => none) 0 0 n))) a (oAL q (nI n) (md + 1))) q (aO (n + n / 2) (va_up (va_cpy f (fun _ => none) 0 0 n) n (some v)))) a (oAL q (nI (n + 1)) (md + 1))) := by
  refine kCt.of pn_Jx4a65c [some (.ref a), some (.ref v)] rfl (Nat.le_of_ble_eq_true rfl) fun X => ?_
  refine K.aload_nR dJx4a65c_add_9ea2d_0 rfl ?_
  refine K.dup dJx4a65c_add_9ea2d_1 rfl ?_
  refine K.getf dJx4a65c_add_9ea2d_2 fl_Jx4a65c_63 ha rfl ?_
  refine K.iconst (v := 1) dJx4a65c_add_9ea2d_5 (by decide) ?_
  refine K.iadd dJx4a65c_add_9ea2d_6 ?_
  refine K.putf (fs' := [.int (md + 1), .ref b, .int (nI n)]) dJx4a65c_add_9ea2d_7 fp_Jx4a65c_63 (fun h => by cases h) ha rfl rfl (Nat.le_of_ble_eq_true rfl) rfl ?_
  have h_1 : (kup σ a (.inr (0, [.int (md + 1), .ref b, .int (nI n)]))) a = some (.inr (0, [.int (md + 1), .ref b, .int (nI n)])) := kup_s _ _ _
  have h_2 : (kup σ a (.inr (0, [.int (md + 1), .ref b, .int (nI n)]))) b = some (aO n f) := kup_i (kne_ao hb ha) hb
  refine K.aload_nR dJx4a65c_add_9ea2d_10 rfl ?_
  refine K.aload_nR dJx4a65c_add_9ea2d_11 rfl ?_
  refine K.aload_nR dJx4a65c_add_9ea2d_12 rfl ?_
  refine K.getf dJx4a65c_add_9ea2d_13 fl_Jx4a65c_9 h_1 rfl ?_
  refine K.aload_nR dJx4a65c_add_9ea2d_16 rfl ?_
  refine K.getf dJx4a65c_add_9ea2d_17 fl_Jx4a65c_48 h_1 rfl ?_
  refine K.less (bc' := (mc - 1) + 1) (bs' := (ms - (n + n / 2)) + (n + n / 2)) (by omega) (by omega) ?_
  refine K.callV [.ref v, .ref b, .int (nI n)] dJx4a65c_add_9ea2d_20 mdJx4a65c_add_72be8 imJx4a65c_add_72be8 seJx4a65c_add_72be8 (kc_0).1 h_1 lk_Jx4a65c_131 rfl rfl rfl rfl (by obtain ⟨vs9, h_v⟩ := kobj_up (hs := [.int (md + 1), .ref b, .int (nI n)]) ha hv; exact r_add3F h_1 h_2 h2 hn hJ hcl hca (fun i hi y hy => by obtain ⟨fs, hfs⟩ := hel i hi y hy; exact kobj_up ha hfs) h_v) ?_
  rintro _ _ ⟨q, g1, g2, rfl, rfl⟩
  refine K.iconst (v := 1) dJx4a65c_add_9ea2d_23 (by decide) ?_
  refine K.zret dJx4a65c_add_9ea2d_24 rfl rfl ?_
  refine ⟨q, g1, fun a9 c9 h9 => ?_, rfl, rfl⟩
  by_cases e : a9 = a
  · exact e ▸ g2 _ _ (kup_s _ _ _)
  · exact g2 a9 c9 (kup_i e h9)

theorem r_addE {Λ : kL} {σ : kh} {a : Nat} {md : Int32} (ha : σ a = some (oAL (kEmp Λ) 0 md)) (hJ : kJd Λ) {ci N : Nat} {C : String} {T : u_T} {ty : Nat → FieldType} (hcl : kCls ci C T N ty) (hca : Cond.castable C "java/lang/Object" ∈ lw_tbl) {v : Nat} {vs : List Value} (hv : σ v = some (.inr (ci, vs))) {mc ms : Nat} (hc1 : 1 ≤ mc) (hs1 : 10 ≤ ms) : kCt Λ mJx4a65c_add_9ea2d mc ms [.ref a, .ref v] σ (fun r σ' => ∃ q, kB Λ ≤ q ∧ (∀ a c, σ a = some c → a < q) ∧ r = some (.int 1) ∧ σ' = kup (kup (kup (kup (kup σ a (oAL (kEmp Λ) 0 (md + 1))) q (aO 10 (fun _ => none))) a (oAL q 0 (md + 1))) q (aO 10 (va_up (fun _ => none) 0 (some v)))) a (oAL q (nI 1) (md + 1))) := by
  refine kCt.of pn_Jx4a65c [some (.ref a), some (.ref v)] rfl (Nat.le_of_ble_eq_true rfl) fun X => ?_
  refine K.aload_nR dJx4a65c_add_9ea2d_0 rfl ?_
  refine K.dup dJx4a65c_add_9ea2d_1 rfl ?_
  refine K.getf dJx4a65c_add_9ea2d_2 fl_Jx4a65c_63 ha rfl ?_
  refine K.iconst (v := 1) dJx4a65c_add_9ea2d_5 (by decide) ?_
  refine K.iadd dJx4a65c_add_9ea2d_6 ?_
  refine K.putf (fs' := [.int (md + 1), .ref (kEmp Λ), .int 0]) dJx4a65c_add_9ea2d_7 fp_Jx4a65c_63 (fun h => by cases h) ha rfl rfl (Nat.le_of_ble_eq_true rfl) rfl ?_
  have h_1 : (kup σ a (.inr (0, [.int (md + 1), .ref (kEmp Λ), .int 0]))) a = some (.inr (0, [.int (md + 1), .ref (kEmp Λ), .int 0])) := kup_s _ _ _
  refine K.aload_nR dJx4a65c_add_9ea2d_10 rfl ?_
  refine K.aload_nR dJx4a65c_add_9ea2d_11 rfl ?_
  refine K.aload_nR dJx4a65c_add_9ea2d_12 rfl ?_
  refine K.getf dJx4a65c_add_9ea2d_13 fl_Jx4a65c_9 h_1 rfl ?_
  refine K.aload_nR dJx4a65c_add_9ea2d_16 rfl ?_
  refine K.getf dJx4a65c_add_9ea2d_17 fl_Jx4a65c_48 h_1 rfl ?_
  refine K.less (bc' := (mc - 1) + 1) (bs' := (ms - 10) + 10) (by omega) (by omega) ?_
  refine K.callV [.ref v, .ref (kEmp Λ), .int 0] dJx4a65c_add_9ea2d_20 mdJx4a65c_add_72be8 imJx4a65c_add_72be8 seJx4a65c_add_72be8 (kc_0).1 h_1 lk_Jx4a65c_131 rfl rfl rfl rfl (by obtain ⟨vs9, h_v⟩ := kobj_up (hs := [.int (md + 1), .ref (kEmp Λ), .int 0]) ha hv; exact r_add3E h_1 hJ hcl hca h_v) ?_
  rintro _ _ ⟨q, g1, g2, rfl, rfl⟩
  refine K.iconst (v := 1) dJx4a65c_add_9ea2d_23 (by decide) ?_
  refine K.zret dJx4a65c_add_9ea2d_24 rfl rfl ?_
  refine ⟨q, g1, fun a9 c9 h9 => ?_, rfl, rfl⟩
  by_cases e : a9 = a
  · exact e ▸ g2 _ _ (kup_s _ _ _)
  · exact g2 a9 c9 (kup_i e h9)
