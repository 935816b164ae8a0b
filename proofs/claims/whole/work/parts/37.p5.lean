/-! the reference: code, family, count -/
theorem cntT_s {p : Nat → Bool} {k : Nat} : cntT p (k + 1) = cntT p k + (if p k = true then 1 else 0) := rfl
theorem cntT_le (p : Nat → Bool) (k : Nat) : cntT p k ≤ k := by
  induction k with
  | zero => exact Nat.le_refl 0
  | succ k ih =>
    rw [cntT_s]
    by_cases h : p k = true
    · rw [if_pos h]; omega
    · rw [if_neg h]; omega

theorem p_code {Λ : kL} {m : Nat} {A : Nat → Nat} {I : Nat → Int32} {F : Nat → Nat → Int32} (hA : mInj A) {N : Nat → Int32} {B : Nat → List Int32} {T R : Nat → List (List Int32)} (hR : mR I F N B T R) (hW : wf N B T R) (q x : Int32) : mCt Λ mX12_code m A [.ref m, .int q, .int x] I F (mP (opCode N B T R q x)) := by
  refine mCt.of hA pn_X12 [some (.ref m), some (.int q), some (.int x)] rfl (Nat.le_of_ble_eq_true rfl) fun X => ?_
  obtain ⟨q_a, q_b, q_n, q_w, q_c, q_r, q_x, q_q, q_k, q_f, q_t⟩ := hR
  obtain ⟨w_a, w_n, w_w, w_c, w_r, w_x, w_q, w_k, w_f, w_t, w_m⟩ := hW
  have hk200 := w_k.1
  have hq200 := w_q.1
  refine M.aload_nR dX12_code_0 rfl ?_
  refine M.iconst (v := 0) dX12_code_1 (by decide) ?_
  refine M.puti dX12_code_2 fp_X12_188 rfl rfl ?_
  refine M.aload_nR dX12_code_5 rfl ?_
  refine M.iload_n dX12_code_6 rfl ?_
  refine M.if_lt (tgt := 18) dX12_code_7 (by decide) (fun c_7 => ?_) (fun c_7 => ?_)
  · skip
    refine M.iconst (v := 1) dX12_code_18 (by decide) ?_
    refine M.goto (tgt := 23) dX12_code_19 (by decide) ?_
    refine M.iconst (v := 1) dX12_code_23 (by decide) ?_
    refine M.callV [.int 1, .int 1] dX12_code_24 mdX12_throwsIf imX12_throwsIf seX12_throwsIf lk_X12_357 rfl rfl rfl rfl (m_throwsIf hA true 1) ?_
    rintro _ I9 F9 ⟨rfl, e9, e8⟩
    have e9 := e9.symm; subst e9; have e8 := e8.symm; subst e8
    refine M.if_eq (tgt := 32) dX12_code_27 (by decide) (fun c_27 => absurd c_27 (by decide)) (fun c_27 => ?_)
    refine M.iconst (v := 0) dX12_code_30 (by decide) ?_
    refine M.iret dX12_code_31 rfl ?_
    rw [opCode, if_pos (by first | exact Or.inl c_7 | exact Or.inr hge)]
    exact ⟨rfl, rfl, q_a, q_b, q_n, q_w, q_c, q_r, q_x, q_q, q_k, q_f, q_t⟩
  · skip
    obtain ⟨k, hk31, ek⟩ := nI_of c_7; subst ek
    have hcl : (nI k).toNatClampNeg = k := nI_clamp hk31
    refine M.iload_n dX12_code_10 rfl ?_
    refine M.aload_nR dX12_code_11 rfl ?_
    refine M.geti (v := nI (T 27).length) dX12_code_12 fl_X12_408 rfl rfl q_k.1 ?_
    refine M.icmp_lt (tgt := 22) dX12_code_15 (by decide) (fun c_15 => ?_) (fun c_15 => ?_)
    · skip
      have lt_k : k < (T 27).length := (nI_ltI hk31 (by omega)).mp c_15
      have hok : ¬ (nI k < 0 ∨ nI (T 27).length ≤ nI k) := fun z => z.elim c_7 (fun z => absurd c_15 (Int32.not_lt.mpr z))
      obtain ⟨q9, hq9, eq9⟩ := w_k.2.2.1 k lt_k
      refine M.iconst (v := 0) dX12_code_22 (by decide) ?_
      refine M.iconst (v := 1) dX12_code_23 (by decide) ?_
      refine M.callV [.int 0, .int 1] dX12_code_24 mdX12_throwsIf imX12_throwsIf seX12_throwsIf lk_X12_357 rfl rfl rfl rfl (m_throwsIf hA false 1) ?_
      rintro _ I9 F9 ⟨rfl, e9, e8⟩
      have e9 := e9.symm; subst e9; have e8 := e8.symm; subst e8
      refine M.if_eq (tgt := 32) dX12_code_27 (by decide) (fun c_27 => ?_) (fun c_27 => absurd rfl c_27)
      refine M.iload_n dX12_code_32 rfl ?_
      by_cases sw_33 : x.toInt < 0 ∨ 4 < x.toInt
      · refine M.tableOut (tgt := 133) dX12_code_33 sw_33 (by decide) ?_
        refine M.aload_nR dX12_code_133 rfl ?_
        refine M.iconst (v := 1) dX12_code_134 (by decide) ?_
        refine M.puti dX12_code_135 fp_X12_188 rfl rfl ?_
        refine M.iconst (v := 0) dX12_code_138 (by decide) ?_
        refine M.iret dX12_code_139 rfl ?_
        have hv9 : codV N T k x = none := by rw [codV, if_neg (sw_no (x := x) (v := 0) 0 4 sw_33 (by decide)), if_neg (sw_no (x := x) (v := 1) 0 4 sw_33 (by decide)), if_neg (sw_no (x := x) (v := 2) 0 4 sw_33 (by decide)), if_neg (sw_no (x := x) (v := 3) 0 4 sw_33 (by decide)), if_neg (sw_no (x := x) (v := 4) 0 4 sw_33 (by decide))]
        rw [opCode, if_neg hok, hcl, hv9]
        exact ⟨rfl, rfl, q_a, q_b, q_n, q_w, q_c, q_r, q_x, q_q, q_k, q_f, q_t⟩
      by_cases sw_33_0 : x = 0
      · refine M.tableIn (off := 35) (tgt := 68) dX12_code_33 (by rw [sw_33_0]; decide) (by rw [sw_33_0]; decide) (by rw [sw_33_0]; rfl) (by decide) ?_
        refine M.aload_nR dX12_code_68 rfl ?_
        refine M.getr dX12_code_69 fl_X12_110 rfl rfl ?_
        refine M.iload_n dX12_code_72 rfl ?_
        refine M.ialdv (k9 := 44) (j := k) (g := F 44) (v := ro (T 27) k 5) dX12_code_73 rfl rfl rfl rfl (show k < 200 by omega) (q_k.2.2.2.2.2.2 k lt_k) ?_
        refine M.if_lt (tgt := 81) dX12_code_74 (by decide) (fun c_74 => ?_) (fun c_74 => ?_)
        · skip
          refine M.aload_nR dX12_code_81 rfl ?_
          refine M.geti (v := N 25) dX12_code_82 fl_X12_366 rfl rfl q_n.2.2.1 ?_
          refine M.aload_nR dX12_code_85 rfl ?_
          refine M.getr dX12_code_86 fl_X12_107 rfl rfl ?_
          refine M.iload_n dX12_code_89 rfl ?_
          refine M.ialdv (k9 := 43) (j := k) (g := F 43) (v := ro (T 27) k 4) dX12_code_90 rfl rfl rfl rfl (show k < 200 by omega) (q_k.2.2.2.2.2.1 k lt_k) ?_
          refine M.icmp_lt (tgt := 98) dX12_code_91 (by decide) (fun c_91 => ?_) (fun c_91 => ?_)
          · skip
            refine M.iconst (v := 0) dX12_code_98 (by decide) ?_
            refine M.iret dX12_code_99 rfl ?_
            have hv9 : codV N T k x = some (0) := by rw [codV, if_pos sw_33_0, if_neg (Int32.not_le.mpr c_74), if_neg (Int32.not_le.mpr c_91)]
            rw [opCode, if_neg hok, hcl, hv9]
            exact ⟨rfl, rfl, q_a, q_b, q_n, q_w, q_c, q_r, q_x, q_q, q_k, q_f, q_t⟩
          · skip
            refine M.iconst (v := 2) dX12_code_94 (by decide) ?_
            refine M.goto (tgt := 99) dX12_code_95 (by decide) ?_
            refine M.iret dX12_code_99 rfl ?_
            have hv9 : codV N T k x = some (2) := by rw [codV, if_pos sw_33_0, if_neg (Int32.not_le.mpr c_74), if_pos (Int32.not_lt.mp c_91)]
            rw [opCode, if_neg hok, hcl, hv9]
            exact ⟨rfl, rfl, q_a, q_b, q_n, q_w, q_c, q_r, q_x, q_q, q_k, q_f, q_t⟩
        · skip
          refine M.iconst (v := 1) dX12_code_77 (by decide) ?_
          refine M.goto (tgt := 99) dX12_code_78 (by decide) ?_
          refine M.iret dX12_code_99 rfl ?_
          have hv9 : codV N T k x = some (1) := by rw [codV, if_pos sw_33_0, if_pos (Int32.not_lt.mp c_74)]
          rw [opCode, if_neg hok, hcl, hv9]
          exact ⟨rfl, rfl, q_a, q_b, q_n, q_w, q_c, q_r, q_x, q_q, q_k, q_f, q_t⟩
      by_cases sw_33_1 : x = 1
      · refine M.tableIn (off := 67) (tgt := 100) dX12_code_33 (by rw [sw_33_1]; decide) (by rw [sw_33_1]; decide) (by rw [sw_33_1]; rfl) (by decide) ?_
        refine M.aload_nR dX12_code_100 rfl ?_
        refine M.getr dX12_code_101 fl_X12_70 rfl rfl ?_
        refine M.aload_nR dX12_code_104 rfl ?_
        refine M.getr dX12_code_105 fl_X12_98 rfl rfl ?_
        refine M.iload_n dX12_code_108 rfl ?_
        refine M.ialdv (k9 := 40) (j := k) (g := F 40) (v := nI q9) dX12_code_109 rfl rfl rfl rfl (show k < 200 by omega) ((q_k.2.2.1 k lt_k).trans eq9) ?_
        refine M.ialdv (k9 := 29) (j := q9) (g := F 29) (v := ro (T 23) q9 0) dX12_code_110 rfl rfl rfl rfl (show q9 < 200 by omega) (q_q.2.1 q9 hq9) ?_
        refine M.iret dX12_code_111 rfl ?_
        have hv9 : codV N T k x = some (ro (T 23) q9 0) := by rw [codV, if_neg sw_33_0, if_pos sw_33_1, rn_at eq9 (by omega)]
        rw [opCode, if_neg hok, hcl, hv9]
        exact ⟨rfl, rfl, q_a, q_b, q_n, q_w, q_c, q_r, q_x, q_q, q_k, q_f, q_t⟩
      by_cases sw_33_2 : x = 2
      · refine M.tableIn (off := 79) (tgt := 112) dX12_code_33 (by rw [sw_33_2]; decide) (by rw [sw_33_2]; decide) (by rw [sw_33_2]; rfl) (by decide) ?_
        refine M.aload_nR dX12_code_112 rfl ?_
        refine M.getr dX12_code_113 fl_X12_101 rfl rfl ?_
        refine M.iload_n dX12_code_116 rfl ?_
        refine M.ialdv (k9 := 41) (j := k) (g := F 41) (v := ro (T 27) k 2) dX12_code_117 rfl rfl rfl rfl (show k < 200 by omega) (q_k.2.2.2.1 k lt_k) ?_
        refine M.iret dX12_code_118 rfl ?_
        have hv9 : codV N T k x = some (ro (T 27) k 2) := by rw [codV, if_neg sw_33_0, if_neg sw_33_1, if_pos sw_33_2]
        rw [opCode, if_neg hok, hcl, hv9]
        exact ⟨rfl, rfl, q_a, q_b, q_n, q_w, q_c, q_r, q_x, q_q, q_k, q_f, q_t⟩
      by_cases sw_33_3 : x = 3
      · refine M.tableIn (off := 86) (tgt := 119) dX12_code_33 (by rw [sw_33_3]; decide) (by rw [sw_33_3]; decide) (by rw [sw_33_3]; rfl) (by decide) ?_
        refine M.aload_nR dX12_code_119 rfl ?_
        refine M.getr dX12_code_120 fl_X12_104 rfl rfl ?_
        refine M.iload_n dX12_code_123 rfl ?_
        refine M.ialdv (k9 := 42) (j := k) (g := F 42) (v := ro (T 27) k 3) dX12_code_124 rfl rfl rfl rfl (show k < 200 by omega) (q_k.2.2.2.2.1 k lt_k) ?_
        refine M.iret dX12_code_125 rfl ?_
        have hv9 : codV N T k x = some (ro (T 27) k 3) := by rw [codV, if_neg sw_33_0, if_neg sw_33_1, if_neg sw_33_2, if_pos sw_33_3]
        rw [opCode, if_neg hok, hcl, hv9]
        exact ⟨rfl, rfl, q_a, q_b, q_n, q_w, q_c, q_r, q_x, q_q, q_k, q_f, q_t⟩
      by_cases sw_33_4 : x = 4
      · refine M.tableIn (off := 93) (tgt := 126) dX12_code_33 (by rw [sw_33_4]; decide) (by rw [sw_33_4]; decide) (by rw [sw_33_4]; rfl) (by decide) ?_
        refine M.aload_nR dX12_code_126 rfl ?_
        refine M.getr dX12_code_127 fl_X12_110 rfl rfl ?_
        refine M.iload_n dX12_code_130 rfl ?_
        refine M.ialdv (k9 := 44) (j := k) (g := F 44) (v := ro (T 27) k 5) dX12_code_131 rfl rfl rfl rfl (show k < 200 by omega) (q_k.2.2.2.2.2.2 k lt_k) ?_
        refine M.iret dX12_code_132 rfl ?_
        have hv9 : codV N T k x = some (ro (T 27) k 5) := by rw [codV, if_neg sw_33_0, if_neg sw_33_1, if_neg sw_33_2, if_neg sw_33_3, if_pos sw_33_4]
        rw [opCode, if_neg hok, hcl, hv9]
        exact ⟨rfl, rfl, q_a, q_b, q_n, q_w, q_c, q_r, q_x, q_q, q_k, q_f, q_t⟩
      exact absurd (show x.toInt < 0 ∨ 4 < x.toInt by have n_0 : ¬ x.toInt = 0 := fun q => sw_33_0 (i32_eq.mpr (q.trans (by decide))); have n_1 : ¬ x.toInt = 1 := fun q => sw_33_1 (i32_eq.mpr (q.trans (by decide))); have n_2 : ¬ x.toInt = 2 := fun q => sw_33_2 (i32_eq.mpr (q.trans (by decide))); have n_3 : ¬ x.toInt = 3 := fun q => sw_33_3 (i32_eq.mpr (q.trans (by decide))); have n_4 : ¬ x.toInt = 4 := fun q => sw_33_4 (i32_eq.mpr (q.trans (by decide))); omega) sw_33
    · skip
      have hge : nI (T 27).length ≤ nI k := Int32.not_lt.mp c_15
      refine M.iconst (v := 1) dX12_code_18 (by decide) ?_
      refine M.goto (tgt := 23) dX12_code_19 (by decide) ?_
      refine M.iconst (v := 1) dX12_code_23 (by decide) ?_
      refine M.callV [.int 1, .int 1] dX12_code_24 mdX12_throwsIf imX12_throwsIf seX12_throwsIf lk_X12_357 rfl rfl rfl rfl (m_throwsIf hA true 1) ?_
      rintro _ I9 F9 ⟨rfl, e9, e8⟩
      have e9 := e9.symm; subst e9; have e8 := e8.symm; subst e8
      refine M.if_eq (tgt := 32) dX12_code_27 (by decide) (fun c_27 => absurd c_27 (by decide)) (fun c_27 => ?_)
      refine M.iconst (v := 0) dX12_code_30 (by decide) ?_
      refine M.iret dX12_code_31 rfl ?_
      rw [opCode, if_pos (by first | exact Or.inl c_7 | exact Or.inr hge)]
      exact ⟨rfl, rfl, q_a, q_b, q_n, q_w, q_c, q_r, q_x, q_q, q_k, q_f, q_t⟩

theorem p_family {Λ : kL} {m : Nat} {A : Nat → Nat} {I : Nat → Int32} {F : Nat → Nat → Int32} (hA : mInj A) {N : Nat → Int32} {B : Nat → List Int32} {T R : Nat → List (List Int32)} (hR : mR I F N B T R) (hW : wf N B T R) (q x : Int32) : mCt Λ mX12_family m A [.ref m, .int q, .int x] I F (mP (opFam N B T R q x)) := by
  refine mCt.of hA pn_X12 [some (.ref m), some (.int q), some (.int x), none, none] rfl (Nat.le_of_ble_eq_true rfl) fun X => ?_
  obtain ⟨q_a, q_b, q_n, q_w, q_c, q_r, q_x, q_q, q_k, q_f, q_t⟩ := hR
  obtain ⟨w_a, w_n, w_w, w_c, w_r, w_x, w_q, w_k, w_f, w_t, w_m⟩ := hW
  have hk200 := w_k.1
  have ht1 := w_t.1
  have hd200 : (T 28).length ≤ 200 := by have := w_k.2.2.2.2; omega
  refine M.aload_nR dX12_family_0 rfl ?_
  refine M.iconst (v := 0) dX12_family_1 (by decide) ?_
  refine M.puti dX12_family_2 fp_X12_188 rfl rfl ?_
  refine M.aload_nR dX12_family_5 rfl ?_
  refine M.iload_n dX12_family_6 rfl ?_
  refine M.if_lt (tgt := 18) dX12_family_7 (by decide) (fun c_7 => ?_) (fun c_7 => ?_)
  · skip
    refine M.iconst (v := 1) dX12_family_18 (by decide) ?_
    refine M.goto (tgt := 23) dX12_family_19 (by decide) ?_
    refine M.iconst (v := 1) dX12_family_23 (by decide) ?_
    refine M.callV [.int 1, .int 1] dX12_family_24 mdX12_throwsIf imX12_throwsIf seX12_throwsIf lk_X12_357 rfl rfl rfl rfl (m_throwsIf hA true 1) ?_
    rintro _ I9 F9 ⟨rfl, e9, e8⟩
    have e9 := e9.symm; subst e9; have e8 := e8.symm; subst e8
    refine M.if_eq (tgt := 32) dX12_family_27 (by decide) (fun c_27 => absurd c_27 (by decide)) (fun c_27 => ?_)
    refine M.iconst (v := 0) dX12_family_30 (by decide) ?_
    refine M.iret dX12_family_31 rfl ?_
    rw [opFam, if_pos (by first | exact Or.inl c_7 | exact Or.inr hge)]
    exact ⟨rfl, rfl, q_a, q_b, q_n, q_w, q_c, q_r, q_x, q_q, q_k, q_f, q_t⟩
  · skip
    obtain ⟨k, hk31, ek⟩ := nI_of c_7; subst ek
    have hcl : (nI k).toNatClampNeg = k := nI_clamp hk31
    refine M.iload_n dX12_family_10 rfl ?_
    refine M.aload_nR dX12_family_11 rfl ?_
    refine M.geti (v := nI (T 28).length) dX12_family_12 fl_X12_455 rfl rfl q_f.1 ?_
    refine M.icmp_lt (tgt := 22) dX12_family_15 (by decide) (fun c_15 => ?_) (fun c_15 => ?_)
    · skip
      have lt_k : k < (T 28).length := (nI_ltI hk31 (by omega)).mp c_15
      have hok : ¬ (nI k < 0 ∨ nI (T 28).length ≤ nI k) := fun z => z.elim c_7 (fun z => absurd c_15 (Int32.not_lt.mpr z))
      obtain ⟨b0, eb0⟩ := w_f.2 k lt_k
      refine M.iconst (v := 0) dX12_family_22 (by decide) ?_
      refine M.iconst (v := 1) dX12_family_23 (by decide) ?_
      refine M.callV [.int 0, .int 1] dX12_family_24 mdX12_throwsIf imX12_throwsIf seX12_throwsIf lk_X12_357 rfl rfl rfl rfl (m_throwsIf hA false 1) ?_
      rintro _ I9 F9 ⟨rfl, e9, e8⟩
      have e9 := e9.symm; subst e9; have e8 := e8.symm; subst e8
      refine M.if_eq (tgt := 32) dX12_family_27 (by decide) (fun c_27 => ?_) (fun c_27 => absurd rfl c_27)
      refine M.iload_n dX12_family_32 rfl ?_
      by_cases sw_33 : x.toInt < 0 ∨ 5 < x.toInt
      · refine M.tableOut (tgt := 165) dX12_family_33 sw_33 (by decide) ?_
        refine M.aload_nR dX12_family_165 rfl ?_
        refine M.iconst (v := 1) dX12_family_166 (by decide) ?_
        refine M.puti dX12_family_167 fp_X12_188 rfl rfl ?_
        refine M.iconst (v := 0) dX12_family_170 (by decide) ?_
        refine M.iret dX12_family_171 rfl ?_
        have hv9 : famV N T k x = none := by rw [famV, if_neg (sw_no (x := x) (v := 0) 0 5 sw_33 (by decide)), if_neg (sw_no (x := x) (v := 1) 0 5 sw_33 (by decide)), if_neg (sw_no (x := x) (v := 2) 0 5 sw_33 (by decide)), if_neg (sw_no (x := x) (v := 3) 0 5 sw_33 (by decide)), if_neg (sw_no (x := x) (v := 4) 0 5 sw_33 (by decide)), if_neg (sw_no (x := x) (v := 5) 0 5 sw_33 (by decide))]
        rw [opFam, if_neg hok, hcl, hv9]
        exact ⟨rfl, rfl, q_a, q_b, q_n, q_w, q_c, q_r, q_x, q_q, q_k, q_f, q_t⟩
      by_cases sw_33_0 : x = 0
      · refine M.tableIn (off := 39) (tgt := 72) dX12_family_33 (by rw [sw_33_0]; decide) (by rw [sw_33_0]; decide) (by rw [sw_33_0]; rfl) (by decide) ?_
        refine M.aload_nR dX12_family_72 rfl ?_
        refine M.getr dX12_family_73 fl_X12_125 rfl rfl ?_
        refine M.iload_n dX12_family_76 rfl ?_
        refine M.zaldv (k9 := 50) (j := k) (g := F 50) (v := bI b0) dX12_family_77 rfl rfl rfl rfl (show k < 200 by omega) ((q_f.2.2.2.2.2.1 k lt_k).trans eb0) ?_
        refine M.if_eq (tgt := 85) dX12_family_78 (by decide) (fun c_78 => ?_) (fun c_78 => ?_)
        · skip
          refine M.iconst (v := 0) dX12_family_85 (by decide) ?_
          refine M.iret dX12_family_86 rfl ?_
          have hv9 : famV N T k x = some (0) := by rw [famV, if_pos sw_33_0, show ro (T 28) k 4 = bI b0 from eb0, (bI_eq0 _).mp c_78]; rfl
          rw [opFam, if_neg hok, hcl, hv9]
          exact ⟨rfl, rfl, q_a, q_b, q_n, q_w, q_c, q_r, q_x, q_q, q_k, q_f, q_t⟩
        · skip
          refine M.iconst (v := 1) dX12_family_81 (by decide) ?_
          refine M.goto (tgt := 86) dX12_family_82 (by decide) ?_
          refine M.iret dX12_family_86 rfl ?_
          have hv9 : famV N T k x = some (1) := by rw [famV, if_pos sw_33_0, show ro (T 28) k 4 = bI b0 from eb0, bt1 c_78]; rfl
          rw [opFam, if_neg hok, hcl, hv9]
          exact ⟨rfl, rfl, q_a, q_b, q_n, q_w, q_c, q_r, q_x, q_q, q_k, q_f, q_t⟩
      by_cases sw_33_1 : x = 1
      · refine M.tableIn (off := 54) (tgt := 87) dX12_family_33 (by rw [sw_33_1]; decide) (by rw [sw_33_1]; decide) (by rw [sw_33_1]; rfl) (by decide) ?_
        refine M.aload_nR dX12_family_87 rfl ?_
        refine M.getr dX12_family_88 fl_X12_113 rfl rfl ?_
        refine M.iload_n dX12_family_91 rfl ?_
        refine M.ialdv (k9 := 46) (j := k) (g := F 46) (v := ro (T 28) k 0) dX12_family_92 rfl rfl rfl rfl (show k < 200 by omega) (q_f.2.1 k lt_k) ?_
        refine M.iret dX12_family_93 rfl ?_
        have hv9 : famV N T k x = some (ro (T 28) k 0) := by rw [famV, if_neg sw_33_0, if_pos sw_33_1]
        rw [opFam, if_neg hok, hcl, hv9]
        exact ⟨rfl, rfl, q_a, q_b, q_n, q_w, q_c, q_r, q_x, q_q, q_k, q_f, q_t⟩
      by_cases sw_33_2 : x = 2
      · refine M.tableIn (off := 61) (tgt := 94) dX12_family_33 (by rw [sw_33_2]; decide) (by rw [sw_33_2]; decide) (by rw [sw_33_2]; rfl) (by decide) ?_
        refine M.aload_nR dX12_family_94 rfl ?_
        refine M.getr dX12_family_95 fl_X12_116 rfl rfl ?_
        refine M.iload_n dX12_family_98 rfl ?_
        refine M.ialdv (k9 := 47) (j := k) (g := F 47) (v := ro (T 28) k 1) dX12_family_99 rfl rfl rfl rfl (show k < 200 by omega) (q_f.2.2.1 k lt_k) ?_
        refine M.iret dX12_family_100 rfl ?_
        have hv9 : famV N T k x = some (ro (T 28) k 1) := by rw [famV, if_neg sw_33_0, if_neg sw_33_1, if_pos sw_33_2]
        rw [opFam, if_neg hok, hcl, hv9]
        exact ⟨rfl, rfl, q_a, q_b, q_n, q_w, q_c, q_r, q_x, q_q, q_k, q_f, q_t⟩
      by_cases sw_33_3 : x = 3
      · refine M.tableIn (off := 68) (tgt := 101) dX12_family_33 (by rw [sw_33_3]; decide) (by rw [sw_33_3]; decide) (by rw [sw_33_3]; rfl) (by decide) ?_
        refine M.aload_nR dX12_family_101 rfl ?_
        refine M.getr dX12_family_102 fl_X12_119 rfl rfl ?_
        refine M.iload_n dX12_family_105 rfl ?_
        refine M.ialdv (k9 := 48) (j := k) (g := F 48) (v := ro (T 28) k 2) dX12_family_106 rfl rfl rfl rfl (show k < 200 by omega) (q_f.2.2.2.1 k lt_k) ?_
        refine M.iret dX12_family_107 rfl ?_
        have hv9 : famV N T k x = some (ro (T 28) k 2) := by rw [famV, if_neg sw_33_0, if_neg sw_33_1, if_neg sw_33_2, if_pos sw_33_3]
        rw [opFam, if_neg hok, hcl, hv9]
        exact ⟨rfl, rfl, q_a, q_b, q_n, q_w, q_c, q_r, q_x, q_q, q_k, q_f, q_t⟩
      by_cases sw_33_4 : x = 4
      · refine M.tableIn (off := 75) (tgt := 108) dX12_family_33 (by rw [sw_33_4]; decide) (by rw [sw_33_4]; decide) (by rw [sw_33_4]; rfl) (by decide) ?_
        refine M.iconst (v := 0) dX12_family_108 (by decide) ?_
        refine M.istore_n (L' := [some (.ref m), some (.int (nI k)), some (.int x), some (.int 0), none]) dX12_family_109 (by decide) rfl rfl ?_
        refine M.iconst (v := 0) dX12_family_110 (by decide) ?_
        refine M.istore (L' := [some (.ref m), some (.int (nI k)), some (.int x), some (.int 0), some (.int 0)]) dX12_family_111 (by decide) rfl rfl ?_
        have cut_113 : ∀ (k_113 : Nat) (z : Nat), (z ≤ (T 29).length) → ((T 29).length + 1 ≤ z + k_113) → M Λ X mX12_family m A (mP (opFam N B T R (nI k) x)) (upd I 0 0) F 113 [some (.ref m), some (.int (nI k)), some (.int x), some (.int (nI (cntT (fun a => decide (ro (T 29) a 1 = nI k) && isgd N T a) z))), some (.int (nI z))] [] := by
          intro k_113
          induction k_113 with
          | zero => intro z h1 h2; exact absurd h2 (by omega)
          | succ k_113 ih_113 =>
            intro z h1 h2
            refine M.iload dX12_family_113 rfl ?_
            refine M.aload_nR dX12_family_115 rfl ?_
            refine M.geti (v := nI (T 29).length) dX12_family_116 fl_X12_462 rfl rfl q_t.1 ?_
            refine M.icmp_ge (tgt := 156) dX12_family_119 (by decide) (fun c_119 => ?_) (fun c_119 => ?_)
            · skip
              have ez := nI_gen c_119 h1 (by omega); subst ez
              skip
              refine M.iload_n dX12_family_156 rfl ?_
              refine M.iret dX12_family_157 rfl ?_
              have hv9 : famV N T k x = some (nI (cntT (fun a => decide (ro (T 29) a 1 = nI k) && isgd N T a) (T 29).length)) := by rw [famV, if_neg sw_33_0, if_neg sw_33_1, if_neg sw_33_2, if_neg sw_33_3, if_pos sw_33_4]
              rw [opFam, if_neg hok, hcl, hv9]
              exact ⟨rfl, rfl, q_a, q_b, q_n, q_w, q_c, q_r, q_x, q_q, q_k, q_f, q_t⟩
            · skip
              have lt_z : z < (T 29).length := nI_ltn c_119 (by omega) (by omega)
              obtain ⟨f, hf, e2⟩ := w_t.2.2.1 z lt_z
              obtain ⟨b1, e1⟩ := w_t.2.2.2.1 z lt_z
              obtain ⟨b2, e3⟩ := w_f.2 f hf
              have hgd : isgd N T z = (decide (N 25 < ro (T 29) z 3) && !b1 && !b2) := by rw [isgd, rn_at e2 (by omega), show ro (T 29) z 4 = bI b1 from e1, show ro (T 28) f 4 = bI b2 from e3, bI_is1, bI_is1]
              refine M.iload_n dX12_family_122 rfl ?_
              refine M.aload_nR dX12_family_123 rfl ?_
              refine M.getr dX12_family_124 fl_X12_131 rfl rfl ?_
              refine M.iload dX12_family_127 rfl ?_
              refine M.ialdv (k9 := 53) (j := z) (g := F 53) (v := nI f) dX12_family_129 rfl rfl rfl rfl (show z < 300 by omega) ((q_t.2.2.1 z lt_z).trans e2) ?_
              refine M.iload_n dX12_family_130 rfl ?_
              refine M.icmp_ne (tgt := 147) dX12_family_131 (by decide) (fun c_131 => ?_) (fun c_131 => ?_)
              · skip
                have hp9 : ¬ (fun a => decide (ro (T 29) a 1 = nI k) && isgd N T a) z = true := by show ¬ (decide (ro (T 29) z 1 = nI k) && isgd N T z) = true; rw [hgd, show ro (T 29) z 1 = nI f from e2]; first | (rw [decide_eq_false c_131, Bool.false_and]; exact Bool.false_ne_true) | (rw [show ro (T 29) z 3 = ((T 29).getD z []).getD 3 0 from rfl, (bI_eq0 _).mp c_140, Bool.and_false]; decide)
                refine M.iconst (v := 0) dX12_family_147 (by decide) ?_
                refine M.iadd dX12_family_148 ?_
                rw [show (nI (cntT (fun a => decide (ro (T 29) a 1 = nI k) && isgd N T a) z)) + 0 = nI (cntT (fun a => decide (ro (T 29) a 1 = nI k) && isgd N T a) z) from Int32.add_zero _]
                refine M.istore_n (L' := [some (.ref m), some (.int (nI k)), some (.int x), some (.int (nI (cntT (fun a => decide (ro (T 29) a 1 = nI k) && isgd N T a) z))), some (.int (nI z))]) dX12_family_149 (by decide) rfl rfl ?_
                refine M.iinc (v := nI (z + 1)) (L' := [some (.ref m), some (.int (nI k)), some (.int x), some (.int (nI (cntT (fun a => decide (ro (T 29) a 1 = nI k) && isgd N T a) z))), some (.int (nI (z + 1)))]) dX12_family_150 rfl (nI_1 z) (by decide) rfl rfl ?_
                refine M.goto (tgt := 113) dX12_family_153 (by decide) ?_
                have t9 := ih_113 (z + 1) (by omega) (by omega)
                rw [cntT_s, if_neg hp9, Nat.add_zero] at t9
                exact t9
              · skip
                refine M.aload_nR dX12_family_134 rfl ?_
                refine M.iload dX12_family_135 rfl ?_
                have hig := m_isGood (Λ := Λ) (m := m) (I := (upd I 0 0)) hA (F := F) (C := T 29) (D := T 28) (by omega) (by omega) q_t.2.2.2.2.1 q_t.2.2.2.2.2.1 q_t.2.2.1 q_f.2.2.2.2.2.1 lt_z hf e1 e2 e3
                rw [show (upd I 0 0) 25 = N 25 from q_n.2.2.1] at hig
                refine M.callV [.int (nI z)] dX12_family_137 mdX12_isGood imX12_isGood seX12_isGood lk_X12_479 rfl rfl rfl rfl hig ?_
                rintro _ I9 F9 ⟨rfl, e9, e8⟩
                have e9 := e9.symm; subst e9; have e8 := e8.symm; subst e8
                refine M.if_eq (tgt := 147) dX12_family_140 (by decide) (fun c_140 => ?_) (fun c_140 => ?_)
                · skip
                  have hp9 : ¬ (fun a => decide (ro (T 29) a 1 = nI k) && isgd N T a) z = true := by show ¬ (decide (ro (T 29) z 1 = nI k) && isgd N T z) = true; rw [hgd, show ro (T 29) z 1 = nI f from e2]; first | (rw [decide_eq_false c_131, Bool.false_and]; exact Bool.false_ne_true) | (rw [show ro (T 29) z 3 = ((T 29).getD z []).getD 3 0 from rfl, (bI_eq0 _).mp c_140, Bool.and_false]; decide)
                  refine M.iconst (v := 0) dX12_family_147 (by decide) ?_
                  refine M.iadd dX12_family_148 ?_
                  rw [show (nI (cntT (fun a => decide (ro (T 29) a 1 = nI k) && isgd N T a) z)) + 0 = nI (cntT (fun a => decide (ro (T 29) a 1 = nI k) && isgd N T a) z) from Int32.add_zero _]
                  refine M.istore_n (L' := [some (.ref m), some (.int (nI k)), some (.int x), some (.int (nI (cntT (fun a => decide (ro (T 29) a 1 = nI k) && isgd N T a) z))), some (.int (nI z))]) dX12_family_149 (by decide) rfl rfl ?_
                  refine M.iinc (v := nI (z + 1)) (L' := [some (.ref m), some (.int (nI k)), some (.int x), some (.int (nI (cntT (fun a => decide (ro (T 29) a 1 = nI k) && isgd N T a) z))), some (.int (nI (z + 1)))]) dX12_family_150 rfl (nI_1 z) (by decide) rfl rfl ?_
                  refine M.goto (tgt := 113) dX12_family_153 (by decide) ?_
                  have t9 := ih_113 (z + 1) (by omega) (by omega)
                  rw [cntT_s, if_neg hp9, Nat.add_zero] at t9
                  exact t9
                · skip
                  have hp9 : (fun a => decide (ro (T 29) a 1 = nI k) && isgd N T a) z = true := by show (decide (ro (T 29) z 1 = nI k) && isgd N T z) = true; rw [hgd, show ro (T 29) z 1 = nI f from e2, decide_eq_true c_131]; exact bt1 c_140
                  refine M.iconst (v := 1) dX12_family_143 (by decide) ?_
                  refine M.goto (tgt := 148) dX12_family_144 (by decide) ?_
                  refine M.iadd dX12_family_148 ?_
                  rw [show (nI (cntT (fun a => decide (ro (T 29) a 1 = nI k) && isgd N T a) z)) + 1 = nI (cntT (fun a => decide (ro (T 29) a 1 = nI k) && isgd N T a) z + 1) from nI_1 _]
                  refine M.istore_n (L' := [some (.ref m), some (.int (nI k)), some (.int x), some (.int (nI (cntT (fun a => decide (ro (T 29) a 1 = nI k) && isgd N T a) z + 1))), some (.int (nI z))]) dX12_family_149 (by decide) rfl rfl ?_
                  refine M.iinc (v := nI (z + 1)) (L' := [some (.ref m), some (.int (nI k)), some (.int x), some (.int (nI (cntT (fun a => decide (ro (T 29) a 1 = nI k) && isgd N T a) z + 1))), some (.int (nI (z + 1)))]) dX12_family_150 rfl (nI_1 z) (by decide) rfl rfl ?_
                  refine M.goto (tgt := 113) dX12_family_153 (by decide) ?_
                  have t9 := ih_113 (z + 1) (by omega) (by omega)
                  rw [cntT_s, if_pos hp9] at t9
                  exact t9
        exact cut_113 ((T 29).length + 1) 0 (by omega) (by omega)
      by_cases sw_33_5 : x = 5
      · refine M.tableIn (off := 125) (tgt := 158) dX12_family_33 (by rw [sw_33_5]; decide) (by rw [sw_33_5]; decide) (by rw [sw_33_5]; rfl) (by decide) ?_
        refine M.aload_nR dX12_family_158 rfl ?_
        refine M.getr dX12_family_159 fl_X12_122 rfl rfl ?_
        refine M.iload_n dX12_family_162 rfl ?_
        refine M.ialdv (k9 := 49) (j := k) (g := F 49) (v := ro (T 28) k 3) dX12_family_163 rfl rfl rfl rfl (show k < 200 by omega) (q_f.2.2.2.2.1 k lt_k) ?_
        refine M.iret dX12_family_164 rfl ?_
        have hv9 : famV N T k x = some (ro (T 28) k 3) := by rw [famV, if_neg sw_33_0, if_neg sw_33_1, if_neg sw_33_2, if_neg sw_33_3, if_neg sw_33_4, if_pos sw_33_5]
        rw [opFam, if_neg hok, hcl, hv9]
        exact ⟨rfl, rfl, q_a, q_b, q_n, q_w, q_c, q_r, q_x, q_q, q_k, q_f, q_t⟩
      exact absurd (show x.toInt < 0 ∨ 5 < x.toInt by have n_0 : ¬ x.toInt = 0 := fun q => sw_33_0 (i32_eq.mpr (q.trans (by decide))); have n_1 : ¬ x.toInt = 1 := fun q => sw_33_1 (i32_eq.mpr (q.trans (by decide))); have n_2 : ¬ x.toInt = 2 := fun q => sw_33_2 (i32_eq.mpr (q.trans (by decide))); have n_3 : ¬ x.toInt = 3 := fun q => sw_33_3 (i32_eq.mpr (q.trans (by decide))); have n_4 : ¬ x.toInt = 4 := fun q => sw_33_4 (i32_eq.mpr (q.trans (by decide))); have n_5 : ¬ x.toInt = 5 := fun q => sw_33_5 (i32_eq.mpr (q.trans (by decide))); omega) sw_33
    · skip
      have hge : nI (T 28).length ≤ nI k := Int32.not_lt.mp c_15
      refine M.iconst (v := 1) dX12_family_18 (by decide) ?_
      refine M.goto (tgt := 23) dX12_family_19 (by decide) ?_
      refine M.iconst (v := 1) dX12_family_23 (by decide) ?_
      refine M.callV [.int 1, .int 1] dX12_family_24 mdX12_throwsIf imX12_throwsIf seX12_throwsIf lk_X12_357 rfl rfl rfl rfl (m_throwsIf hA true 1) ?_
      rintro _ I9 F9 ⟨rfl, e9, e8⟩
      have e9 := e9.symm; subst e9; have e8 := e8.symm; subst e8
      refine M.if_eq (tgt := 32) dX12_family_27 (by decide) (fun c_27 => absurd c_27 (by decide)) (fun c_27 => ?_)
      refine M.iconst (v := 0) dX12_family_30 (by decide) ?_
      refine M.iret dX12_family_31 rfl ?_
      rw [opFam, if_pos (by first | exact Or.inl c_7 | exact Or.inr hge)]
      exact ⟨rfl, rfl, q_a, q_b, q_n, q_w, q_c, q_r, q_x, q_q, q_k, q_f, q_t⟩

theorem p_count {Λ : kL} {m : Nat} {A : Nat → Nat} {I : Nat → Int32} {F : Nat → Nat → Int32} (hA : mInj A) {N : Nat → Int32} {B : Nat → List Int32} {T R : Nat → List (List Int32)} (hR : mR I F N B T R) (hW : wf N B T R) (x : Int32) : mCt Λ mX12_count m A [.ref m, .int x] I F (mP (opCnt N B T R x)) := by
  refine mCt.of hA pn_X12 [some (.ref m), some (.int x), none, none] rfl (Nat.le_of_ble_eq_true rfl) fun X => ?_
  obtain ⟨q_a, q_b, q_n, q_w, q_c, q_r, q_x, q_q, q_k, q_f, q_t⟩ := hR
  obtain ⟨w_a, w_n, w_w, w_c, w_r, w_x, w_q, w_k, w_f, w_t, w_m⟩ := hW
  have hk200 := w_k.1
  have hq200 := w_q.1
  have hd200 : (T 28).length ≤ 200 := by have := w_k.2.2.2.2; omega
  refine M.aload_nR dX12_count_0 rfl ?_
  refine M.iconst (v := 0) dX12_count_1 (by decide) ?_
  refine M.puti dX12_count_2 fp_X12_188 rfl rfl ?_
  refine M.iconst (v := 0) dX12_count_5 (by decide) ?_
  refine M.istore_n (L' := [some (.ref m), some (.int x), some (.int 0), none]) dX12_count_6 (by decide) rfl rfl ?_
  refine M.iload_n dX12_count_7 rfl ?_
  by_cases sw_8 : x.toInt < 0 ∨ 11 < x.toInt
  · refine M.tableOut (tgt := 192) dX12_count_8 sw_8 (by decide) ?_
    refine M.iconst (v := (-1)) dX12_count_192 (by decide) ?_
    refine M.iret dX12_count_193 rfl ?_
    refine ⟨congrArg (fun z => some (Value.int z)) ?_, rfl, q_a, q_b, q_n, q_w, q_c, q_r, q_x, q_q, q_k, q_f, q_t⟩
    show _ = (if x = 0 then _ else _)
    rw [if_neg (sw_no (x := x) (v := 0) 0 11 sw_8 (by decide)), if_neg (sw_no (x := x) (v := 1) 0 11 sw_8 (by decide)), if_neg (sw_no (x := x) (v := 2) 0 11 sw_8 (by decide)), if_neg (sw_no (x := x) (v := 3) 0 11 sw_8 (by decide)), if_neg (sw_no (x := x) (v := 4) 0 11 sw_8 (by decide)), if_neg (sw_no (x := x) (v := 5) 0 11 sw_8 (by decide)), if_neg (sw_no (x := x) (v := 6) 0 11 sw_8 (by decide)), if_neg (sw_no (x := x) (v := 7) 0 11 sw_8 (by decide)), if_neg (sw_no (x := x) (v := 8) 0 11 sw_8 (by decide)), if_neg (sw_no (x := x) (v := 9) 0 11 sw_8 (by decide)), if_neg (sw_no (x := x) (v := 10) 0 11 sw_8 (by decide)), if_neg (sw_no (x := x) (v := 11) 0 11 sw_8 (by decide))]
  by_cases sw_8_0 : x = 0
  · refine M.tableIn (off := 64) (tgt := 72) dX12_count_8 (by rw [sw_8_0]; decide) (by rw [sw_8_0]; decide) (by rw [sw_8_0]; rfl) (by decide) ?_
    refine M.aload_nR dX12_count_72 rfl ?_
    refine M.geti (v := nI (T 2).length) dX12_count_73 fl_X12_268 rfl rfl q_w.1 ?_
    refine M.iret dX12_count_76 rfl ?_
    refine ⟨congrArg (fun z => some (Value.int z)) ?_, rfl, q_a, q_b, q_n, q_w, q_c, q_r, q_x, q_q, q_k, q_f, q_t⟩
    show _ = (if x = 0 then _ else _)
    rw [if_pos sw_8_0]
  by_cases sw_8_1 : x = 1
  · refine M.tableIn (off := 69) (tgt := 77) dX12_count_8 (by rw [sw_8_1]; decide) (by rw [sw_8_1]; decide) (by rw [sw_8_1]; rfl) (by decide) ?_
    refine M.aload_nR dX12_count_77 rfl ?_
    refine M.geti (v := nI (T 3).length) dX12_count_78 fl_X12_257 rfl rfl q_c.1 ?_
    refine M.iret dX12_count_81 rfl ?_
    refine ⟨congrArg (fun z => some (Value.int z)) ?_, rfl, q_a, q_b, q_n, q_w, q_c, q_r, q_x, q_q, q_k, q_f, q_t⟩
    show _ = (if x = 0 then _ else _)
    rw [if_neg sw_8_0, if_pos sw_8_1]
  by_cases sw_8_2 : x = 2
  · refine M.tableIn (off := 74) (tgt := 82) dX12_count_8 (by rw [sw_8_2]; decide) (by rw [sw_8_2]; decide) (by rw [sw_8_2]; rfl) (by decide) ?_
    refine M.aload_nR dX12_count_82 rfl ?_
    refine M.geti (v := nI (T 20).length) dX12_count_83 fl_X12_278 rfl rfl q_x.1 ?_
    refine M.iret dX12_count_86 rfl ?_
    refine ⟨congrArg (fun z => some (Value.int z)) ?_, rfl, q_a, q_b, q_n, q_w, q_c, q_r, q_x, q_q, q_k, q_f, q_t⟩
    show _ = (if x = 0 then _ else _)
    rw [if_neg sw_8_0, if_neg sw_8_1, if_pos sw_8_2]
  by_cases sw_8_3 : x = 3
  · refine M.tableIn (off := 79) (tgt := 87) dX12_count_8 (by rw [sw_8_3]; decide) (by rw [sw_8_3]; decide) (by rw [sw_8_3]; rfl) (by decide) ?_
    refine M.aload_nR dX12_count_87 rfl ?_
    refine M.geti (v := nI (T 23).length) dX12_count_88 fl_X12_394 rfl rfl q_q.1 ?_
    refine M.iret dX12_count_91 rfl ?_
    refine ⟨congrArg (fun z => some (Value.int z)) ?_, rfl, q_a, q_b, q_n, q_w, q_c, q_r, q_x, q_q, q_k, q_f, q_t⟩
    show _ = (if x = 0 then _ else _)
    rw [if_neg sw_8_0, if_neg sw_8_1, if_neg sw_8_2, if_pos sw_8_3]
  by_cases sw_8_4 : x = 4
  · refine M.tableIn (off := 84) (tgt := 92) dX12_count_8 (by rw [sw_8_4]; decide) (by rw [sw_8_4]; decide) (by rw [sw_8_4]; rfl) (by decide) ?_
    refine M.iconst (v := 0) dX12_count_92 (by decide) ?_
    refine M.istore_n (L' := [some (.ref m), some (.int x), some (.int 0), some (.int 0)]) dX12_count_93 (by decide) rfl rfl ?_
    have cut_94 : ∀ (k_94 : Nat) (z : Nat), (z ≤ (T 23).length) → ((T 23).length + 1 ≤ z + k_94) → M Λ X mX12_count m A (mP (opCnt N B T R x)) (upd I 0 0) F 94 [some (.ref m), some (.int x), some (.int (nI (cntT (fun k => decide (ro (T 23) k 3 = 1)) z))), some (.int (nI z))] [] := by
      intro k_94
      induction k_94 with
      | zero => intro z h1 h2; exact absurd h2 (by omega)
      | succ k_94 ih_94 =>
        intro z h1 h2
        refine M.iload_n dX12_count_94 rfl ?_
        refine M.aload_nR dX12_count_95 rfl ?_
        refine M.geti (v := nI (T 23).length) dX12_count_96 fl_X12_394 rfl rfl q_q.1 ?_
        refine M.icmp_ge (tgt := 125) dX12_count_99 (by decide) (fun c_99 => ?_) (fun c_99 => ?_)
        · skip
          have ez := nI_gen c_99 h1 (by omega); subst ez
          skip
          refine M.iload_n dX12_count_125 rfl ?_
          refine M.iret dX12_count_126 rfl ?_
          refine ⟨congrArg (fun z => some (Value.int z)) ?_, rfl, q_a, q_b, q_n, q_w, q_c, q_r, q_x, q_q, q_k, q_f, q_t⟩
          show _ = (if x = 0 then _ else _)
          rw [if_neg sw_8_0, if_neg sw_8_1, if_neg sw_8_2, if_neg sw_8_3, if_pos sw_8_4]
        · skip
          have lt_z : z < (T 23).length := nI_ltn c_99 (by omega) (by omega)
          obtain ⟨b0, eb0⟩ := w_q.2.2.2.1 z lt_z
          refine M.iload_n dX12_count_102 rfl ?_
          refine M.aload_nR dX12_count_103 rfl ?_
          refine M.getr dX12_count_104 fl_X12_79 rfl rfl ?_
          refine M.iload_n dX12_count_107 rfl ?_
          refine M.zaldv (k9 := 32) (j := z) (g := F 32) (v := bI b0) dX12_count_108 rfl rfl rfl rfl (show z < 200 by omega) ((q_q.2.2.2.2.1 z lt_z).trans eb0) ?_
          refine M.if_eq (tgt := 116) dX12_count_109 (by decide) (fun c_109 => ?_) (fun c_109 => ?_)
          · skip
            have hp9 : ¬ (fun k => decide (ro (T 23) k 3 = 1)) z = true := by show ¬ decide (ro (T 23) z 3 = 1) = true; rw [show ro (T 23) z 3 = bI b0 from eb0, bI_is1, (bI_eq0 _).mp c_109]; decide
            refine M.iconst (v := 0) dX12_count_116 (by decide) ?_
            refine M.iadd dX12_count_117 ?_
            rw [show (nI (cntT (fun k => decide (ro (T 23) k 3 = 1)) z)) + 0 = nI (cntT (fun k => decide (ro (T 23) k 3 = 1)) z) from Int32.add_zero _]
            refine M.istore_n (L' := [some (.ref m), some (.int x), some (.int (nI (cntT (fun k => decide (ro (T 23) k 3 = 1)) z))), some (.int (nI z))]) dX12_count_118 (by decide) rfl rfl ?_
            refine M.iinc (v := nI (z + 1)) (L' := [some (.ref m), some (.int x), some (.int (nI (cntT (fun k => decide (ro (T 23) k 3 = 1)) z))), some (.int (nI (z + 1)))]) dX12_count_119 rfl (nI_1 z) (by decide) rfl rfl ?_
            refine M.goto (tgt := 94) dX12_count_122 (by decide) ?_
            have t9 := ih_94 (z + 1) (by omega) (by omega)
            rw [cntT_s, if_neg hp9, Nat.add_zero] at t9
            exact t9
          · skip
            have hp9 : (fun k => decide (ro (T 23) k 3 = 1)) z = true := by show decide (ro (T 23) z 3 = 1) = true; rw [show ro (T 23) z 3 = bI b0 from eb0, bI_is1]; exact bt1 c_109
            refine M.iconst (v := 1) dX12_count_112 (by decide) ?_
            refine M.goto (tgt := 117) dX12_count_113 (by decide) ?_
            refine M.iadd dX12_count_117 ?_
            rw [show (nI (cntT (fun k => decide (ro (T 23) k 3 = 1)) z)) + 1 = nI (cntT (fun k => decide (ro (T 23) k 3 = 1)) z + 1) from nI_1 _]
            refine M.istore_n (L' := [some (.ref m), some (.int x), some (.int (nI (cntT (fun k => decide (ro (T 23) k 3 = 1)) z + 1))), some (.int (nI z))]) dX12_count_118 (by decide) rfl rfl ?_
            refine M.iinc (v := nI (z + 1)) (L' := [some (.ref m), some (.int x), some (.int (nI (cntT (fun k => decide (ro (T 23) k 3 = 1)) z + 1))), some (.int (nI (z + 1)))]) dX12_count_119 rfl (nI_1 z) (by decide) rfl rfl ?_
            refine M.goto (tgt := 94) dX12_count_122 (by decide) ?_
            have t9 := ih_94 (z + 1) (by omega) (by omega)
            rw [cntT_s, if_pos hp9] at t9
            exact t9
    exact cut_94 ((T 23).length + 1) 0 (by omega) (by omega)
  by_cases sw_8_5 : x = 5
  · refine M.tableIn (off := 119) (tgt := 127) dX12_count_8 (by rw [sw_8_5]; decide) (by rw [sw_8_5]; decide) (by rw [sw_8_5]; rfl) (by decide) ?_
    refine M.aload_nR dX12_count_127 rfl ?_
    refine M.geti (v := nI (T 27).length) dX12_count_128 fl_X12_408 rfl rfl q_k.1 ?_
    refine M.iret dX12_count_131 rfl ?_
    refine ⟨congrArg (fun z => some (Value.int z)) ?_, rfl, q_a, q_b, q_n, q_w, q_c, q_r, q_x, q_q, q_k, q_f, q_t⟩
    show _ = (if x = 0 then _ else _)
    rw [if_neg sw_8_0, if_neg sw_8_1, if_neg sw_8_2, if_neg sw_8_3, if_neg sw_8_4, if_pos sw_8_5]
  by_cases sw_8_6 : x = 6
  · refine M.tableIn (off := 124) (tgt := 132) dX12_count_8 (by rw [sw_8_6]; decide) (by rw [sw_8_6]; decide) (by rw [sw_8_6]; rfl) (by decide) ?_
    refine M.aload_nR dX12_count_132 rfl ?_
    refine M.geti (v := nI (T 28).length) dX12_count_133 fl_X12_455 rfl rfl q_f.1 ?_
    refine M.iret dX12_count_136 rfl ?_
    refine ⟨congrArg (fun z => some (Value.int z)) ?_, rfl, q_a, q_b, q_n, q_w, q_c, q_r, q_x, q_q, q_k, q_f, q_t⟩
    show _ = (if x = 0 then _ else _)
    rw [if_neg sw_8_0, if_neg sw_8_1, if_neg sw_8_2, if_neg sw_8_3, if_neg sw_8_4, if_neg sw_8_5, if_pos sw_8_6]
  by_cases sw_8_7 : x = 7
  · refine M.tableIn (off := 129) (tgt := 137) dX12_count_8 (by rw [sw_8_7]; decide) (by rw [sw_8_7]; decide) (by rw [sw_8_7]; rfl) (by decide) ?_
    refine M.aload_nR dX12_count_137 rfl ?_
    refine M.geti (v := nI (T 29).length) dX12_count_138 fl_X12_462 rfl rfl q_t.1 ?_
    refine M.iret dX12_count_141 rfl ?_
    refine ⟨congrArg (fun z => some (Value.int z)) ?_, rfl, q_a, q_b, q_n, q_w, q_c, q_r, q_x, q_q, q_k, q_f, q_t⟩
    show _ = (if x = 0 then _ else _)
    rw [if_neg sw_8_0, if_neg sw_8_1, if_neg sw_8_2, if_neg sw_8_3, if_neg sw_8_4, if_neg sw_8_5, if_neg sw_8_6, if_pos sw_8_7]
  by_cases sw_8_8 : x = 8
  · refine M.tableIn (off := 134) (tgt := 142) dX12_count_8 (by rw [sw_8_8]; decide) (by rw [sw_8_8]; decide) (by rw [sw_8_8]; rfl) (by decide) ?_
    refine M.aload_nR dX12_count_142 rfl ?_
    refine M.geti (v := nI (T 30).length) dX12_count_143 fl_X12_465 rfl rfl q_t.2.2.2.2.2.2.2.1 ?_
    refine M.iret dX12_count_146 rfl ?_
    refine ⟨congrArg (fun z => some (Value.int z)) ?_, rfl, q_a, q_b, q_n, q_w, q_c, q_r, q_x, q_q, q_k, q_f, q_t⟩
    show _ = (if x = 0 then _ else _)
    rw [if_neg sw_8_0, if_neg sw_8_1, if_neg sw_8_2, if_neg sw_8_3, if_neg sw_8_4, if_neg sw_8_5, if_neg sw_8_6, if_neg sw_8_7, if_pos sw_8_8]
  by_cases sw_8_9 : x = 9
  · refine M.tableIn (off := 139) (tgt := 147) dX12_count_8 (by rw [sw_8_9]; decide) (by rw [sw_8_9]; decide) (by rw [sw_8_9]; rfl) (by decide) ?_
    refine M.iconst (v := 0) dX12_count_147 (by decide) ?_
    refine M.istore_n (L' := [some (.ref m), some (.int x), some (.int 0), some (.int 0)]) dX12_count_148 (by decide) rfl rfl ?_
    have cut_149 : ∀ (k_149 : Nat) (z : Nat), (z ≤ (T 28).length) → ((T 28).length + 1 ≤ z + k_149) → M Λ X mX12_count m A (mP (opCnt N B T R x)) (upd I 0 0) F 149 [some (.ref m), some (.int x), some (.int (nI (cntT (fun k => decide (ro (T 28) k 4 = 1)) z))), some (.int (nI z))] [] := by
      intro k_149
      induction k_149 with
      | zero => intro z h1 h2; exact absurd h2 (by omega)
      | succ k_149 ih_149 =>
        intro z h1 h2
        refine M.iload_n dX12_count_149 rfl ?_
        refine M.aload_nR dX12_count_150 rfl ?_
        refine M.geti (v := nI (T 28).length) dX12_count_151 fl_X12_455 rfl rfl q_f.1 ?_
        refine M.icmp_ge (tgt := 180) dX12_count_154 (by decide) (fun c_154 => ?_) (fun c_154 => ?_)
        · skip
          have ez := nI_gen c_154 h1 (by omega); subst ez
          skip
          refine M.iload_n dX12_count_180 rfl ?_
          refine M.iret dX12_count_181 rfl ?_
          refine ⟨congrArg (fun z => some (Value.int z)) ?_, rfl, q_a, q_b, q_n, q_w, q_c, q_r, q_x, q_q, q_k, q_f, q_t⟩
          show _ = (if x = 0 then _ else _)
          rw [if_neg sw_8_0, if_neg sw_8_1, if_neg sw_8_2, if_neg sw_8_3, if_neg sw_8_4, if_neg sw_8_5, if_neg sw_8_6, if_neg sw_8_7, if_neg sw_8_8, if_pos sw_8_9]
        · skip
          have lt_z : z < (T 28).length := nI_ltn c_154 (by omega) (by omega)
          obtain ⟨b0, eb0⟩ := w_f.2 z lt_z
          refine M.iload_n dX12_count_157 rfl ?_
          refine M.aload_nR dX12_count_158 rfl ?_
          refine M.getr dX12_count_159 fl_X12_125 rfl rfl ?_
          refine M.iload_n dX12_count_162 rfl ?_
          refine M.zaldv (k9 := 50) (j := z) (g := F 50) (v := bI b0) dX12_count_163 rfl rfl rfl rfl (show z < 200 by omega) ((q_f.2.2.2.2.2.1 z lt_z).trans eb0) ?_
          refine M.if_eq (tgt := 171) dX12_count_164 (by decide) (fun c_164 => ?_) (fun c_164 => ?_)
          · skip
            have hp9 : ¬ (fun k => decide (ro (T 28) k 4 = 1)) z = true := by show ¬ decide (ro (T 28) z 4 = 1) = true; rw [show ro (T 28) z 4 = bI b0 from eb0, bI_is1, (bI_eq0 _).mp c_164]; decide
            refine M.iconst (v := 0) dX12_count_171 (by decide) ?_
            refine M.iadd dX12_count_172 ?_
            rw [show (nI (cntT (fun k => decide (ro (T 28) k 4 = 1)) z)) + 0 = nI (cntT (fun k => decide (ro (T 28) k 4 = 1)) z) from Int32.add_zero _]
            refine M.istore_n (L' := [some (.ref m), some (.int x), some (.int (nI (cntT (fun k => decide (ro (T 28) k 4 = 1)) z))), some (.int (nI z))]) dX12_count_173 (by decide) rfl rfl ?_
            refine M.iinc (v := nI (z + 1)) (L' := [some (.ref m), some (.int x), some (.int (nI (cntT (fun k => decide (ro (T 28) k 4 = 1)) z))), some (.int (nI (z + 1)))]) dX12_count_174 rfl (nI_1 z) (by decide) rfl rfl ?_
            refine M.goto (tgt := 149) dX12_count_177 (by decide) ?_
            have t9 := ih_149 (z + 1) (by omega) (by omega)
            rw [cntT_s, if_neg hp9, Nat.add_zero] at t9
            exact t9
          · skip
            have hp9 : (fun k => decide (ro (T 28) k 4 = 1)) z = true := by show decide (ro (T 28) z 4 = 1) = true; rw [show ro (T 28) z 4 = bI b0 from eb0, bI_is1]; exact bt1 c_164
            refine M.iconst (v := 1) dX12_count_167 (by decide) ?_
            refine M.goto (tgt := 172) dX12_count_168 (by decide) ?_
            refine M.iadd dX12_count_172 ?_
            rw [show (nI (cntT (fun k => decide (ro (T 28) k 4 = 1)) z)) + 1 = nI (cntT (fun k => decide (ro (T 28) k 4 = 1)) z + 1) from nI_1 _]
            refine M.istore_n (L' := [some (.ref m), some (.int x), some (.int (nI (cntT (fun k => decide (ro (T 28) k 4 = 1)) z + 1))), some (.int (nI z))]) dX12_count_173 (by decide) rfl rfl ?_
            refine M.iinc (v := nI (z + 1)) (L' := [some (.ref m), some (.int x), some (.int (nI (cntT (fun k => decide (ro (T 28) k 4 = 1)) z + 1))), some (.int (nI (z + 1)))]) dX12_count_174 rfl (nI_1 z) (by decide) rfl rfl ?_
            refine M.goto (tgt := 149) dX12_count_177 (by decide) ?_
            have t9 := ih_149 (z + 1) (by omega) (by omega)
            rw [cntT_s, if_pos hp9] at t9
            exact t9
    exact cut_149 ((T 28).length + 1) 0 (by omega) (by omega)
  by_cases sw_8_10 : x = 10
  · refine M.tableIn (off := 174) (tgt := 182) dX12_count_8 (by rw [sw_8_10]; decide) (by rw [sw_8_10]; decide) (by rw [sw_8_10]; rfl) (by decide) ?_
    refine M.aload_nR dX12_count_182 rfl ?_
    refine M.geti (v := N 25) dX12_count_183 fl_X12_366 rfl rfl q_n.2.2.1 ?_
    refine M.iret dX12_count_186 rfl ?_
    refine ⟨congrArg (fun z => some (Value.int z)) ?_, rfl, q_a, q_b, q_n, q_w, q_c, q_r, q_x, q_q, q_k, q_f, q_t⟩
    show _ = (if x = 0 then _ else _)
    rw [if_neg sw_8_0, if_neg sw_8_1, if_neg sw_8_2, if_neg sw_8_3, if_neg sw_8_4, if_neg sw_8_5, if_neg sw_8_6, if_neg sw_8_7, if_neg sw_8_8, if_neg sw_8_9, if_pos sw_8_10]
  by_cases sw_8_11 : x = 11
  · refine M.tableIn (off := 179) (tgt := 187) dX12_count_8 (by rw [sw_8_11]; decide) (by rw [sw_8_11]; decide) (by rw [sw_8_11]; rfl) (by decide) ?_
    refine M.aload_nR dX12_count_187 rfl ?_
    refine M.geti (v := nI (B 0).length) dX12_count_188 fl_X12_348 rfl rfl q_a.1 ?_
    refine M.iret dX12_count_191 rfl ?_
    refine ⟨congrArg (fun z => some (Value.int z)) ?_, rfl, q_a, q_b, q_n, q_w, q_c, q_r, q_x, q_q, q_k, q_f, q_t⟩
    show _ = (if x = 0 then _ else _)
    rw [if_neg sw_8_0, if_neg sw_8_1, if_neg sw_8_2, if_neg sw_8_3, if_neg sw_8_4, if_neg sw_8_5, if_neg sw_8_6, if_neg sw_8_7, if_neg sw_8_8, if_neg sw_8_9, if_neg sw_8_10, if_pos sw_8_11]
  exact absurd (show x.toInt < 0 ∨ 11 < x.toInt by have n_0 : ¬ x.toInt = 0 := fun q => sw_8_0 (i32_eq.mpr (q.trans (by decide))); have n_1 : ¬ x.toInt = 1 := fun q => sw_8_1 (i32_eq.mpr (q.trans (by decide))); have n_2 : ¬ x.toInt = 2 := fun q => sw_8_2 (i32_eq.mpr (q.trans (by decide))); have n_3 : ¬ x.toInt = 3 := fun q => sw_8_3 (i32_eq.mpr (q.trans (by decide))); have n_4 : ¬ x.toInt = 4 := fun q => sw_8_4 (i32_eq.mpr (q.trans (by decide))); have n_5 : ¬ x.toInt = 5 := fun q => sw_8_5 (i32_eq.mpr (q.trans (by decide))); have n_6 : ¬ x.toInt = 6 := fun q => sw_8_6 (i32_eq.mpr (q.trans (by decide))); have n_7 : ¬ x.toInt = 7 := fun q => sw_8_7 (i32_eq.mpr (q.trans (by decide))); have n_8 : ¬ x.toInt = 8 := fun q => sw_8_8 (i32_eq.mpr (q.trans (by decide))); have n_9 : ¬ x.toInt = 9 := fun q => sw_8_9 (i32_eq.mpr (q.trans (by decide))); have n_10 : ¬ x.toInt = 10 := fun q => sw_8_10 (i32_eq.mpr (q.trans (by decide))); have n_11 : ¬ x.toInt = 11 := fun q => sw_8_11 (i32_eq.mpr (q.trans (by decide))); omega) sw_8
