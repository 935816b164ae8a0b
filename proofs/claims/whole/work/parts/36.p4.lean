/-! the reference: consent, check, code, family, count -/
theorem bI_is1 (b : Bool) : decide (bI b = 1) = b := by cases b <;> rfl
theorem rn_at {C : List (List Int32)} {n c j : Nat} (h : ro C n c = nI j) (hj : j < 2 ^ 31) : rn C n c = j := by rw [rn, h, nI_clamp hj]
theorem sw_no {x : Int32} {v : Int32} (lo hi : Int) (h : x.toInt < lo ∨ hi < x.toInt) (hv : lo ≤ v.toInt ∧ v.toInt ≤ hi) : ¬ x = v := by
  intro q
  rw [q] at h
  omega
theorem rdT_at {Q : List (List Int32)} {R : Nat → List (List Int32)} {k c r : Nat} (ec : ro Q k 0 = nI c) (er : ro Q k 1 = nI r) (hc : c < 2 ^ 31) (hr : r < 2 ^ 31) : rdT Q R k = (R c).getD r [] := by rw [rdT, rn_at ec hc, rn_at er hr]
theorem mul4d {f : Nat → Int32} {n : Nat} {d : List Int32} (hd : d.length = 4) : tl (updl f n d) n 4 = d := by
  have h := tl_in (f := f) (i := n) (l := d)
  rwa [hd] at h
theorem nI_01 {b : Bool} (h : ¬ bI b = 1) : b = false := by cases b; rfl; exact absurd rfl h
theorem nI_11 {b : Bool} (h : bI b = 1) : b = true := by cases b; cases h; rfl

theorem p_consent_0 {Λ : kL} {m : Nat} {A : Nat → Nat} {I : Nat → Int32} {F : Nat → Nat → Int32} (hA : mInj A) {N : Nat → Int32} {B : Nat → List Int32} {T R : Nat → List (List Int32)} (hR : mR I F N B T R) (hW : wf N B T R) (hSt : kSt Λ) (q o x : Int32) : mCt Λ mX12_consent m A [.ref m, .int q, .int o, .int x, .int 0] I F (mP (opConsent N B T R q o x false)) := by
  refine mCt.of hA pn_X12 [some (.ref m), some (.int q), some (.int o), some (.int x), some (.int 0), none] rfl (Nat.le_of_ble_eq_true rfl) fun X => ?_
  obtain ⟨q_a, q_b, q_n, q_w, q_c, q_r, q_x, q_q, q_k, q_f, q_t⟩ := hR
  obtain ⟨w_a, w_n, w_w, w_c, w_r, w_x, w_q, w_k, w_f, w_t, w_m⟩ := hW
  have hc8 := w_c.1
  have hq200 := w_q.1
  have hk200 := w_k.1
  have ht1 := w_t.1
  have ht2 := w_t.2.2.2.2.1
  have hul := w_x.2.2.2.2
  have hse := flat_le w_q.2.2.1 w_q.1 (fun k hk => (w_q.2.2.2.2.2.1 k hk).2.1)
  have l_1 : sb_codeIs.length ≤ 50 := by decide
  have l_2 : sb_errorDenied.length ≤ 50 := by decide
  refine M.aload_nR dX12_consent_0 rfl ?_
  refine M.iconst (v := 0) dX12_consent_1 (by decide) ?_
  refine M.puti dX12_consent_2 fp_X12_188 rfl rfl ?_
  refine M.aload_nR dX12_consent_5 rfl ?_
  refine M.iload_n dX12_consent_6 rfl ?_
  refine M.if_lt (tgt := 27) dX12_consent_7 (by decide) (fun c_7 => ?_) (fun c_7 => ?_)
  · skip
    have hno : q < 0 ∨ nI (T 23).length ≤ q ∨ ro (T 23) q.toNatClampNeg 3 = 0 := Or.inl c_7
    refine M.iconst (v := 1) dX12_consent_27 (by decide) ?_
    refine M.goto (tgt := 32) dX12_consent_28 (by decide) ?_
    refine M.iconst (v := 1) dX12_consent_32 (by decide) ?_
    refine M.callV [.int 1, .int 1] dX12_consent_33 mdX12_throwsIf imX12_throwsIf seX12_throwsIf lk_X12_357 rfl rfl rfl rfl (m_throwsIf hA true 1) ?_
    rintro _ I9 F9 ⟨rfl, e9, e8⟩
    have e9 := e9.symm; subst e9; have e8 := e8.symm; subst e8
    refine M.if_eq (tgt := 41) dX12_consent_36 (by decide) (fun c_36 => absurd c_36 (by decide)) (fun c_36 => ?_)
    refine M.iconst (v := 0) dX12_consent_39 (by decide) ?_
    refine M.iret dX12_consent_40 rfl ?_
    rw [opConsent, if_pos hno]
    exact ⟨rfl, rfl, q_a, q_b, q_n, q_w, q_c, q_r, q_x, q_q, q_k, q_f, q_t⟩
  · skip
    obtain ⟨k, hk31, ek⟩ := nI_of c_7; subst ek
    have hcl : (nI k).toNatClampNeg = k := nI_clamp hk31
    refine M.iload_n dX12_consent_10 rfl ?_
    refine M.aload_nR dX12_consent_11 rfl ?_
    refine M.geti (v := nI (T 23).length) dX12_consent_12 fl_X12_394 rfl rfl q_q.1 ?_
    refine M.icmp_ge (tgt := 27) dX12_consent_15 (by decide) (fun c_15 => ?_) (fun c_15 => ?_)
    · skip
      have hno : nI k < 0 ∨ nI (T 23).length ≤ nI k ∨ ro (T 23) (nI k).toNatClampNeg 3 = 0 := Or.inr (Or.inl c_15)
      refine M.iconst (v := 1) dX12_consent_27 (by decide) ?_
      refine M.goto (tgt := 32) dX12_consent_28 (by decide) ?_
      refine M.iconst (v := 1) dX12_consent_32 (by decide) ?_
      refine M.callV [.int 1, .int 1] dX12_consent_33 mdX12_throwsIf imX12_throwsIf seX12_throwsIf lk_X12_357 rfl rfl rfl rfl (m_throwsIf hA true 1) ?_
      rintro _ I9 F9 ⟨rfl, e9, e8⟩
      have e9 := e9.symm; subst e9; have e8 := e8.symm; subst e8
      refine M.if_eq (tgt := 41) dX12_consent_36 (by decide) (fun c_36 => absurd c_36 (by decide)) (fun c_36 => ?_)
      refine M.iconst (v := 0) dX12_consent_39 (by decide) ?_
      refine M.iret dX12_consent_40 rfl ?_
      rw [opConsent, if_pos hno]
      exact ⟨rfl, rfl, q_a, q_b, q_n, q_w, q_c, q_r, q_x, q_q, q_k, q_f, q_t⟩
    · skip
      have lt_k : k < (T 23).length := nI_ltn c_15 (by omega) (by omega)
      obtain ⟨ob, eob⟩ := w_q.2.2.2.1 k lt_k
      obtain ⟨c, r, ec, er, hc, hr⟩ := w_q.2.2.2.2.2.2 k lt_k
      have hr3 := (w_r c).1
      have hrt := (w_r c).2.2 r hr
      have erd := rdT_at (R := R) ec er (by omega) (by omega)
      have hfl := tl_flat q_q.2.2.2.2.2.2.2.1 (n := k) (by rw [w_q.2.2.1]; exact lt_k)
      have h35 := q_q.2.2.2.2.2.2.2.2 k (by rw [w_q.2.2.1]; exact lt_k)
      have hst := w_q.2.2.2.2.2.1 k (by rw [w_q.2.2.1]; exact lt_k)
      have hrd := q_r c (by omega)
      refine M.aload_nR dX12_consent_18 rfl ?_
      refine M.getr dX12_consent_19 fl_X12_79 rfl rfl ?_
      refine M.iload_n dX12_consent_22 rfl ?_
      refine M.zaldv (k9 := 32) (j := k) (g := F 32) (v := bI ob) dX12_consent_23 rfl rfl rfl rfl (show k < 200 by omega) ((q_q.2.2.2.2.1 k lt_k).trans eob) ?_
      refine M.if_ne (tgt := 31) dX12_consent_24 (by decide) (fun c_24 => ?_) (fun c_24 => ?_)
      · skip
        have hyes : ¬ (nI k < 0 ∨ nI (T 23).length ≤ nI k ∨ ro (T 23) (nI k).toNatClampNeg 3 = 0) := fun z => z.elim c_7 (fun z => z.elim c_15 (fun z => c_24 (by rw [hcl] at z; exact eob.symm.trans z)))
        have hl3 : 3 < ((T 23).getD k []).length := row_len (c := 3) (fun z => c_24 (eob.symm.trans z))
        refine M.iconst (v := 0) dX12_consent_31 (by decide) ?_
        refine M.iconst (v := 1) dX12_consent_32 (by decide) ?_
        refine M.callV [.int 0, .int 1] dX12_consent_33 mdX12_throwsIf imX12_throwsIf seX12_throwsIf lk_X12_357 rfl rfl rfl rfl (m_throwsIf hA false 1) ?_
        rintro _ I9 F9 ⟨rfl, e9, e8⟩
        have e9 := e9.symm; subst e9; have e8 := e8.symm; subst e8
        refine M.if_eq (tgt := 41) dX12_consent_36 (by decide) (fun c_36 => ?_) (fun c_36 => absurd rfl c_36)
        refine M.aload_nR dX12_consent_41 rfl ?_
        refine M.iload dX12_consent_42 rfl ?_
        refine M.if_eq (tgt := 68) dX12_consent_44 (by decide) (fun c_44 => ?_) (fun c_44 => absurd rfl c_44)
        refine M.iconst (v := 0) dX12_consent_68 (by decide) ?_
        refine M.iconst (v := 2) dX12_consent_69 (by decide) ?_
        refine M.callV [.int 0, .int 2] dX12_consent_70 mdX12_throwsIf imX12_throwsIf seX12_throwsIf lk_X12_357 rfl rfl rfl rfl (m_throwsIf hA false 2) ?_
        rintro _ I9 F9 ⟨rfl, e9, e8⟩
        have e9 := e9.symm; subst e9; have e8 := e8.symm; subst e8
        refine M.if_eq (tgt := 78) dX12_consent_73 (by decide) (fun c_73 => ?_) (fun c_73 => absurd rfl c_73)
        refine M.iconst (v := (-1)) dX12_consent_78 (by decide) ?_
        refine M.istore (L' := [some (.ref m), some (.int (nI k)), some (.int o), some (.int x), some (.int 0), some (.int (-1))]) dX12_consent_79 (by decide) rfl rfl ?_
        refine M.iload dX12_consent_81 rfl ?_
        refine M.if_eq (tgt := 138) dX12_consent_83 (by decide) (fun c_83 => ?_) (fun c_83 => absurd rfl c_83)
        refine M.aload_nR dX12_consent_138 rfl ?_
        refine M.getr dX12_consent_139 fl_X12_79 rfl rfl ?_
        refine M.iload_n dX12_consent_142 rfl ?_
        refine M.iconst (v := 0) dX12_consent_143 (by decide) ?_
        refine M.zast1 (k9 := 32) (j := k) dX12_consent_144 rfl rfl rfl (show k < 200 by omega) (by decide) ?_
        refine M.aload_nR dX12_consent_145 rfl ?_
        refine M.sipush (v := 302) dX12_consent_146 (by decide) ?_
        refine M.iload dX12_consent_149 rfl ?_
        refine M.if_eq (tgt := 158) dX12_consent_151 (by decide) (fun c_151 => ?_) (fun c_151 => absurd rfl c_151)
        refine M.iconst (v := 3) dX12_consent_158 (by decide) ?_
        refine M.callV [.int 302, .int 3] dX12_consent_159 mdX12_ends imX12_ends seX12_ends lk_X12_328 rfl rfl rfl rfl (m_ends hA 302 3) ?_
        rintro _ I9 F9 ⟨rfl, e9, e8⟩
        have e9 := e9.symm; subst e9; have e8 := e8.symm; subst e8
        refine M.aload_nR dX12_consent_162 rfl ?_
        refine M.aload_nR dX12_consent_163 rfl ?_
        refine M.getr dX12_consent_164 fl_X12_70 rfl rfl ?_
        refine M.iload_n dX12_consent_167 rfl ?_
        refine M.ialdv (k9 := 29) (j := k) (g := F 29) (v := nI c) dX12_consent_168 rfl rfl rfl rfl (show k < 200 by omega) ((q_q.2.1 k lt_k).trans ec) ?_
        refine M.aload_nR dX12_consent_169 rfl ?_
        refine M.getr dX12_consent_170 fl_X12_73 rfl rfl ?_
        refine M.iload_n dX12_consent_173 rfl ?_
        refine M.ialdv (k9 := 30) (j := k) (g := F 30) (v := nI r) dX12_consent_174 rfl rfl rfl rfl (show k < 200 by omega) ((q_q.2.2.1 k lt_k).trans er) ?_
        refine M.callV [.int (nI c), .int (nI r)] dX12_consent_175 mdX12_place imX12_place seX12_place lk_X12_397 rfl rfl rfl rfl (m_place hA (F := (updF F 32 k 0)) (c := c) (by omega) hrd (r := r) hr hrt.2.2 rfl (by decide)) ?_
        rintro _ I9 F9 ⟨rfl, e9, e8⟩
        have e9 := e9.symm; subst e9; have e8 := e8.symm; subst e8
        refine M.aload_nR dX12_consent_178 rfl ?_
        refine M.iload dX12_consent_179 rfl ?_
        refine M.if_eq (tgt := 190) dX12_consent_181 (by decide) (fun c_181 => ?_) (fun c_181 => absurd rfl c_181)
        refine M.ldcwS dX12_consent_190 sr_X12_416 ?_
        refine M.callV [.ref (kSa Λ RX12 416)] dX12_consent_193 mdX12_says imX12_says seX12_says lk_X12_334 rfl rfl rfl rfl (m_says hA (st_X12_416 hSt) sb_errorDenied_b (mo_4 rfl) (by simp only [List.length_append, List.length_cons, List.length_nil, b64_len]; omega)) ?_
        rintro _ I9 F9 ⟨rfl, e9, e8⟩
        have e9 := e9.symm; subst e9; have e8 := e8.symm; subst e8
        rw [mo_mo rfl, fo_fo rfl]
        refine M.iload dX12_consent_196 rfl ?_
        refine M.if_eq (tgt := 207) dX12_consent_198 (by decide) (fun c_198 => ?_) (fun c_198 => absurd rfl c_198)
        by_cases h4v : 0 < ((T 26).getD k []).length
        · skip
          refine M.aload_nR dX12_consent_207 rfl ?_
          refine M.aload_nR dX12_consent_208 rfl ?_
          refine M.getr dX12_consent_209 fl_X12_86 rfl rfl ?_
          refine M.aload_nR dX12_consent_212 rfl ?_
          refine M.getr dX12_consent_213 fl_X12_89 rfl rfl ?_
          refine M.iload_n dX12_consent_216 rfl ?_
          refine M.ialdv (k9 := 35) (j := k) (g := F 35) (v := nI ((T 26).take k).flatten.length) dX12_consent_217 rfl rfl rfl rfl (show k < 200 by omega) h35.1 ?_
          refine M.aload_nR dX12_consent_218 rfl ?_
          refine M.getr dX12_consent_219 fl_X12_92 rfl rfl ?_
          refine M.iload_n dX12_consent_222 rfl ?_
          refine M.ialdv (k9 := 36) (j := k) (g := F 36) (v := nI ((T 26).getD k []).length) dX12_consent_223 rfl rfl rfl rfl (show k < 200 by omega) h35.2 ?_
          refine M.callV [.ref (A 34), .int (nI ((T 26).take k).flatten.length), .int (nI ((T 26).getD k []).length)] dX12_consent_224 mdX12_state imX12_state seX12_state lk_X12_402 rfl rfl rfl rfl (m_state hA hSt (F := (fo (updF F 32 k 0) 0 ((((R c).getD r []) ++ [plc ((R c).getD r [])]) ++ sb_errorDenied))) (k1 := 34) rfl rfl (by decide) (v := ((T 26).getD k [])) (show _ ≤ 400000 by omega) hfl.1 h4v (by omega) (mo_4 rfl) (by simp only [List.length_append, List.length_cons, List.length_nil, b64_len]; omega)) ?_
          rintro _ I9 F9 ⟨rfl, e9, e8⟩
          have e9 := e9.symm; subst e9; have e8 := e8.symm; subst e8
          rw [mo_mo rfl, fo_fo rfl]
          refine M.iload dX12_consent_227 rfl ?_
          refine M.if_ne (tgt := 234) dX12_consent_229 (by decide) (fun c_229 => absurd c_229 (fun z => z rfl)) (fun c_229 => ?_)
          refine M.iconst (v := (-1)) dX12_consent_232 (by decide) ?_
          refine M.iret dX12_consent_233 rfl ?_
          have et : (((((R c).getD r []) ++ [plc ((R c).getD r [])]) ++ sb_errorDenied) ++ (stS ((T 26).getD k []))) = locT T R k sb_errorDenied := by rw [locT, erd]
          rw [opConsent, if_neg hyes, hcl, if_neg (fun z => absurd z.1 (by decide)), if_neg (by decide), ← et]
          exact ⟨rfl, rfl, q_a, mRb.fo rfl rfl, ⟨rfl, rfl, q_n.2.2⟩, q_w, q_c, q_r, q_x, q_q.close hl3 rfl rfl rfl rfl rfl rfl rfl rfl rfl rfl, q_k, q_f, q_t⟩
        · skip
          refine M.aload_nR dX12_consent_207 rfl ?_
          refine M.aload_nR dX12_consent_208 rfl ?_
          refine M.getr dX12_consent_209 fl_X12_86 rfl rfl ?_
          refine M.aload_nR dX12_consent_212 rfl ?_
          refine M.getr dX12_consent_213 fl_X12_89 rfl rfl ?_
          refine M.iload_n dX12_consent_216 rfl ?_
          refine M.ialdv (k9 := 35) (j := k) (g := F 35) (v := nI ((T 26).take k).flatten.length) dX12_consent_217 rfl rfl rfl rfl (show k < 200 by omega) h35.1 ?_
          refine M.aload_nR dX12_consent_218 rfl ?_
          refine M.getr dX12_consent_219 fl_X12_92 rfl rfl ?_
          refine M.iload_n dX12_consent_222 rfl ?_
          refine M.ialdv (k9 := 36) (j := k) (g := F 36) (v := nI ((T 26).getD k []).length) dX12_consent_223 rfl rfl rfl rfl (show k < 200 by omega) h35.2 ?_
          refine M.callV [.ref (A 34), .int (nI ((T 26).take k).flatten.length), .int (nI ((T 26).getD k []).length)] dX12_consent_224 mdX12_state imX12_state seX12_state lk_X12_402 rfl rfl rfl rfl (m_state0 hA (by rw [show ((T 26).getD k []).length = 0 by omega]; decide)) ?_
          rintro _ I9 F9 ⟨rfl, e9, e8⟩
          have e9 := e9.symm; subst e9; have e8 := e8.symm; subst e8
          refine M.iload dX12_consent_227 rfl ?_
          refine M.if_ne (tgt := 234) dX12_consent_229 (by decide) (fun c_229 => absurd c_229 (fun z => z rfl)) (fun c_229 => ?_)
          refine M.iconst (v := (-1)) dX12_consent_232 (by decide) ?_
          refine M.iret dX12_consent_233 rfl ?_
          have et : ((((R c).getD r []) ++ [plc ((R c).getD r [])]) ++ sb_errorDenied) = locT T R k sb_errorDenied := by rw [locT, erd]; rw [stS_nil h4v, List.append_nil]
          rw [opConsent, if_neg hyes, hcl, if_neg (fun z => absurd z.1 (by decide)), if_neg (by decide), ← et]
          exact ⟨rfl, rfl, q_a, mRb.fo rfl rfl, ⟨rfl, rfl, q_n.2.2⟩, q_w, q_c, q_r, q_x, q_q.close hl3 rfl rfl rfl rfl rfl rfl rfl rfl rfl rfl, q_k, q_f, q_t⟩
      · skip
        have hno : nI k < 0 ∨ nI (T 23).length ≤ nI k ∨ ro (T 23) (nI k).toNatClampNeg 3 = 0 := Or.inr (Or.inr (by rw [hcl]; exact eob.trans c_24))
        refine M.iconst (v := 1) dX12_consent_27 (by decide) ?_
        refine M.goto (tgt := 32) dX12_consent_28 (by decide) ?_
        refine M.iconst (v := 1) dX12_consent_32 (by decide) ?_
        refine M.callV [.int 1, .int 1] dX12_consent_33 mdX12_throwsIf imX12_throwsIf seX12_throwsIf lk_X12_357 rfl rfl rfl rfl (m_throwsIf hA true 1) ?_
        rintro _ I9 F9 ⟨rfl, e9, e8⟩
        have e9 := e9.symm; subst e9; have e8 := e8.symm; subst e8
        refine M.if_eq (tgt := 41) dX12_consent_36 (by decide) (fun c_36 => absurd c_36 (by decide)) (fun c_36 => ?_)
        refine M.iconst (v := 0) dX12_consent_39 (by decide) ?_
        refine M.iret dX12_consent_40 rfl ?_
        rw [opConsent, if_pos hno]
        exact ⟨rfl, rfl, q_a, q_b, q_n, q_w, q_c, q_r, q_x, q_q, q_k, q_f, q_t⟩

theorem p_consent_1 {Λ : kL} {m : Nat} {A : Nat → Nat} {I : Nat → Int32} {F : Nat → Nat → Int32} (hA : mInj A) {N : Nat → Int32} {B : Nat → List Int32} {T R : Nat → List (List Int32)} (hR : mR I F N B T R) (hW : wf N B T R) (hSt : kSt Λ) (q o x : Int32) : mCt Λ mX12_consent m A [.ref m, .int q, .int o, .int x, .int 1] I F (mP (opConsent N B T R q o x true)) := by
  refine mCt.of hA pn_X12 [some (.ref m), some (.int q), some (.int o), some (.int x), some (.int 1), none] rfl (Nat.le_of_ble_eq_true rfl) fun X => ?_
  obtain ⟨q_a, q_b, q_n, q_w, q_c, q_r, q_x, q_q, q_k, q_f, q_t⟩ := hR
  obtain ⟨w_a, w_n, w_w, w_c, w_r, w_x, w_q, w_k, w_f, w_t, w_m⟩ := hW
  have hc8 := w_c.1
  have hq200 := w_q.1
  have hk200 := w_k.1
  have ht1 := w_t.1
  have ht2 := w_t.2.2.2.2.1
  have hul := w_x.2.2.2.2
  have hse := flat_le w_q.2.2.1 w_q.1 (fun k hk => (w_q.2.2.2.2.2.1 k hk).2.1)
  have l_1 : sb_codeIs.length ≤ 50 := by decide
  have l_2 : sb_errorDenied.length ≤ 50 := by decide
  refine M.aload_nR dX12_consent_0 rfl ?_
  refine M.iconst (v := 0) dX12_consent_1 (by decide) ?_
  refine M.puti dX12_consent_2 fp_X12_188 rfl rfl ?_
  refine M.aload_nR dX12_consent_5 rfl ?_
  refine M.iload_n dX12_consent_6 rfl ?_
  refine M.if_lt (tgt := 27) dX12_consent_7 (by decide) (fun c_7 => ?_) (fun c_7 => ?_)
  · skip
    have hno : q < 0 ∨ nI (T 23).length ≤ q ∨ ro (T 23) q.toNatClampNeg 3 = 0 := Or.inl c_7
    refine M.iconst (v := 1) dX12_consent_27 (by decide) ?_
    refine M.goto (tgt := 32) dX12_consent_28 (by decide) ?_
    refine M.iconst (v := 1) dX12_consent_32 (by decide) ?_
    refine M.callV [.int 1, .int 1] dX12_consent_33 mdX12_throwsIf imX12_throwsIf seX12_throwsIf lk_X12_357 rfl rfl rfl rfl (m_throwsIf hA true 1) ?_
    rintro _ I9 F9 ⟨rfl, e9, e8⟩
    have e9 := e9.symm; subst e9; have e8 := e8.symm; subst e8
    refine M.if_eq (tgt := 41) dX12_consent_36 (by decide) (fun c_36 => absurd c_36 (by decide)) (fun c_36 => ?_)
    refine M.iconst (v := 0) dX12_consent_39 (by decide) ?_
    refine M.iret dX12_consent_40 rfl ?_
    rw [opConsent, if_pos hno]
    exact ⟨rfl, rfl, q_a, q_b, q_n, q_w, q_c, q_r, q_x, q_q, q_k, q_f, q_t⟩
  · skip
    obtain ⟨k, hk31, ek⟩ := nI_of c_7; subst ek
    have hcl : (nI k).toNatClampNeg = k := nI_clamp hk31
    refine M.iload_n dX12_consent_10 rfl ?_
    refine M.aload_nR dX12_consent_11 rfl ?_
    refine M.geti (v := nI (T 23).length) dX12_consent_12 fl_X12_394 rfl rfl q_q.1 ?_
    refine M.icmp_ge (tgt := 27) dX12_consent_15 (by decide) (fun c_15 => ?_) (fun c_15 => ?_)
    · skip
      have hno : nI k < 0 ∨ nI (T 23).length ≤ nI k ∨ ro (T 23) (nI k).toNatClampNeg 3 = 0 := Or.inr (Or.inl c_15)
      refine M.iconst (v := 1) dX12_consent_27 (by decide) ?_
      refine M.goto (tgt := 32) dX12_consent_28 (by decide) ?_
      refine M.iconst (v := 1) dX12_consent_32 (by decide) ?_
      refine M.callV [.int 1, .int 1] dX12_consent_33 mdX12_throwsIf imX12_throwsIf seX12_throwsIf lk_X12_357 rfl rfl rfl rfl (m_throwsIf hA true 1) ?_
      rintro _ I9 F9 ⟨rfl, e9, e8⟩
      have e9 := e9.symm; subst e9; have e8 := e8.symm; subst e8
      refine M.if_eq (tgt := 41) dX12_consent_36 (by decide) (fun c_36 => absurd c_36 (by decide)) (fun c_36 => ?_)
      refine M.iconst (v := 0) dX12_consent_39 (by decide) ?_
      refine M.iret dX12_consent_40 rfl ?_
      rw [opConsent, if_pos hno]
      exact ⟨rfl, rfl, q_a, q_b, q_n, q_w, q_c, q_r, q_x, q_q, q_k, q_f, q_t⟩
    · skip
      have lt_k : k < (T 23).length := nI_ltn c_15 (by omega) (by omega)
      obtain ⟨ob, eob⟩ := w_q.2.2.2.1 k lt_k
      obtain ⟨c, r, ec, er, hc, hr⟩ := w_q.2.2.2.2.2.2 k lt_k
      have hr3 := (w_r c).1
      have hrt := (w_r c).2.2 r hr
      have erd := rdT_at (R := R) ec er (by omega) (by omega)
      have hfl := tl_flat q_q.2.2.2.2.2.2.2.1 (n := k) (by rw [w_q.2.2.1]; exact lt_k)
      have h35 := q_q.2.2.2.2.2.2.2.2 k (by rw [w_q.2.2.1]; exact lt_k)
      have hst := w_q.2.2.2.2.2.1 k (by rw [w_q.2.2.1]; exact lt_k)
      have hrd := q_r c (by omega)
      refine M.aload_nR dX12_consent_18 rfl ?_
      refine M.getr dX12_consent_19 fl_X12_79 rfl rfl ?_
      refine M.iload_n dX12_consent_22 rfl ?_
      refine M.zaldv (k9 := 32) (j := k) (g := F 32) (v := bI ob) dX12_consent_23 rfl rfl rfl rfl (show k < 200 by omega) ((q_q.2.2.2.2.1 k lt_k).trans eob) ?_
      refine M.if_ne (tgt := 31) dX12_consent_24 (by decide) (fun c_24 => ?_) (fun c_24 => ?_)
      · skip
        have hyes : ¬ (nI k < 0 ∨ nI (T 23).length ≤ nI k ∨ ro (T 23) (nI k).toNatClampNeg 3 = 0) := fun z => z.elim c_7 (fun z => z.elim c_15 (fun z => c_24 (by rw [hcl] at z; exact eob.symm.trans z)))
        have hl3 : 3 < ((T 23).getD k []).length := row_len (c := 3) (fun z => c_24 (eob.symm.trans z))
        refine M.iconst (v := 0) dX12_consent_31 (by decide) ?_
        refine M.iconst (v := 1) dX12_consent_32 (by decide) ?_
        refine M.callV [.int 0, .int 1] dX12_consent_33 mdX12_throwsIf imX12_throwsIf seX12_throwsIf lk_X12_357 rfl rfl rfl rfl (m_throwsIf hA false 1) ?_
        rintro _ I9 F9 ⟨rfl, e9, e8⟩
        have e9 := e9.symm; subst e9; have e8 := e8.symm; subst e8
        refine M.if_eq (tgt := 41) dX12_consent_36 (by decide) (fun c_36 => ?_) (fun c_36 => absurd rfl c_36)
        refine M.aload_nR dX12_consent_41 rfl ?_
        refine M.iload dX12_consent_42 rfl ?_
        refine M.if_eq (tgt := 68) dX12_consent_44 (by decide) (fun c_44 => absurd c_44 (by decide)) (fun c_44 => ?_)
        refine M.iload_n dX12_consent_47 rfl ?_
        refine M.if_eq (tgt := 64) dX12_consent_48 (by decide) (fun c_48 => ?_) (fun c_48 => ?_)
        · skip
          have hbad : true = true ∧ (x = 0 ∨ ¬ wthn x (ro (T 23) k 2) = true) := ⟨rfl, by first | exact Or.inl c_48 | exact Or.inr (fun z => c_61 (of_decide_eq_true z))⟩
          refine M.iconst (v := 1) dX12_consent_64 (by decide) ?_
          refine M.goto (tgt := 69) dX12_consent_65 (by decide) ?_
          refine M.iconst (v := 2) dX12_consent_69 (by decide) ?_
          refine M.callV [.int 1, .int 2] dX12_consent_70 mdX12_throwsIf imX12_throwsIf seX12_throwsIf lk_X12_357 rfl rfl rfl rfl (m_throwsIf hA true 2) ?_
          rintro _ I9 F9 ⟨rfl, e9, e8⟩
          have e9 := e9.symm; subst e9; have e8 := e8.symm; subst e8
          refine M.if_eq (tgt := 78) dX12_consent_73 (by decide) (fun c_73 => absurd c_73 (by decide)) (fun c_73 => ?_)
          refine M.iconst (v := 0) dX12_consent_76 (by decide) ?_
          refine M.iret dX12_consent_77 rfl ?_
          rw [opConsent, if_neg hyes, hcl, if_pos hbad]
          exact ⟨rfl, rfl, q_a, q_b, q_n, q_w, q_c, q_r, q_x, q_q, q_k, q_f, q_t⟩
        · skip
          refine M.iload_n dX12_consent_51 rfl ?_
          refine M.aload_nR dX12_consent_52 rfl ?_
          refine M.getr dX12_consent_53 fl_X12_76 rfl rfl ?_
          refine M.iload_n dX12_consent_56 rfl ?_
          refine M.ialdv (k9 := 31) (j := k) (g := F 31) (v := ro (T 23) k 2) dX12_consent_57 rfl rfl rfl rfl (show k < 200 by omega) (q_q.2.2.2.1 k lt_k) ?_
          refine M.iconst (v := (-1)) dX12_consent_58 (by decide) ?_
          refine M.ixor dX12_consent_59 ?_
          refine M.iand dX12_consent_60 ?_
          refine M.if_eq (tgt := 68) dX12_consent_61 (by decide) (fun c_61 => ?_) (fun c_61 => ?_)
          · skip
            have hgood : ¬ (true = true ∧ (x = 0 ∨ ¬ wthn x (ro (T 23) k 2) = true)) := fun z => z.2.elim c_48 (fun z => z (decide_eq_true c_61))
            refine M.iconst (v := 0) dX12_consent_68 (by decide) ?_
            refine M.iconst (v := 2) dX12_consent_69 (by decide) ?_
            refine M.callV [.int 0, .int 2] dX12_consent_70 mdX12_throwsIf imX12_throwsIf seX12_throwsIf lk_X12_357 rfl rfl rfl rfl (m_throwsIf hA false 2) ?_
            rintro _ I9 F9 ⟨rfl, e9, e8⟩
            have e9 := e9.symm; subst e9; have e8 := e8.symm; subst e8
            refine M.if_eq (tgt := 78) dX12_consent_73 (by decide) (fun c_73 => ?_) (fun c_73 => absurd rfl c_73)
            refine M.iconst (v := (-1)) dX12_consent_78 (by decide) ?_
            refine M.istore (L' := [some (.ref m), some (.int (nI k)), some (.int o), some (.int x), some (.int 1), some (.int (-1))]) dX12_consent_79 (by decide) rfl rfl ?_
            refine M.iload dX12_consent_81 rfl ?_
            refine M.if_eq (tgt := 138) dX12_consent_83 (by decide) (fun c_83 => absurd c_83 (by decide)) (fun c_83 => ?_)
            refine M.aload_nR dX12_consent_86 rfl ?_
            refine M.aload_nR dX12_consent_87 rfl ?_
            refine M.geti (v := nI (T 27).length) dX12_consent_88 fl_X12_408 rfl rfl q_k.1 ?_
            refine M.sipush (v := 200) dX12_consent_91 (by decide) ?_
            refine M.icmp_ne (tgt := 101) dX12_consent_94 (by decide) (fun c_94 => ?_) (fun c_94 => ?_)
            · skip
              have n200 : ¬ (T 27).length = 200 := fun z => c_94 ((nI_eq (b := 200) (by omega) (by omega)).mpr z)
              refine M.iconst (v := 0) dX12_consent_101 (by decide) ?_
              refine M.iconst (v := 3) dX12_consent_102 (by decide) ?_
              refine M.callV [.int 0, .int 3] dX12_consent_103 mdX12_throwsIf imX12_throwsIf seX12_throwsIf lk_X12_357 rfl rfl rfl rfl (m_throwsIf hA false 3) ?_
              rintro _ I9 F9 ⟨rfl, e9, e8⟩
              have e9 := e9.symm; subst e9; have e8 := e8.symm; subst e8
              refine M.if_eq (tgt := 111) dX12_consent_106 (by decide) (fun c_106 => ?_) (fun c_106 => absurd rfl c_106)
              refine M.aload_nR dX12_consent_111 rfl ?_
              refine M.iconst (v := 1) dX12_consent_112 (by decide) ?_
              refine M.callV [.int 1] dX12_consent_113 mdX12_takes imX12_takes seX12_takes lk_X12_411 rfl rfl rfl rfl (m_takes_1 hA (I := (upd I 0 0)) (F := F) (U := (T 21)) (W := T 20) q_x.2.2.1 (by omega) q_x.2.2.2 w_x.1 q_x.2.1 q_x.1 (by omega)) ?_
              rintro _ I9 _ (⟨hk, rfl, e9, e8⟩ | ⟨d, W1, g21, hk, rfl, rfl, rfl, h9⟩)
              · have e9 := e9.symm; subst e9; have e8 := e8.symm; subst e8
                refine M.istore (L' := [some (.ref m), some (.int (nI k)), some (.int o), some (.int x), some (.int 1), some (.int (-1))]) dX12_consent_116 (by decide) rfl rfl ?_
                refine M.aload_nR dX12_consent_118 rfl ?_
                refine M.iload dX12_consent_119 rfl ?_
                refine M.if_ge (tgt := 128) dX12_consent_121 (by decide) (fun c_121 => absurd c_121 (by decide)) (fun c_121 => ?_)
                refine M.iconst (v := 1) dX12_consent_124 (by decide) ?_
                refine M.goto (tgt := 129) dX12_consent_125 (by decide) ?_
                refine M.iconst (v := 3) dX12_consent_129 (by decide) ?_
                refine M.callV [.int 1, .int 3] dX12_consent_130 mdX12_throwsIf imX12_throwsIf seX12_throwsIf lk_X12_357 rfl rfl rfl rfl (m_throwsIf hA true 3) ?_
                rintro _ I9 F9 ⟨rfl, e9, e8⟩
                have e9 := e9.symm; subst e9; have e8 := e8.symm; subst e8
                refine M.if_eq (tgt := 138) dX12_consent_133 (by decide) (fun c_133 => absurd c_133 (by decide)) (fun c_133 => ?_)
                refine M.iconst (v := 0) dX12_consent_136 (by decide) ?_
                refine M.iret dX12_consent_137 rfl ?_
                rw [opConsent, if_neg hyes, hcl, if_neg hgood, if_pos rfl, opConY, if_neg n200, hk]
                exact ⟨rfl, rfl, q_a, q_b, q_n, q_w, q_c, q_r, q_x, q_q, q_k, q_f, q_t⟩
              · have hdm := tk1_mem hk
                have hd4 : d.length = 4 := w_x.2.1 d hdm.1
                refine M.istore (L' := [some (.ref m), some (.int (nI k)), some (.int o), some (.int x), some (.int 1), some (.int (nI (T 21).length))]) dX12_consent_116 (by decide) rfl rfl ?_
                refine M.aload_nR dX12_consent_118 rfl ?_
                refine M.iload dX12_consent_119 rfl ?_
                refine M.if_ge (tgt := 128) dX12_consent_121 (by decide) (fun c_121 => ?_) (fun c_121 => absurd (nI_pos' (by omega)) c_121)
                refine M.iconst (v := 0) dX12_consent_128 (by decide) ?_
                refine M.iconst (v := 3) dX12_consent_129 (by decide) ?_
                refine M.callV [.int 0, .int 3] dX12_consent_130 mdX12_throwsIf imX12_throwsIf seX12_throwsIf lk_X12_357 rfl rfl rfl rfl (m_throwsIf hA false 3) ?_
                rintro _ I9 F9 ⟨rfl, e9, e8⟩
                have e9 := e9.symm; subst e9; have e8 := e8.symm; subst e8
                refine M.if_eq (tgt := 138) dX12_consent_133 (by decide) (fun c_133 => ?_) (fun c_133 => absurd rfl c_133)
                refine M.aload_nR dX12_consent_138 rfl ?_
                refine M.getr dX12_consent_139 fl_X12_79 rfl rfl ?_
                refine M.iload_n dX12_consent_142 rfl ?_
                refine M.iconst (v := 0) dX12_consent_143 (by decide) ?_
                refine M.zast1 (k9 := 32) (j := k) dX12_consent_144 rfl rfl rfl (show k < 200 by omega) (by decide) ?_
                refine M.aload_nR dX12_consent_145 rfl ?_
                refine M.sipush (v := 302) dX12_consent_146 (by decide) ?_
                refine M.iload dX12_consent_149 rfl ?_
                refine M.if_eq (tgt := 158) dX12_consent_151 (by decide) (fun c_151 => absurd c_151 (by decide)) (fun c_151 => ?_)
                refine M.iconst (v := 0) dX12_consent_154 (by decide) ?_
                refine M.goto (tgt := 159) dX12_consent_155 (by decide) ?_
                refine M.callV [.int 302, .int 0] dX12_consent_159 mdX12_ends imX12_ends seX12_ends lk_X12_328 rfl rfl rfl rfl (m_ends hA 302 0) ?_
                rintro _ I9 F9 ⟨rfl, e9, e8⟩
                have e9 := e9.symm; subst e9; have e8 := e8.symm; subst e8
                refine M.aload_nR dX12_consent_162 rfl ?_
                refine M.aload_nR dX12_consent_163 rfl ?_
                refine M.getr dX12_consent_164 fl_X12_70 rfl rfl ?_
                refine M.iload_n dX12_consent_167 rfl ?_
                refine M.ialdv (k9 := 29) (j := k) (g := F 29) (v := nI c) dX12_consent_168 rfl rfl rfl rfl (show k < 200 by omega) ((q_q.2.1 k lt_k).trans ec) ?_
                refine M.aload_nR dX12_consent_169 rfl ?_
                refine M.getr dX12_consent_170 fl_X12_73 rfl rfl ?_
                refine M.iload_n dX12_consent_173 rfl ?_
                refine M.ialdv (k9 := 30) (j := k) (g := F 30) (v := nI r) dX12_consent_174 rfl rfl rfl rfl (show k < 200 by omega) ((q_q.2.2.1 k lt_k).trans er) ?_
                refine M.callV [.int (nI c), .int (nI r)] dX12_consent_175 mdX12_place imX12_place seX12_place lk_X12_397 rfl rfl rfl rfl (m_place hA (F := (updF (setF (setF F 23 (updl (F 23) (4 * (T 21).length) d)) 21 g21) 32 k 0)) (c := c) (by omega) hrd (r := r) hr hrt.2.2 rfl (by decide)) ?_
                rintro _ I9 F9 ⟨rfl, e9, e8⟩
                have e9 := e9.symm; subst e9; have e8 := e8.symm; subst e8
                refine M.aload_nR dX12_consent_178 rfl ?_
                refine M.iload dX12_consent_179 rfl ?_
                refine M.if_eq (tgt := 190) dX12_consent_181 (by decide) (fun c_181 => absurd c_181 (by decide)) (fun c_181 => ?_)
                refine M.ldcwS dX12_consent_184 sr_X12_414 ?_
                refine M.goto (tgt := 193) dX12_consent_187 (by decide) ?_
                refine M.callV [.ref (kSa Λ RX12 414)] dX12_consent_193 mdX12_says imX12_says seX12_says lk_X12_334 rfl rfl rfl rfl (m_says hA (st_X12_414 hSt) sb_codeIs_b (mo_4 rfl) (by simp only [List.length_append, List.length_cons, List.length_nil, b64_len]; omega)) ?_
                rintro _ I9 F9 ⟨rfl, e9, e8⟩
                have e9 := e9.symm; subst e9; have e8 := e8.symm; subst e8
                rw [mo_mo rfl, fo_fo rfl]
                refine M.iload dX12_consent_196 rfl ?_
                refine M.if_eq (tgt := 207) dX12_consent_198 (by decide) (fun c_198 => absurd c_198 (by decide)) (fun c_198 => ?_)
                refine M.aload_nR dX12_consent_201 rfl ?_
                refine M.iload dX12_consent_202 rfl ?_
                refine M.callV [.int (nI (T 21).length)] dX12_consent_204 mdX12_saysHandle imX12_saysHandle seX12_saysHandle lk_X12_418 rfl rfl rfl rfl (m_saysHandle hA (F := (fo (updF (setF (setF F 23 (updl (F 23) (4 * (T 21).length) d)) 21 g21) 32 k 0) 0 ((((R c).getD r []) ++ [plc ((R c).getD r [])]) ++ sb_codeIs))) (a := (T 21).length) (by omega) (d := d) (mul4d hd4) (mo_4 rfl) (by simp only [List.length_append, List.length_cons, List.length_nil, b64_len]; omega)) ?_
                rintro _ _ _ ⟨a9, b9, rfl, rfl, rfl⟩
                rw [hs_fo, mo_mo rfl, fo_fo rfl]
                by_cases h4v : 0 < ((T 26).getD k []).length
                · skip
                  refine M.aload_nR dX12_consent_207 rfl ?_
                  refine M.aload_nR dX12_consent_208 rfl ?_
                  refine M.getr dX12_consent_209 fl_X12_86 rfl rfl ?_
                  refine M.aload_nR dX12_consent_212 rfl ?_
                  refine M.getr dX12_consent_213 fl_X12_89 rfl rfl ?_
                  refine M.iload_n dX12_consent_216 rfl ?_
                  refine M.ialdv (k9 := 35) (j := k) (g := F 35) (v := nI ((T 26).take k).flatten.length) dX12_consent_217 rfl rfl rfl rfl (show k < 200 by omega) h35.1 ?_
                  refine M.aload_nR dX12_consent_218 rfl ?_
                  refine M.getr dX12_consent_219 fl_X12_92 rfl rfl ?_
                  refine M.iload_n dX12_consent_222 rfl ?_
                  refine M.ialdv (k9 := 36) (j := k) (g := F 36) (v := nI ((T 26).getD k []).length) dX12_consent_223 rfl rfl rfl rfl (show k < 200 by omega) h35.2 ?_
                  refine M.callV [.ref (A 34), .int (nI ((T 26).take k).flatten.length), .int (nI ((T 26).getD k []).length)] dX12_consent_224 mdX12_state imX12_state seX12_state lk_X12_402 rfl rfl rfl rfl (m_state hA hSt (F := (fo (hs (updF (setF (setF F 23 (updl (F 23) (4 * (T 21).length) d)) 21 g21) 32 k 0) a9 b9) 0 (((((R c).getD r []) ++ [plc ((R c).getD r [])]) ++ sb_codeIs) ++ (b64 d 22)))) (k1 := 34) rfl rfl (by decide) (v := ((T 26).getD k [])) (show _ ≤ 400000 by omega) hfl.1 h4v (by omega) (mo_4 rfl) (by simp only [List.length_append, List.length_cons, List.length_nil, b64_len]; omega)) ?_
                  rintro _ I9 F9 ⟨rfl, e9, e8⟩
                  have e9 := e9.symm; subst e9; have e8 := e8.symm; subst e8
                  rw [mo_mo rfl, fo_fo rfl]
                  refine M.iload dX12_consent_227 rfl ?_
                  refine M.if_ne (tgt := 234) dX12_consent_229 (by decide) (fun c_229 => ?_) (fun c_229 => absurd c_229 (by decide))
                  refine M.aload_nR dX12_consent_234 rfl ?_
                  refine M.getr dX12_consent_235 fl_X12_95 rfl rfl ?_
                  refine M.aload_nR dX12_consent_238 rfl ?_
                  refine M.geti (v := nI (T 27).length) dX12_consent_239 fl_X12_408 rfl rfl q_k.1 ?_
                  refine M.iload dX12_consent_242 rfl ?_
                  refine M.iast (k9 := 39) (j := (T 27).length) dX12_consent_244 rfl rfl rfl (show (T 27).length < 200 by omega) ?_
                  refine M.aload_nR dX12_consent_245 rfl ?_
                  refine M.getr dX12_consent_246 fl_X12_98 rfl rfl ?_
                  refine M.aload_nR dX12_consent_249 rfl ?_
                  refine M.geti (v := nI (T 27).length) dX12_consent_250 fl_X12_408 rfl rfl q_k.1 ?_
                  refine M.iload_n dX12_consent_253 rfl ?_
                  refine M.iast (k9 := 40) (j := (T 27).length) dX12_consent_254 rfl rfl rfl (show (T 27).length < 200 by omega) ?_
                  refine M.aload_nR dX12_consent_255 rfl ?_
                  refine M.getr dX12_consent_256 fl_X12_101 rfl rfl ?_
                  refine M.aload_nR dX12_consent_259 rfl ?_
                  refine M.geti (v := nI (T 27).length) dX12_consent_260 fl_X12_408 rfl rfl q_k.1 ?_
                  refine M.iload_n dX12_consent_263 rfl ?_
                  refine M.iast (k9 := 41) (j := (T 27).length) dX12_consent_264 rfl rfl rfl (show (T 27).length < 200 by omega) ?_
                  refine M.aload_nR dX12_consent_265 rfl ?_
                  refine M.getr dX12_consent_266 fl_X12_104 rfl rfl ?_
                  refine M.aload_nR dX12_consent_269 rfl ?_
                  refine M.geti (v := nI (T 27).length) dX12_consent_270 fl_X12_408 rfl rfl q_k.1 ?_
                  refine M.iload_n dX12_consent_273 rfl ?_
                  refine M.iast (k9 := 42) (j := (T 27).length) dX12_consent_274 rfl rfl rfl (show (T 27).length < 200 by omega) ?_
                  refine M.aload_nR dX12_consent_275 rfl ?_
                  refine M.getr dX12_consent_276 fl_X12_107 rfl rfl ?_
                  refine M.aload_nR dX12_consent_279 rfl ?_
                  refine M.geti (v := nI (T 27).length) dX12_consent_280 fl_X12_408 rfl rfl q_k.1 ?_
                  refine M.aload_nR dX12_consent_283 rfl ?_
                  refine M.geti (v := N 25) dX12_consent_284 fl_X12_366 rfl rfl q_n.2.2.1 ?_
                  refine M.aload_nR dX12_consent_287 rfl ?_
                  refine M.geti (v := N 26) dX12_consent_288 fl_X12_60 rfl rfl q_n.2.2.2.1 ?_
                  refine M.iadd dX12_consent_291 ?_
                  refine M.iast (k9 := 43) (j := (T 27).length) dX12_consent_292 rfl rfl rfl (show (T 27).length < 200 by omega) ?_
                  refine M.aload_nR dX12_consent_293 rfl ?_
                  refine M.getr dX12_consent_294 fl_X12_110 rfl rfl ?_
                  refine M.aload_nR dX12_consent_297 rfl ?_
                  refine M.geti (v := nI (T 27).length) dX12_consent_298 fl_X12_408 rfl rfl q_k.1 ?_
                  refine M.iconst (v := (-1)) dX12_consent_301 (by decide) ?_
                  refine M.iast (k9 := 44) (j := (T 27).length) dX12_consent_302 rfl rfl rfl (show (T 27).length < 200 by omega) ?_
                  refine M.aload_nR dX12_consent_303 rfl ?_
                  refine M.dup dX12_consent_304 rfl ?_
                  refine M.geti (v := nI (T 27).length) dX12_consent_305 fl_X12_408 rfl rfl q_k.1 ?_
                  refine M.iconst (v := 1) dX12_consent_308 (by decide) ?_
                  refine M.iadd dX12_consent_309 ?_
                  rw [show (nI (T 27).length) + 1 = nI ((T 27).length + 1) from nI_1 _]
                  refine M.puti dX12_consent_310 fp_X12_408 rfl rfl ?_
                  refine M.aload_nR dX12_consent_313 rfl ?_
                  refine M.geti (v := nI ((T 27).length + 1)) dX12_consent_314 fl_X12_408 rfl rfl rfl ?_
                  refine M.iconst (v := 1) dX12_consent_317 (by decide) ?_
                  refine M.isub dX12_consent_318 ?_
                  rw [show (nI ((T 27).length + 1)) - 1 = nI (T 27).length from nI_pred _]
                  refine M.iret dX12_consent_319 rfl ?_
                  have et : ((((((R c).getD r []) ++ [plc ((R c).getD r [])]) ++ sb_codeIs) ++ (b64 d 22)) ++ (stS ((T 26).getD k []))) = locT T R k (sb_codeIs ++ b64 d 22) := by rw [locT, erd]; simp only [List.append_assoc]
                  rw [opConsent, if_neg hyes, hcl, if_neg hgood, if_pos rfl, opConY, if_neg n200, hk]
                  show mP (nI (T 27).length, 0, ans N 302 0, setB B 1 (locT T R k (sb_codeIs ++ b64 d 22)), _, R) _ _ _
                  rw [← et]
                  refine ⟨rfl, rfl, q_a, mRb.fo rfl rfl, ⟨rfl, rfl, q_n.2.2⟩, q_w, q_c, q_r, ⟨rfl, h9, ?_, mDi_app q_x.2.2.2 hd4⟩, q_q.close hl3 rfl rfl rfl rfl rfl rfl rfl rfl rfl rfl, q_k.add rfl rfl rfl rfl rfl ?_ rfl, q_f, q_t⟩
                  · show nI ((T 21).length + 1) = nI ((T 21) ++ [d]).length; rw [List.length_append, List.length_singleton]
                  · rfl
                · skip
                  refine M.aload_nR dX12_consent_207 rfl ?_
                  refine M.aload_nR dX12_consent_208 rfl ?_
                  refine M.getr dX12_consent_209 fl_X12_86 rfl rfl ?_
                  refine M.aload_nR dX12_consent_212 rfl ?_
                  refine M.getr dX12_consent_213 fl_X12_89 rfl rfl ?_
                  refine M.iload_n dX12_consent_216 rfl ?_
                  refine M.ialdv (k9 := 35) (j := k) (g := F 35) (v := nI ((T 26).take k).flatten.length) dX12_consent_217 rfl rfl rfl rfl (show k < 200 by omega) h35.1 ?_
                  refine M.aload_nR dX12_consent_218 rfl ?_
                  refine M.getr dX12_consent_219 fl_X12_92 rfl rfl ?_
                  refine M.iload_n dX12_consent_222 rfl ?_
                  refine M.ialdv (k9 := 36) (j := k) (g := F 36) (v := nI ((T 26).getD k []).length) dX12_consent_223 rfl rfl rfl rfl (show k < 200 by omega) h35.2 ?_
                  refine M.callV [.ref (A 34), .int (nI ((T 26).take k).flatten.length), .int (nI ((T 26).getD k []).length)] dX12_consent_224 mdX12_state imX12_state seX12_state lk_X12_402 rfl rfl rfl rfl (m_state0 hA (by rw [show ((T 26).getD k []).length = 0 by omega]; decide)) ?_
                  rintro _ I9 F9 ⟨rfl, e9, e8⟩
                  have e9 := e9.symm; subst e9; have e8 := e8.symm; subst e8
                  refine M.iload dX12_consent_227 rfl ?_
                  refine M.if_ne (tgt := 234) dX12_consent_229 (by decide) (fun c_229 => ?_) (fun c_229 => absurd c_229 (by decide))
                  refine M.aload_nR dX12_consent_234 rfl ?_
                  refine M.getr dX12_consent_235 fl_X12_95 rfl rfl ?_
                  refine M.aload_nR dX12_consent_238 rfl ?_
                  refine M.geti (v := nI (T 27).length) dX12_consent_239 fl_X12_408 rfl rfl q_k.1 ?_
                  refine M.iload dX12_consent_242 rfl ?_
                  refine M.iast (k9 := 39) (j := (T 27).length) dX12_consent_244 rfl rfl rfl (show (T 27).length < 200 by omega) ?_
                  refine M.aload_nR dX12_consent_245 rfl ?_
                  refine M.getr dX12_consent_246 fl_X12_98 rfl rfl ?_
                  refine M.aload_nR dX12_consent_249 rfl ?_
                  refine M.geti (v := nI (T 27).length) dX12_consent_250 fl_X12_408 rfl rfl q_k.1 ?_
                  refine M.iload_n dX12_consent_253 rfl ?_
                  refine M.iast (k9 := 40) (j := (T 27).length) dX12_consent_254 rfl rfl rfl (show (T 27).length < 200 by omega) ?_
                  refine M.aload_nR dX12_consent_255 rfl ?_
                  refine M.getr dX12_consent_256 fl_X12_101 rfl rfl ?_
                  refine M.aload_nR dX12_consent_259 rfl ?_
                  refine M.geti (v := nI (T 27).length) dX12_consent_260 fl_X12_408 rfl rfl q_k.1 ?_
                  refine M.iload_n dX12_consent_263 rfl ?_
                  refine M.iast (k9 := 41) (j := (T 27).length) dX12_consent_264 rfl rfl rfl (show (T 27).length < 200 by omega) ?_
                  refine M.aload_nR dX12_consent_265 rfl ?_
                  refine M.getr dX12_consent_266 fl_X12_104 rfl rfl ?_
                  refine M.aload_nR dX12_consent_269 rfl ?_
                  refine M.geti (v := nI (T 27).length) dX12_consent_270 fl_X12_408 rfl rfl q_k.1 ?_
                  refine M.iload_n dX12_consent_273 rfl ?_
                  refine M.iast (k9 := 42) (j := (T 27).length) dX12_consent_274 rfl rfl rfl (show (T 27).length < 200 by omega) ?_
                  refine M.aload_nR dX12_consent_275 rfl ?_
                  refine M.getr dX12_consent_276 fl_X12_107 rfl rfl ?_
                  refine M.aload_nR dX12_consent_279 rfl ?_
                  refine M.geti (v := nI (T 27).length) dX12_consent_280 fl_X12_408 rfl rfl q_k.1 ?_
                  refine M.aload_nR dX12_consent_283 rfl ?_
                  refine M.geti (v := N 25) dX12_consent_284 fl_X12_366 rfl rfl q_n.2.2.1 ?_
                  refine M.aload_nR dX12_consent_287 rfl ?_
                  refine M.geti (v := N 26) dX12_consent_288 fl_X12_60 rfl rfl q_n.2.2.2.1 ?_
                  refine M.iadd dX12_consent_291 ?_
                  refine M.iast (k9 := 43) (j := (T 27).length) dX12_consent_292 rfl rfl rfl (show (T 27).length < 200 by omega) ?_
                  refine M.aload_nR dX12_consent_293 rfl ?_
                  refine M.getr dX12_consent_294 fl_X12_110 rfl rfl ?_
                  refine M.aload_nR dX12_consent_297 rfl ?_
                  refine M.geti (v := nI (T 27).length) dX12_consent_298 fl_X12_408 rfl rfl q_k.1 ?_
                  refine M.iconst (v := (-1)) dX12_consent_301 (by decide) ?_
                  refine M.iast (k9 := 44) (j := (T 27).length) dX12_consent_302 rfl rfl rfl (show (T 27).length < 200 by omega) ?_
                  refine M.aload_nR dX12_consent_303 rfl ?_
                  refine M.dup dX12_consent_304 rfl ?_
                  refine M.geti (v := nI (T 27).length) dX12_consent_305 fl_X12_408 rfl rfl q_k.1 ?_
                  refine M.iconst (v := 1) dX12_consent_308 (by decide) ?_
                  refine M.iadd dX12_consent_309 ?_
                  rw [show (nI (T 27).length) + 1 = nI ((T 27).length + 1) from nI_1 _]
                  refine M.puti dX12_consent_310 fp_X12_408 rfl rfl ?_
                  refine M.aload_nR dX12_consent_313 rfl ?_
                  refine M.geti (v := nI ((T 27).length + 1)) dX12_consent_314 fl_X12_408 rfl rfl rfl ?_
                  refine M.iconst (v := 1) dX12_consent_317 (by decide) ?_
                  refine M.isub dX12_consent_318 ?_
                  rw [show (nI ((T 27).length + 1)) - 1 = nI (T 27).length from nI_pred _]
                  refine M.iret dX12_consent_319 rfl ?_
                  have et : (((((R c).getD r []) ++ [plc ((R c).getD r [])]) ++ sb_codeIs) ++ (b64 d 22)) = locT T R k (sb_codeIs ++ b64 d 22) := by rw [locT, erd]; rw [stS_nil h4v, List.append_nil]; simp only [List.append_assoc]
                  rw [opConsent, if_neg hyes, hcl, if_neg hgood, if_pos rfl, opConY, if_neg n200, hk]
                  show mP (nI (T 27).length, 0, ans N 302 0, setB B 1 (locT T R k (sb_codeIs ++ b64 d 22)), _, R) _ _ _
                  rw [← et]
                  refine ⟨rfl, rfl, q_a, mRb.fo rfl rfl, ⟨rfl, rfl, q_n.2.2⟩, q_w, q_c, q_r, ⟨rfl, h9, ?_, mDi_app q_x.2.2.2 hd4⟩, q_q.close hl3 rfl rfl rfl rfl rfl rfl rfl rfl rfl rfl, q_k.add rfl rfl rfl rfl rfl ?_ rfl, q_f, q_t⟩
                  · show nI ((T 21).length + 1) = nI ((T 21) ++ [d]).length; rw [List.length_append, List.length_singleton]
                  · rfl
            · skip
              have h200 : (T 27).length = 200 := (nI_eq (b := 200) (by omega) (by omega)).mp c_94
              refine M.iconst (v := 1) dX12_consent_97 (by decide) ?_
              refine M.goto (tgt := 102) dX12_consent_98 (by decide) ?_
              refine M.iconst (v := 3) dX12_consent_102 (by decide) ?_
              refine M.callV [.int 1, .int 3] dX12_consent_103 mdX12_throwsIf imX12_throwsIf seX12_throwsIf lk_X12_357 rfl rfl rfl rfl (m_throwsIf hA true 3) ?_
              rintro _ I9 F9 ⟨rfl, e9, e8⟩
              have e9 := e9.symm; subst e9; have e8 := e8.symm; subst e8
              refine M.if_eq (tgt := 111) dX12_consent_106 (by decide) (fun c_106 => absurd c_106 (by decide)) (fun c_106 => ?_)
              refine M.iconst (v := 0) dX12_consent_109 (by decide) ?_
              refine M.iret dX12_consent_110 rfl ?_
              rw [opConsent, if_neg hyes, hcl, if_neg hgood, if_pos rfl, opConY, if_pos h200]
              exact ⟨rfl, rfl, q_a, q_b, q_n, q_w, q_c, q_r, q_x, q_q, q_k, q_f, q_t⟩
          · skip
            have hbad : true = true ∧ (x = 0 ∨ ¬ wthn x (ro (T 23) k 2) = true) := ⟨rfl, by first | exact Or.inl c_48 | exact Or.inr (fun z => c_61 (of_decide_eq_true z))⟩
            refine M.iconst (v := 1) dX12_consent_64 (by decide) ?_
            refine M.goto (tgt := 69) dX12_consent_65 (by decide) ?_
            refine M.iconst (v := 2) dX12_consent_69 (by decide) ?_
            refine M.callV [.int 1, .int 2] dX12_consent_70 mdX12_throwsIf imX12_throwsIf seX12_throwsIf lk_X12_357 rfl rfl rfl rfl (m_throwsIf hA true 2) ?_
            rintro _ I9 F9 ⟨rfl, e9, e8⟩
            have e9 := e9.symm; subst e9; have e8 := e8.symm; subst e8
            refine M.if_eq (tgt := 78) dX12_consent_73 (by decide) (fun c_73 => absurd c_73 (by decide)) (fun c_73 => ?_)
            refine M.iconst (v := 0) dX12_consent_76 (by decide) ?_
            refine M.iret dX12_consent_77 rfl ?_
            rw [opConsent, if_neg hyes, hcl, if_pos hbad]
            exact ⟨rfl, rfl, q_a, q_b, q_n, q_w, q_c, q_r, q_x, q_q, q_k, q_f, q_t⟩
      · skip
        have hno : nI k < 0 ∨ nI (T 23).length ≤ nI k ∨ ro (T 23) (nI k).toNatClampNeg 3 = 0 := Or.inr (Or.inr (by rw [hcl]; exact eob.trans c_24))
        refine M.iconst (v := 1) dX12_consent_27 (by decide) ?_
        refine M.goto (tgt := 32) dX12_consent_28 (by decide) ?_
        refine M.iconst (v := 1) dX12_consent_32 (by decide) ?_
        refine M.callV [.int 1, .int 1] dX12_consent_33 mdX12_throwsIf imX12_throwsIf seX12_throwsIf lk_X12_357 rfl rfl rfl rfl (m_throwsIf hA true 1) ?_
        rintro _ I9 F9 ⟨rfl, e9, e8⟩
        have e9 := e9.symm; subst e9; have e8 := e8.symm; subst e8
        refine M.if_eq (tgt := 41) dX12_consent_36 (by decide) (fun c_36 => absurd c_36 (by decide)) (fun c_36 => ?_)
        refine M.iconst (v := 0) dX12_consent_39 (by decide) ?_
        refine M.iret dX12_consent_40 rfl ?_
        rw [opConsent, if_pos hno]
        exact ⟨rfl, rfl, q_a, q_b, q_n, q_w, q_c, q_r, q_x, q_q, q_k, q_f, q_t⟩

theorem p_consent {Λ : kL} {m : Nat} {A : Nat → Nat} {I : Nat → Int32} {F : Nat → Nat → Int32} (hA : mInj A) {N : Nat → Int32} {B : Nat → List Int32} {T R : Nat → List (List Int32)} (hR : mR I F N B T R) (hW : wf N B T R) (hSt : kSt Λ) (q o x : Int32) (b : Bool) : mCt Λ mX12_consent m A [.ref m, .int q, .int o, .int x, .int (bI b)] I F (mP (opConsent N B T R q o x b)) := by
  cases b with
  | false => exact p_consent_0 hA hR hW hSt q o x
  | true => exact p_consent_1 hA hR hW hSt q o x

theorem p_check {Λ : kL} {m : Nat} {A : Nat → Nat} {I : Nat → Int32} {F : Nat → Nat → Int32} (hA : mInj A) {N : Nat → Int32} {B : Nat → List Int32} {T R : Nat → List (List Int32)} (hR : mR I F N B T R) (hW : wf N B T R) (x : Int32) : mCt Λ mX12_check m A [.ref m, .int x] I F (mP (opChk N B T R x)) := by
  refine mCt.of hA pn_X12 [some (.ref m), some (.int x), none, none, none] rfl (Nat.le_of_ble_eq_true rfl) fun X => ?_
  obtain ⟨q_a, q_b, q_n, q_w, q_c, q_r, q_x, q_q, q_k, q_f, q_t⟩ := hR
  obtain ⟨w_a, w_n, w_w, w_c, w_r, w_x, w_q, w_k, w_f, w_t, w_m⟩ := hW
  have hl := w_a.1
  have hw8 := w_w.1
  have hk200 := w_k.1
  have ht1 := w_t.1
  have ht2 := w_t.2.2.2.2.1
  have hul := w_x.2.2.2.2
  have hd200 : (T 28).length ≤ 200 := by have := w_k.2.2.2.2; omega
  refine M.aload_nR dX12_check_0 rfl ?_
  refine M.callV [] dX12_check_1 mdX12_used imX12_used seX12_used lk_X12_351 rfl rfl rfl rfl (m_used hA) ?_
  rintro _ I9 F9 ⟨rfl, e9, e8⟩
  have e9 := e9.symm; subst e9; have e8 := e8.symm; subst e8
  rw [q_a.1]
  refine M.istore_n (L' := [some (.ref m), some (.int x), some (.int (nI (B 0).length)), none, none]) dX12_check_4 (by decide) rfl rfl ?_
  refine M.aload_nR dX12_check_5 rfl ?_
  refine M.iload_n dX12_check_6 rfl ?_
  refine M.if_lt (tgt := 18) dX12_check_7 (by decide) (fun c_7 => ?_) (fun c_7 => ?_)
  · skip
    refine M.iconst (v := 1) dX12_check_18 (by decide) ?_
    refine M.goto (tgt := 23) dX12_check_19 (by decide) ?_
    refine M.iconst (v := 1) dX12_check_23 (by decide) ?_
    refine M.callV [.int 1, .int 1] dX12_check_24 mdX12_throwsIf imX12_throwsIf seX12_throwsIf lk_X12_357 rfl rfl rfl rfl (m_throwsIf hA true 1) ?_
    rintro _ I9 F9 ⟨rfl, e9, e8⟩
    have e9 := e9.symm; subst e9; have e8 := e8.symm; subst e8
    refine M.if_eq (tgt := 32) dX12_check_27 (by decide) (fun c_27 => absurd c_27 (by decide)) (fun c_27 => ?_)
    refine M.iconst (v := 0) dX12_check_30 (by decide) ?_
    refine M.iret dX12_check_31 rfl ?_
    rw [opChk, if_pos (by first | exact Or.inl c_7 | exact Or.inr hge)]
    exact ⟨rfl, rfl, ⟨rfl, rfl, q_a.2.2⟩, q_b, q_n, q_w, q_c, q_r, q_x, q_q, q_k, q_f, q_t⟩
  · skip
    obtain ⟨k, hk31, ek⟩ := nI_of c_7; subst ek
    have hcl : (nI k).toNatClampNeg = k := nI_clamp hk31
    refine M.iload_n dX12_check_10 rfl ?_
    refine M.aload_nR dX12_check_11 rfl ?_
    refine M.geti (v := nI (T 2).length) dX12_check_12 fl_X12_268 rfl rfl q_w.1 ?_
    refine M.icmp_lt (tgt := 22) dX12_check_15 (by decide) (fun c_15 => ?_) (fun c_15 => ?_)
    · skip
      have lt_k : k < (T 2).length := (nI_ltI hk31 (by omega)).mp c_15
      have hok : ¬ (nI k < 0 ∨ nI (T 2).length ≤ nI k) := fun z => z.elim c_7 (fun z => absurd c_15 (Int32.not_lt.mpr z))
      refine M.iconst (v := 0) dX12_check_22 (by decide) ?_
      refine M.iconst (v := 1) dX12_check_23 (by decide) ?_
      refine M.callV [.int 0, .int 1] dX12_check_24 mdX12_throwsIf imX12_throwsIf seX12_throwsIf lk_X12_357 rfl rfl rfl rfl (m_throwsIf hA false 1) ?_
      rintro _ I9 F9 ⟨rfl, e9, e8⟩
      have e9 := e9.symm; subst e9; have e8 := e8.symm; subst e8
      refine M.if_eq (tgt := 32) dX12_check_27 (by decide) (fun c_27 => ?_) (fun c_27 => absurd rfl c_27)
      refine M.iconst (v := 0) dX12_check_32 (by decide) ?_
      refine M.istore_n (L' := [some (.ref m), some (.int (nI k)), some (.int (nI (B 0).length)), some (.int 0), none]) dX12_check_33 (by decide) rfl rfl ?_
      have cut_34 : ∀ (k_34 : Nat) (z : Nat) (a9 : Nat → Int32) (b9 : Nat → Int32), (z ≤ (T 29).length) → ((T 29).length + 1 ≤ z + k_34) → (hfn (T 21) (T 29) (B 0) = fsti (fun k => decide (B 0 = b64 ((T 21).getD (((T 29).getD k []).getD 0 0).toNatClampNeg []) 22)) ((T 29).length - z) z) → M Λ X mX12_check m A (mP (opChk N B T R (nI k))) (upd (upd I 0 0) 2 0) (hs F a9 b9) 34 [some (.ref m), some (.int (nI k)), some (.int (nI (B 0).length)), some (.int (nI z)), none] [] := by
        intro k_34
        induction k_34 with
        | zero => intro z a9 b9 h1 h2 hz; exact absurd h2 (by omega)
        | succ k_34 ih_34 =>
          intro z a9 b9 h1 h2 hz
          refine M.iload_n dX12_check_34 rfl ?_
          refine M.aload_nR dX12_check_35 rfl ?_
          refine M.geti (v := nI (T 29).length) dX12_check_36 fl_X12_462 rfl rfl q_t.1 ?_
          refine M.icmp_ge (tgt := 67) dX12_check_39 (by decide) (fun c_39 => ?_) (fun c_39 => ?_)
          · skip
            have e1 := nI_gen c_39 h1 (by omega); subst e1
            have hnf : ¬ hfn (T 21) (T 29) (B 0) < (T 29).length := by rw [hz, Nat.sub_self]; exact Nat.lt_irrefl _
            refine M.iload_n dX12_check_67 rfl ?_
            refine M.aload_nR dX12_check_68 rfl ?_
            refine M.geti (v := nI (T 29).length) dX12_check_69 fl_X12_462 rfl rfl q_t.1 ?_
            refine M.icmp_eq (tgt := 83) dX12_check_72 (by decide) (fun c_72 => ?_) (fun c_72 => absurd rfl c_72)
            refine M.aload_nR dX12_check_83 rfl ?_
            refine M.sipush (v := 401) dX12_check_84 (by decide) ?_
            refine M.bipush (v := 9) dX12_check_87 (by decide) ?_
            refine M.callV [.int 401, .int 9] dX12_check_89 mdX12_ends imX12_ends seX12_ends lk_X12_328 rfl rfl rfl rfl (m_ends hA 401 9) ?_
            rintro _ I9 F9 ⟨rfl, e9, e8⟩
            have e9 := e9.symm; subst e9; have e8 := e8.symm; subst e8
            refine M.iconst (v := 0) dX12_check_92 (by decide) ?_
            refine M.iret dX12_check_93 rfl ?_
            rw [opChk, if_neg hok, opChk2, if_neg (fun z9 => hnf z9.1)]
            exact ⟨rfl, rfl, ⟨rfl, rfl, q_a.2.2⟩, ⟨rfl, rfl⟩, ⟨rfl, rfl, q_n.2.2⟩, q_w, q_c, q_r, q_x, q_q, q_k, q_f, q_t⟩
          · skip
            have lt_z : z < (T 29).length := nI_ltn c_39 (by omega) (by omega)
            obtain ⟨z8, hz8, ez8⟩ := w_t.2.1 z lt_z
            refine M.aload_nR dX12_check_42 rfl ?_
            refine M.aload_nR dX12_check_43 rfl ?_
            refine M.getr dX12_check_44 fl_X12_128 rfl rfl ?_
            refine M.iload_n dX12_check_47 rfl ?_
            refine M.ialdv (k9 := 52) (j := z) (g := F 52) (v := nI z8) dX12_check_48 rfl rfl rfl rfl (show z < 300 by omega) ((q_t.2.1 z lt_z).trans ez8) ?_
            refine M.aload_nR dX12_check_49 rfl ?_
            refine M.getr dX12_check_50 fl_X12_9 rfl rfl ?_
            refine M.iconst (v := 0) dX12_check_53 (by decide) ?_
            refine M.iload_n dX12_check_54 rfl ?_
            refine M.callV [.int (nI z8), .ref (A 1), .int 0, .int (nI (B 0).length)] dX12_check_55 mdX12_isHandle imX12_isHandle seX12_isHandle lk_X12_441 rfl rfl rfl rfl (m_isHandle hA (F := hs F a9 b9) (a := z8) (by omega) (d := (T 21).getD z8 []) (q_x.2.2.2 z8 hz8) (k1 := 1) rfl rfl (by decide) (by decide) (i := 0) (show 0 + (B 0).length ≤ 2000 by omega) q_a.2.1) ?_
            rintro _ I9 _ ⟨a7, b7, rfl, e9, rfl⟩; have e9 := e9.symm; subst e9
            rw [hs_hs]
            refine M.if_ne (tgt := 67) dX12_check_58 (by decide) (fun c_58 => ?_) (fun c_58 => ?_)
            · skip
              have hz9 : decide (B 0 = b64 ((T 21).getD (((T 29).getD z []).getD 0 0).toNatClampNeg []) 22) = decide (B 0 = b64 ((T 21).getD z8 []) 22) := by rw [ez8, nI_clamp (by omega)]
              have hz7 : hfn (T 21) (T 29) (B 0) = z := hz.trans (fsti_hit (by omega) (hz9.trans (bt1 c_58)))
              obtain ⟨f, hf, e2⟩ := w_t.2.2.1 z lt_z
              obtain ⟨b1, e1⟩ := w_t.2.2.2.1 z lt_z
              obtain ⟨b2, e3⟩ := w_f.2 f hf
              have hgd : isgd N T z = (decide (N 25 < ro (T 29) z 3) && !b1 && !b2) := by rw [isgd, rn_at e2 (by omega), show ro (T 29) z 4 = bI b1 from e1, show ro (T 28) f 4 = bI b2 from e3, bI_is1, bI_is1]
              refine M.iload_n dX12_check_67 rfl ?_
              refine M.aload_nR dX12_check_68 rfl ?_
              refine M.geti (v := nI (T 29).length) dX12_check_69 fl_X12_462 rfl rfl q_t.1 ?_
              refine M.icmp_eq (tgt := 83) dX12_check_72 (by decide) (fun c_72 => absurd c_72 (fun z9 => absurd ((nI_eq (by omega) (by omega)).mp z9) (by omega))) (fun c_72 => ?_)
              refine M.aload_nR dX12_check_75 rfl ?_
              refine M.iload_n dX12_check_76 rfl ?_
              have hig := m_isGood (Λ := Λ) (m := m) (I := (upd (upd I 0 0) 2 0)) hA (F := (hs F a7 b7)) (C := T 29) (D := T 28) (by omega) (by omega) q_t.2.2.2.2.1 q_t.2.2.2.2.2.1 q_t.2.2.1 q_f.2.2.2.2.2.1 lt_z hf e1 e2 e3
              rw [show (upd (upd I 0 0) 2 0) 25 = N 25 from q_n.2.2.1] at hig
              refine M.callV [.int (nI z)] dX12_check_77 mdX12_isGood imX12_isGood seX12_isGood lk_X12_479 rfl rfl rfl rfl hig ?_
              rintro _ I9 F9 ⟨rfl, e9, e8⟩
              have e9 := e9.symm; subst e9; have e8 := e8.symm; subst e8
              refine M.if_ne (tgt := 94) dX12_check_80 (by decide) (fun c_80 => ?_) (fun c_80 => ?_)
              · skip
                refine M.aload_nR dX12_check_94 rfl ?_
                refine M.getr dX12_check_95 fl_X12_134 rfl rfl ?_
                refine M.iload_n dX12_check_98 rfl ?_
                refine M.ialdv (k9 := 54) (j := z) (g := F 54) (v := ro (T 29) z 2) dX12_check_99 rfl rfl rfl rfl (show z < 300 by omega) (q_t.2.2.2.1 z lt_z) ?_
                refine M.iload_n dX12_check_100 rfl ?_
                refine M.ishr dX12_check_101 ?_
                refine M.iconst (v := 1) dX12_check_102 (by decide) ?_
                refine M.iand dX12_check_103 ?_
                rw [show ((ro (T 29) z 2) >>> ((nI k : Int32) &&& 31)) &&& 1 = bI (sbt (ro (T 29) z 2) k) from sbt_0 (by omega)]
                refine M.iconst (v := 1) dX12_check_104 (by decide) ?_
                refine M.icmp_ne (tgt := 112) dX12_check_105 (by decide) (fun c_105 => ?_) (fun c_105 => ?_)
                · skip
                  refine M.iconst (v := 0) dX12_check_112 (by decide) ?_
                  refine M.istore (L' := [some (.ref m), some (.int (nI k)), some (.int (nI (B 0).length)), some (.int (nI z)), some (.int 0)]) dX12_check_113 (by decide) rfl rfl ?_
                  refine M.aload_nR dX12_check_115 rfl ?_
                  refine M.iload dX12_check_116 rfl ?_
                  refine M.if_eq (tgt := 127) dX12_check_118 (by decide) (fun c_118 => ?_) (fun c_118 => absurd rfl c_118)
                  refine M.sipush (v := 403) dX12_check_127 (by decide) ?_
                  refine M.iload dX12_check_130 rfl ?_
                  refine M.if_eq (tgt := 139) dX12_check_132 (by decide) (fun c_132 => ?_) (fun c_132 => absurd rfl c_132)
                  refine M.bipush (v := 10) dX12_check_139 (by decide) ?_
                  refine M.callV [.int 403, .int 10] dX12_check_141 mdX12_ends imX12_ends seX12_ends lk_X12_328 rfl rfl rfl rfl (m_ends hA 403 10) ?_
                  rintro _ I9 F9 ⟨rfl, e9, e8⟩
                  have e9 := e9.symm; subst e9; have e8 := e8.symm; subst e8
                  refine M.iload dX12_check_144 rfl ?_
                  refine M.if_eq (tgt := 163) dX12_check_146 (by decide) (fun c_146 => ?_) (fun c_146 => absurd rfl c_146)
                  refine M.iconst (v := 0) dX12_check_163 (by decide) ?_
                  refine M.iret dX12_check_164 rfl ?_
                  have hg9 : isgd N T z = true := by rw [hgd]; exact bt1 c_80
                  rw [opChk, if_neg hok, opChk2, hz7, if_pos ⟨lt_z, hg9⟩, hcl, if_neg (by rw [nI_01 c_105]; decide)]
                  exact ⟨rfl, rfl, ⟨rfl, rfl, q_a.2.2⟩, ⟨rfl, rfl⟩, ⟨rfl, rfl, q_n.2.2⟩, q_w, q_c, q_r, q_x, q_q, q_k, q_f, q_t⟩
                · skip
                  refine M.iconst (v := 1) dX12_check_108 (by decide) ?_
                  refine M.goto (tgt := 113) dX12_check_109 (by decide) ?_
                  refine M.istore (L' := [some (.ref m), some (.int (nI k)), some (.int (nI (B 0).length)), some (.int (nI z)), some (.int 1)]) dX12_check_113 (by decide) rfl rfl ?_
                  refine M.aload_nR dX12_check_115 rfl ?_
                  refine M.iload dX12_check_116 rfl ?_
                  refine M.if_eq (tgt := 127) dX12_check_118 (by decide) (fun c_118 => absurd c_118 (by decide)) (fun c_118 => ?_)
                  refine M.sipush (v := 200) dX12_check_121 (by decide) ?_
                  refine M.goto (tgt := 130) dX12_check_124 (by decide) ?_
                  refine M.iload dX12_check_130 rfl ?_
                  refine M.if_eq (tgt := 139) dX12_check_132 (by decide) (fun c_132 => absurd c_132 (by decide)) (fun c_132 => ?_)
                  refine M.iconst (v := 0) dX12_check_135 (by decide) ?_
                  refine M.goto (tgt := 141) dX12_check_136 (by decide) ?_
                  refine M.callV [.int 200, .int 0] dX12_check_141 mdX12_ends imX12_ends seX12_ends lk_X12_328 rfl rfl rfl rfl (m_ends hA 200 0) ?_
                  rintro _ I9 F9 ⟨rfl, e9, e8⟩
                  have e9 := e9.symm; subst e9; have e8 := e8.symm; subst e8
                  refine M.iload dX12_check_144 rfl ?_
                  refine M.if_eq (tgt := 163) dX12_check_146 (by decide) (fun c_146 => absurd c_146 (by decide)) (fun c_146 => ?_)
                  refine M.aload_nR dX12_check_149 rfl ?_
                  refine M.getr dX12_check_150 fl_X12_116 rfl rfl ?_
                  refine M.aload_nR dX12_check_153 rfl ?_
                  refine M.getr dX12_check_154 fl_X12_131 rfl rfl ?_
                  refine M.iload_n dX12_check_157 rfl ?_
                  refine M.ialdv (k9 := 53) (j := z) (g := F 53) (v := nI f) dX12_check_158 rfl rfl rfl rfl (show z < 300 by omega) ((q_t.2.2.1 z lt_z).trans e2) ?_
                  refine M.ialdv (k9 := 47) (j := f) (g := F 47) (v := ro (T 28) f 1) dX12_check_159 rfl rfl rfl rfl (show f < 200 by omega) (q_f.2.2.1 f hf) ?_
                  refine M.goto (tgt := 164) dX12_check_160 (by decide) ?_
                  refine M.iret dX12_check_164 rfl ?_
                  have hg9 : isgd N T z = true := by rw [hgd]; exact bt1 c_80
                  rw [opChk, if_neg hok, opChk2, hz7, if_pos ⟨lt_z, hg9⟩, hcl, if_pos (nI_11 c_105), rn_at e2 (by omega)]
                  exact ⟨rfl, rfl, ⟨rfl, rfl, q_a.2.2⟩, ⟨rfl, rfl⟩, ⟨rfl, rfl, q_n.2.2⟩, q_w, q_c, q_r, q_x, q_q, q_k, q_f, q_t⟩
              · skip
                refine M.aload_nR dX12_check_83 rfl ?_
                refine M.sipush (v := 401) dX12_check_84 (by decide) ?_
                refine M.bipush (v := 9) dX12_check_87 (by decide) ?_
                refine M.callV [.int 401, .int 9] dX12_check_89 mdX12_ends imX12_ends seX12_ends lk_X12_328 rfl rfl rfl rfl (m_ends hA 401 9) ?_
                rintro _ I9 F9 ⟨rfl, e9, e8⟩
                have e9 := e9.symm; subst e9; have e8 := e8.symm; subst e8
                refine M.iconst (v := 0) dX12_check_92 (by decide) ?_
                refine M.iret dX12_check_93 rfl ?_
                rw [opChk, if_neg hok, opChk2, hz7, if_neg (fun z9 => by have h8 := z9.2; rw [hgd] at h8; have h7 := (bI_eq0 _).mp c_80; rw [show ro (T 29) z 3 = ((T 29).getD z []).getD 3 0 from rfl, h7] at h8; cases h8)]
                exact ⟨rfl, rfl, ⟨rfl, rfl, q_a.2.2⟩, ⟨rfl, rfl⟩, ⟨rfl, rfl, q_n.2.2⟩, q_w, q_c, q_r, q_x, q_q, q_k, q_f, q_t⟩
            · skip
              have hz9 : decide (B 0 = b64 ((T 21).getD (((T 29).getD z []).getD 0 0).toNatClampNeg []) 22) = decide (B 0 = b64 ((T 21).getD z8 []) 22) := by rw [ez8, nI_clamp (by omega)]
              refine M.iinc (v := nI (z + 1)) (L' := [some (.ref m), some (.int (nI k)), some (.int (nI (B 0).length)), some (.int (nI (z + 1))), none]) dX12_check_61 rfl (nI_1 z) (by decide) rfl rfl ?_
              refine M.goto (tgt := 34) dX12_check_64 (by decide) ?_
              exact ih_34 (z + 1) _ _ (by omega) (by omega) (hz.trans (fsti_st lt_z (hz9.trans ((bI_eq0 _).mp c_58))))
      have t9 := cut_34 ((T 29).length + 1) 0 (F 68) (F 69) (by omega) (by omega) rfl
      rw [hs_id] at t9
      exact t9
    · skip
      have hge : nI (T 2).length ≤ nI k := Int32.not_lt.mp c_15
      refine M.iconst (v := 1) dX12_check_18 (by decide) ?_
      refine M.goto (tgt := 23) dX12_check_19 (by decide) ?_
      refine M.iconst (v := 1) dX12_check_23 (by decide) ?_
      refine M.callV [.int 1, .int 1] dX12_check_24 mdX12_throwsIf imX12_throwsIf seX12_throwsIf lk_X12_357 rfl rfl rfl rfl (m_throwsIf hA true 1) ?_
      rintro _ I9 F9 ⟨rfl, e9, e8⟩
      have e9 := e9.symm; subst e9; have e8 := e8.symm; subst e8
      refine M.if_eq (tgt := 32) dX12_check_27 (by decide) (fun c_27 => absurd c_27 (by decide)) (fun c_27 => ?_)
      refine M.iconst (v := 0) dX12_check_30 (by decide) ?_
      refine M.iret dX12_check_31 rfl ?_
      rw [opChk, if_pos (by first | exact Or.inl c_7 | exact Or.inr hge)]
      exact ⟨rfl, rfl, ⟨rfl, rfl, q_a.2.2⟩, q_b, q_n, q_w, q_c, q_r, q_x, q_q, q_k, q_f, q_t⟩
