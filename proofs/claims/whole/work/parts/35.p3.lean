/-! the reference: authorize, consent -/
def f4 (F : Nat → Nat → Int32) (a b c d : Nat → Int32) : Nat → Nat → Int32 := setF (setF (setF (setF F 63 a) 64 b) 65 c) 66 d
theorem m_isFormS {Λ : kL} {m : Nat} {A : Nat → Nat} {I : Nat → Int32} {F : Nat → Nat → Int32} (hA : mInj A) (hSt : kSt Λ) {v : List Int32} (hn : v.length ≤ 2000) (hv : tl (F 1) 0 v.length = v) (hf : ∀ j, b8 (F 1 j) = F 1 j) : mCt Λ mX12_isForm m A [.ref m, .int (nI v.length)] I F (fun r I' F' => ∃ x9 a b c d, I' = upd I 67 x9 ∧ F' = f4 F a b c d ∧ ((fmS v = none ∧ r = some (.int 0)) ∨ ∃ g : fvs, fmS v = some g ∧ r = some (.int 1) ∧ vrl (f4 F a b c d) 2000 g)) := by
  refine (m_isForm hA hSt hn hf).mono fun r I' F' ⟨⟨x9, h1⟩, h2, h3⟩ => ?_
  rw [fmS_tl hv] at h3
  have e : F' = f4 F (F' 63) (F' 64) (F' 65) (F' 66) := by
    funext k
    rw [f4]
    by_cases h66 : k = 66
    · rw [h66, setF_s]
    · rw [setF_n _ _ h66]
      by_cases h65 : k = 65
      · rw [h65, setF_s]
      · rw [setF_n _ _ h65]
        by_cases h64 : k = 64
        · rw [h64, setF_s]
        · rw [setF_n _ _ h64]
          by_cases h63 : k = 63
          · rw [h63, setF_s]
          · rw [setF_n _ _ h63, h2 k h63 h64 h65 h66]
  refine ⟨x9, _, _, _, _, h1, e, ?_⟩
  rw [← e]
  exact h3
theorem clS_at {T : List (List Int32)} {v : List Int32} (h : ¬ clS T v < 0) : clS T v = nI (fnd T v) := if_pos (clS_pos h)
theorem rdS_pos {R : List (List Int32)} {v : List Int32} (h : ¬ rdS R v < 0) : ∃ r, r < R.length ∧ rdS R v = nI r := by
  rw [rdS] at h ⊢
  by_cases h0 : 0 < v.length
  · rw [if_pos h0] at h ⊢
    rw [fxd] at h ⊢
    by_cases h1 : fsti (fun k => decide (v = R.getD k [])) (R.length - 0) 0 < R.length
    · exact ⟨_, h1, if_pos h1⟩
    · rw [if_neg h1] at h
      exact absurd (by decide) h
  · rw [if_neg h0] at h ⊢
    by_cases h1 : R.length = 1
    · rw [if_pos h1]
      exact ⟨0, by omega, rfl⟩
    · rw [if_neg h1] at h
      exact absurd (by decide) h
theorem vrl.n1 {F : Nat → Nat → Int32} {g : fvs} (h : vrl F 2000 g) {k : Nat} (hk : k < 13) (h0 : ¬ 0 < (fv g k).length) : ¬ 1 ≤ F 65 k := by
  have h1 := h.has (by omega) hk
  rw [decide_eq_false h0] at h1
  have h2 := of_decide_eq_false h1
  intro q
  rw [i32_le] at q
  rw [i32_lt] at h2
  have e0 : (0 : Int32).toInt = 0 := rfl
  have e1 : (1 : Int32).toInt = 1 := rfl
  omega
theorem stS_nil {v : List Int32} (h : ¬ 0 < v.length) : stS v = [] := if_pos (by omega)
theorem autE_1 {T : Nat → List (List Int32)} {g : fvs} {c : Nat} (h : ¬ 0 < (fv g 0).length) : autE T g c = 1 := if_pos h
section AE
variable {T : Nat → List (List Int32)} {g : fvs} {c : Nat}
theorem autE_4 (h : 0 < (fv g 0).length) (h1 : ¬ fv g 0 = sb_code) : autE T g c = 4 := by rw [autE, if_neg (fun q => q h), if_pos h1]
theorem autE_1b (h : 0 < (fv g 0).length) (h1 : fv g 0 = sb_code) (h2 : (decide ((fv g 5).length = 43) && (fv g 5).all chb && decide (fv g 6 = sb_S256)) = false) : autE T g c = 1 := by rw [autE, if_neg (fun q => q h), if_neg (fun q => q h1), if_pos h2]
theorem autE_5 (h : 0 < (fv g 0).length) (h1 : fv g 0 = sb_code) (h2 : (decide ((fv g 5).length = 43) && (fv g 5).all chb && decide (fv g 6 = sb_S256)) = true) (h3 : askS (T 2) (fv g 3) (ro (T 5) c 1) < 0) : autE T g c = 5 := by rw [autE, if_neg (fun q => q h), if_neg (fun q => q h1), if_neg (by rw [h2]; decide), if_pos h3]
theorem autE_11 (h : 0 < (fv g 0).length) (h1 : fv g 0 = sb_code) (h2 : (decide ((fv g 5).length = 43) && (fv g 5).all chb && decide (fv g 6 = sb_S256)) = true) (h3 : ¬ askS (T 2) (fv g 3) (ro (T 5) c 1) < 0) (h4 : (T 23).length = 200) : autE T g c = 11 := by rw [autE, if_neg (fun q => q h), if_neg (fun q => q h1), if_neg (by rw [h2]; decide), if_neg h3, if_pos h4]
theorem autE_0 (h : 0 < (fv g 0).length) (h1 : fv g 0 = sb_code) (h2 : (decide ((fv g 5).length = 43) && (fv g 5).all chb && decide (fv g 6 = sb_S256)) = true) (h3 : ¬ askS (T 2) (fv g 3) (ro (T 5) c 1) < 0) (h4 : ¬ (T 23).length = 200) : autE T g c = 0 := by rw [autE, if_neg (fun q => q h), if_neg (fun q => q h1), if_neg (by rw [h2]; decide), if_neg h3, if_neg h4]
end AE
theorem tl_flat {f : Nat → Int32} {S : List (List Int32)} (h : tl f 0 S.flatten.length = S.flatten) {n : Nat} (hn : n < S.length) : tl f (S.take n).flatten.length (S.getD n []).length = S.getD n [] ∧ (S.take n).flatten.length + (S.getD n []).length ≤ S.flatten.length := by
  have e : S.flatten = (S.take n).flatten ++ (S.getD n [] ++ (S.drop (n + 1)).flatten) := by
    conv => lhs; rw [← List.take_append_drop n S, drop_at hn]
    rw [List.flatten_append, List.flatten_cons]
  have el : S.flatten.length = (S.take n).flatten.length + ((S.getD n []).length + (S.drop (n + 1)).flatten.length) := by
    rw [e, List.length_append, List.length_append]
  refine ⟨tl_bs.mpr fun i hi => ?_, by omega⟩
  rw [tl_at0 h (by omega), List.getD_eq_getElem?_getD]
  rw [e]
  rw [List.getElem?_append_right (by omega), Nat.add_sub_cancel_left, List.getElem?_append_left hi, ← List.getD_eq_getElem?_getD]
theorem mRq.add {I I' : Nat → Int32} {F F' : Nat → Nat → Int32} {Q H S : List (List Int32)} (h : mRq I F Q H S) (hH : H.length = Q.length) (hS : S.length = Q.length) {c r x : Int32} {ch st : List Int32} (hch : ch.length = 43)
    (i37 : I' 37 = nI (Q.length + 1)) (i38 : I' 38 = nI (S.flatten.length + st.length)) (e29 : F' 29 = upd (F 29) Q.length c) (e30 : F' 30 = upd (F 30) Q.length r) (e31 : F' 31 = upd (F 31) Q.length x) (e32 : F' 32 = upd (F 32) Q.length 1) (e33 : F' 33 = updl (F 33) (43 * Q.length) ch) (e34 : F' 34 = updl (F 34) S.flatten.length st) (e35 : F' 35 = upd (F 35) Q.length (nI S.flatten.length)) (e36 : F' 36 = upd (F 36) Q.length (nI st.length)) : mRq I' F' (Q ++ [[c, r, x, 1]]) (H ++ [ch]) (S ++ [st]) := by
  obtain ⟨h1, h2, h3, h4, h5, h6, h7, h8, h9⟩ := h
  have ef : (S ++ [st]).flatten = S.flatten ++ st := by rw [List.flatten_append, List.flatten_singleton]
  refine ⟨by rw [i37, List.length_append, List.length_singleton], h2.app e29 rfl, h3.app e30 rfl, h4.app e31 rfl, h5.app e32 rfl, fun n hn => ?_, ?_, ?_, fun n hn => ?_⟩
  · rw [List.length_append, List.length_singleton] at hn
    rw [e33]
    by_cases q : n = H.length
    · have h0 := tl_in (f := F 33) (i := 43 * Q.length) (l := ch)
      rw [hch] at h0
      rw [q, getD_appr, hH]
      exact h0
    · rw [getD_appl (by omega), ← h6 n (by omega)]
      exact tl_eq.mpr fun y hy => updl_out (Or.inl (by omega))
  · rw [i38, ef, List.length_append]
  · rw [ef, e34]
    exact tl_upd h8
  · rw [List.length_append, List.length_singleton] at hn
    rw [e35, e36]
    by_cases q : n = S.length
    · rw [q, getD_appr, ← hS, pk_us, pk_us, List.take_left]
      exact ⟨rfl, rfl⟩
    · rw [getD_appl (by omega), pk_un (by omega), pk_un (by omega), List.take_append_of_le_length (by omega)]
      exact h9 n (by omega)
theorem mRq.close {I I' : Nat → Int32} {F F' : Nat → Nat → Int32} {Q H S : List (List Int32)} (h : mRq I F Q H S) {k : Nat} (hl : 3 < (Q.getD k []).length) (i37 : I' 37 = I 37) (i38 : I' 38 = I 38) (e29 : F' 29 = F 29) (e30 : F' 30 = F 30) (e31 : F' 31 = F 31) (e32 : F' 32 = upd (F 32) k 0) (e33 : F' 33 = F 33) (e34 : F' 34 = F 34) (e35 : F' 35 = F 35) (e36 : F' 36 = F 36) : mRq I' F' (stc Q k 3 0) H S := by
  obtain ⟨h1, h2, h3, h4, h5, h6, h7, h8, h9⟩ := h
  refine ⟨by rw [i37, stc_len]; exact h1, h2.keep (by decide) e29, h3.keep (by decide) e30, h4.keep (by decide) e31, h5.set hl e32, by rw [e33]; exact h6, by rw [i38]; exact h7, by rw [e34]; exact h8, by rw [e35, e36]; exact h9⟩
theorem mRb.fo {I' : Nat → Int32} {F F' : Nat → Nat → Int32} {l : List Int32} (hI : I' 4 = nI (0 + l.length)) (hF : F' 3 = updl (F 3) 0 l) : mRb I' F' l := ⟨by rw [hI, Nat.zero_add], by rw [hF]; exact tl_in⟩
theorem row_len {C : List (List Int32)} {k c : Nat} (h : ¬ ro C k c = 0) : c < (C.getD k []).length := Nat.lt_of_not_le fun q => h (by rw [ro, List.getD_eq_getElem?_getD, List.getElem?_eq_none q]; rfl)
theorem tk1_mem {U W W1 : List (List Int32)} {d : List Int32} (h : tk1 U W = some (d, W1)) : d ∈ W ∧ (∀ e, e ∈ W1 → e ∈ W) ∧ W1.length ≤ W.length ∧ ¬ d ∈ U := by
  induction W with
  | nil => cases h
  | cons a W ih =>
    rw [tk1] at h
    by_cases ha : a ∈ U
    · rw [if_pos ha] at h
      obtain ⟨h1, h2, h3, h4⟩ := ih h
      exact ⟨List.mem_cons_of_mem _ h1, fun e he => List.mem_cons_of_mem _ (h2 e he), by rw [List.length_cons]; omega, h4⟩
    · rw [if_neg ha] at h
      cases h
      exact ⟨List.mem_cons_self .., fun e he => List.mem_cons_of_mem _ he, by rw [List.length_cons]; omega, ha⟩
theorem mRk.add {I I' : Nat → Int32} {F F' : Nat → Nat → Int32} {K : List (List Int32)} (h : mRk I F K) {a b c d e f : Int32} (i45 : I' 45 = nI (K.length + 1)) (e39 : F' 39 = upd (F 39) K.length a) (e40 : F' 40 = upd (F 40) K.length b) (e41 : F' 41 = upd (F 41) K.length c) (e42 : F' 42 = upd (F 42) K.length d) (e43 : F' 43 = upd (F 43) K.length e) (e44 : F' 44 = upd (F 44) K.length f) : mRk I' F' (K ++ [[a, b, c, d, e, f]]) := by
  obtain ⟨h1, h2, h3, h4, h5, h6, h7⟩ := h
  exact ⟨by rw [i45, List.length_append, List.length_singleton], h2.app e39 rfl, h3.app e40 rfl, h4.app e41 rfl, h5.app e42 rfl, h6.app e43 rfl, h7.app e44 rfl⟩
theorem flat_le {S : List (List Int32)} {n : Nat} (hS : S.length = n) (hn : n ≤ 200) (h : ∀ k, k < S.length → (S.getD k []).length ≤ 2000) : S.flatten.length + 2000 * (200 - n) ≤ 400000 := by
  have : ∀ (S : List (List Int32)), (∀ k, k < S.length → (S.getD k []).length ≤ 2000) → S.flatten.length ≤ 2000 * S.length := by
    intro S
    induction S with
    | nil => intro _; exact Nat.le_refl 0
    | cons a S ih =>
      intro h
      have h0 := h 0 (by rw [List.length_cons]; omega)
      have h1 := ih fun k hk => h (k + 1) (by rw [List.length_cons]; omega)
      rw [List.flatten_cons, List.length_append, List.length_cons]
      have h2 : (a :: S).getD 0 [] = a := rfl
      rw [h2] at h0
      omega
  have := this S h
  omega

theorem p_authorize {Λ : kL} {m : Nat} {A : Nat → Nat} {I : Nat → Int32} {F : Nat → Nat → Int32} (hA : mInj A) {N : Nat → Int32} {B : Nat → List Int32} {T R : Nat → List (List Int32)} (hR : mR I F N B T R) (hW : wf N B T R) (hSt : kSt Λ) : mCt Λ mX12_authorize m A [.ref m] I F (mP (opAuth N B T R)) := by
  refine mCt.of hA pn_X12 [some (.ref m), none, none, none, none, none] rfl (Nat.le_of_ble_eq_true rfl) fun X => ?_
  obtain ⟨q_a, q_b, q_n, q_w, q_c, q_r, q_x, q_q, q_k, q_f, q_t⟩ := hR
  obtain ⟨w_a, w_n, w_w, w_c, w_r, w_x, w_q, w_k, w_f, w_t, w_m⟩ := hW
  have hl := w_a.1
  have hc8 := w_c.1
  have hq200 := w_q.1
  have hse := flat_le w_q.2.2.1 w_q.1 (fun k hk => (w_q.2.2.2.2.2.1 k hk).2.1)
  have l_errorIs : sb_errorIs.length ≤ 50 := by decide
  have l_1 : sb_invalid_request.length ≤ 50 := by decide
  have l_4 : sb_unsupported_response_type.length ≤ 50 := by decide
  have l_5 : sb_invalid_scope.length ≤ 50 := by decide
  have l_11 : sb_temporarily_unavailable.length ≤ 50 := by decide
  refine M.aload_nR dX12_authorize_0 rfl ?_
  refine M.aload_nR dX12_authorize_1 rfl ?_
  refine M.callV [] dX12_authorize_2 mdX12_used imX12_used seX12_used lk_X12_351 rfl rfl rfl rfl (m_used hA) ?_
  rintro _ I9 F9 ⟨rfl, e9, e8⟩
  have e9 := e9.symm; subst e9; have e8 := e8.symm; subst e8
  rw [q_a.1]
  refine M.callV [.int (nI (B 0).length)] dX12_authorize_5 mdX12_isForm imX12_isForm seX12_isForm lk_X12_372 rfl rfl rfl rfl (m_isFormS hA hSt hl q_a.2.1 q_a.2.2) ?_
  rintro _ _ _ ⟨x9, a4, b4, c4, d4, rfl, rfl, (⟨hfm, rfl⟩ | ⟨g, hfm, rfl, hv⟩)⟩
  · skip
    refine M.istore_n (L' := [some (.ref m), some (.int 0), none, none, none, none]) dX12_authorize_8 (by decide) rfl rfl ?_
    refine M.iload_n dX12_authorize_9 rfl ?_
    refine M.if_eq (tgt := 20) dX12_authorize_10 (by decide) (fun c_10 => ?_) (fun c_10 => absurd rfl c_10)
    refine M.iconst (v := (-1)) dX12_authorize_20 (by decide) ?_
    refine M.istore_n (L' := [some (.ref m), some (.int 0), some (.int (-1)), none, none, none]) dX12_authorize_21 (by decide) rfl rfl ?_
    refine M.iload_n dX12_authorize_22 rfl ?_
    refine M.if_lt (tgt := 34) dX12_authorize_23 (by decide) (fun c_23 => ?_) (fun c_23 => absurd (by decide) c_23)
    refine M.iconst (v := (-1)) dX12_authorize_34 (by decide) ?_
    refine M.istore_n (L' := [some (.ref m), some (.int 0), some (.int (-1)), some (.int (-1)), none, none]) dX12_authorize_35 (by decide) rfl rfl ?_
    refine M.iload_n dX12_authorize_36 rfl ?_
    refine M.if_ge (tgt := 63) dX12_authorize_37 (by decide) (fun c_37 => absurd c_37 (by decide)) (fun c_37 => ?_)
    refine M.aload_nR dX12_authorize_40 rfl ?_
    refine M.sipush (v := 400) dX12_authorize_41 (by decide) ?_
    refine M.iload_n dX12_authorize_44 rfl ?_
    refine M.if_eq (tgt := 57) dX12_authorize_45 (by decide) (fun c_45 => ?_) (fun c_45 => absurd rfl c_45)
    refine M.iconst (v := 1) dX12_authorize_57 (by decide) ?_
    refine M.callV [.int 400, .int 1] dX12_authorize_58 mdX12_ends imX12_ends seX12_ends lk_X12_328 rfl rfl rfl rfl (m_ends hA 400 1) ?_
    rintro _ I9 F9 ⟨rfl, e9, e8⟩
    have e9 := e9.symm; subst e9; have e8 := e8.symm; subst e8
    refine M.iconst (v := (-1)) dX12_authorize_61 (by decide) ?_
    refine M.iret dX12_authorize_62 rfl ?_
    rw [opAuth, hfm]
    exact ⟨rfl, rfl, ⟨rfl, rfl, q_a.2.2⟩, ⟨rfl, rfl⟩, ⟨rfl, rfl, q_n.2.2⟩, q_w, q_c, q_r, q_x, q_q, q_k, q_f, q_t⟩
  · skip
    refine M.istore_n (L' := [some (.ref m), some (.int 1), none, none, none, none]) dX12_authorize_8 (by decide) rfl rfl ?_
    refine M.iload_n dX12_authorize_9 rfl ?_
    refine M.if_eq (tgt := 20) dX12_authorize_10 (by decide) (fun c_10 => absurd c_10 (by decide)) (fun c_10 => ?_)
    refine M.aload_nR dX12_authorize_13 rfl ?_
    refine M.callV [] dX12_authorize_14 mdX12_clientOf imX12_clientOf seX12_clientOf lk_X12_375 rfl rfl rfl rfl (m_clientOfS hA (I := (upd (upd (upd I 0 0) 2 0) 67 x9)) (F := (f4 F a4 b4 c4 d4)) q_c.1 w_c.1 q_c.2.1 w_c.2.1 hv) ?_
    rintro _ I9 F9 ⟨rfl, e9, e8⟩
    have e9 := e9.symm; subst e9; have e8 := e8.symm; subst e8
    refine M.goto (tgt := 21) dX12_authorize_17 (by decide) ?_
    refine M.istore_n (L' := [some (.ref m), some (.int 1), some (.int (clS (T 3) (fv g 1))), none, none, none]) dX12_authorize_21 (by decide) rfl rfl ?_
    refine M.iload_n dX12_authorize_22 rfl ?_
    refine M.if_lt (tgt := 34) dX12_authorize_23 (by decide) (fun c_23 => ?_) (fun c_23 => ?_)
    · skip
      refine M.iconst (v := (-1)) dX12_authorize_34 (by decide) ?_
      refine M.istore_n (L' := [some (.ref m), some (.int 1), some (.int (clS (T 3) (fv g 1))), some (.int (-1)), none, none]) dX12_authorize_35 (by decide) rfl rfl ?_
      refine M.iload_n dX12_authorize_36 rfl ?_
      refine M.if_ge (tgt := 63) dX12_authorize_37 (by decide) (fun c_37 => absurd c_37 (by decide)) (fun c_37 => ?_)
      refine M.aload_nR dX12_authorize_40 rfl ?_
      refine M.sipush (v := 400) dX12_authorize_41 (by decide) ?_
      refine M.iload_n dX12_authorize_44 rfl ?_
      refine M.if_eq (tgt := 57) dX12_authorize_45 (by decide) (fun c_45 => absurd c_45 (by decide)) (fun c_45 => ?_)
      refine M.iload_n dX12_authorize_48 rfl ?_
      refine M.if_ge (tgt := 57) dX12_authorize_49 (by decide) (fun c_49 => absurd c_49 (Int32.not_le.mpr c_23)) (fun c_49 => ?_)
      refine M.bipush (v := 6) dX12_authorize_52 (by decide) ?_
      refine M.goto (tgt := 58) dX12_authorize_54 (by decide) ?_
      refine M.callV [.int 400, .int 6] dX12_authorize_58 mdX12_ends imX12_ends seX12_ends lk_X12_328 rfl rfl rfl rfl (m_ends hA 400 6) ?_
      rintro _ I9 F9 ⟨rfl, e9, e8⟩
      have e9 := e9.symm; subst e9; have e8 := e8.symm; subst e8
      refine M.iconst (v := (-1)) dX12_authorize_61 (by decide) ?_
      refine M.iret dX12_authorize_62 rfl ?_
      rw [opAuth, hfm]
      show mP (opAuth1 N (setB B 0 []) T R g) _ _ _
      rw [opAuth1, if_pos c_23]
      exact ⟨rfl, rfl, ⟨rfl, rfl, q_a.2.2⟩, ⟨rfl, rfl⟩, ⟨rfl, rfl, q_n.2.2⟩, q_w, q_c, q_r, q_x, q_q, q_k, q_f, q_t⟩
    · skip
      have hcp := clS_pos c_23
      rw [clS_at c_23]
      have hclT := hcp.2
      have hrd := q_r (fnd (T 3) (fv g 1)) (by omega)
      have hr3 := (w_r (fnd (T 3) (fv g 1))).1
      refine M.aload_nR dX12_authorize_26 rfl ?_
      refine M.iload_n dX12_authorize_27 rfl ?_
      refine M.callV [.int (nI (fnd (T 3) (fv g 1)))] dX12_authorize_28 mdX12_redirectOf imX12_redirectOf seX12_redirectOf lk_X12_378 rfl rfl rfl rfl (m_redirectOf hA (F := (f4 F a4 b4 c4 d4)) (by omega) hrd hv) ?_
      rintro _ I9 F9 ⟨rfl, e9, e8⟩
      have e9 := e9.symm; subst e9; have e8 := e8.symm; subst e8
      refine M.goto (tgt := 35) dX12_authorize_31 (by decide) ?_
      refine M.istore_n (L' := [some (.ref m), some (.int 1), some (.int (nI (fnd (T 3) (fv g 1)))), some (.int (rdS (R (fnd (T 3) (fv g 1))) (fv g 2))), none, none]) dX12_authorize_35 (by decide) rfl rfl ?_
      refine M.iload_n dX12_authorize_36 rfl ?_
      refine M.if_ge (tgt := 63) dX12_authorize_37 (by decide) (fun c_37 => ?_) (fun c_37 => ?_)
      · skip
        obtain ⟨r, hr, er⟩ := rdS_pos (Int32.not_lt.mpr c_37)
        rw [er]
        have hrt := (w_r (fnd (T 3) (fv g 1))).2.2 r hr
        have hc15 : F 15 (fnd (T 3) (fv g 1)) = ro (T 5) (fnd (T 3) (fv g 1)) 1 := q_c.2.2.2.2.1 (fnd (T 3) (fv g 1)) (by rw [w_c.2.2.2.1]; exact hcp.2)
        have hv9 := hv
        refine M.iconst (v := 0) dX12_authorize_63 (by decide) ?_
        refine M.istore (L' := [some (.ref m), some (.int 1), some (.int (nI (fnd (T 3) (fv g 1)))), some (.int (nI r)), some (.int 0), none]) dX12_authorize_64 (by decide) rfl rfl ?_
        refine M.aload_nR dX12_authorize_66 rfl ?_
        refine M.iconst (v := 0) dX12_authorize_67 (by decide) ?_
        refine M.callV [.int 0] dX12_authorize_68 mdX12_has imX12_has seX12_has lk_X12_260 rfl rfl rfl rfl (m_hasV hA (F := (f4 F a4 b4 c4 d4)) hv9 (k := 0) (by decide)) ?_
        rintro _ I9 F9 ⟨rfl, e9, e8⟩
        have e9 := e9.symm; subst e9; have e8 := e8.symm; subst e8
        refine M.if_ne (tgt := 80) dX12_authorize_71 (by decide) (fun c_71 => ?_) (fun c_71 => ?_)
        · skip
          have h0_0 := of_decide_eq_true (bt1 c_71)
          refine M.aload_nR dX12_authorize_80 rfl ?_
          refine M.iconst (v := 0) dX12_authorize_81 (by decide) ?_
          refine M.ldcS dX12_authorize_82 sr_X12_229 ?_
          refine M.callV [.int 0, .ref (kSa Λ RX12 229)] dX12_authorize_84 mdX12_isValue imX12_isValue seX12_isValue lk_X12_381 rfl rfl rfl rfl (m_isValueV hA (F := (f4 F a4 b4 c4 d4)) hv9 (k := 0) (by decide) h0_0 (st_X12_229 hSt) sb_code_b) ?_
          rintro _ I9 F9 ⟨rfl, e9, e8⟩
          have e9 := e9.symm; subst e9; have e8 := e8.symm; subst e8
          refine M.if_ne (tgt := 96) dX12_authorize_87 (by decide) (fun c_87 => ?_) (fun c_87 => ?_)
          · skip
            have hcd := of_decide_eq_true (bt1 c_87)
            refine M.aload_nR dX12_authorize_96 rfl ?_
            refine M.callV [] dX12_authorize_97 mdX12_isChallenge imX12_isChallenge seX12_isChallenge lk_X12_385 rfl rfl rfl rfl (m_isChallenge hA (F := (f4 F a4 b4 c4 d4)) hv9) ?_
            rintro _ I9 F9 ⟨rfl, e9, e8⟩
            have e9 := e9.symm; subst e9; have e8 := e8.symm; subst e8
            refine M.if_eq (tgt := 124) dX12_authorize_100 (by decide) (fun c_100 => ?_) (fun c_100 => ?_)
            · skip
              have hae := autE_1b (T := T) (c := (fnd (T 3) (fv g 1))) h0_0 hcd (by first | rw [(bI_eq0 _).mp c_100, Bool.false_and] | rw [(bI_eq0 _).mp c_121, Bool.and_false] | rw [decide_eq_false (p := fv g 6 = sb_S256) (fun q => of_decide_eq_false ((bI_eq0 _).mp c_109) (by rw [q]; decide)), Bool.and_false])
              refine M.iconst (v := 1) dX12_authorize_124 (by decide) ?_
              refine M.istore (L' := [some (.ref m), some (.int 1), some (.int (nI (fnd (T 3) (fv g 1)))), some (.int (nI r)), some (.int 1), none]) dX12_authorize_125 (by decide) rfl rfl ?_
              refine M.goto (tgt := 158) dX12_authorize_127 (by decide) ?_
              refine M.iload dX12_authorize_158 rfl ?_
              refine M.if_le (tgt := 216) dX12_authorize_160 (by decide) (fun c_160 => absurd c_160 (by decide)) (fun c_160 => ?_)
              refine M.aload_nR dX12_authorize_163 rfl ?_
              refine M.sipush (v := 302) dX12_authorize_164 (by decide) ?_
              refine M.iload dX12_authorize_167 rfl ?_
              refine M.callV [.int 302, .int 1] dX12_authorize_169 mdX12_ends imX12_ends seX12_ends lk_X12_328 rfl rfl rfl rfl (m_ends hA 302 1) ?_
              rintro _ I9 F9 ⟨rfl, e9, e8⟩
              have e9 := e9.symm; subst e9; have e8 := e8.symm; subst e8
              refine M.aload_nR dX12_authorize_172 rfl ?_
              refine M.iload_n dX12_authorize_173 rfl ?_
              refine M.iload_n dX12_authorize_174 rfl ?_
              refine M.callV [.int (nI (fnd (T 3) (fv g 1))), .int (nI r)] dX12_authorize_175 mdX12_place imX12_place seX12_place lk_X12_397 rfl rfl rfl rfl (m_place hA (F := (f4 F a4 b4 c4 d4)) (c := (fnd (T 3) (fv g 1))) (by omega) hrd (r := r) hr hrt.2.2 rfl (by decide)) ?_
              rintro _ I9 F9 ⟨rfl, e9, e8⟩
              have e9 := e9.symm; subst e9; have e8 := e8.symm; subst e8
              refine M.aload_nR dX12_authorize_178 rfl ?_
              refine M.ldcwS dX12_authorize_179 sr_X12_400 ?_
              refine M.callV [.ref (kSa Λ RX12 400)] dX12_authorize_182 mdX12_says imX12_says seX12_says lk_X12_334 rfl rfl rfl rfl (m_says hA (st_X12_400 hSt) sb_errorIs_b (mo_4 rfl) (by simp only [List.length_append, List.length_cons, List.length_nil, b64_len]; omega)) ?_
              rintro _ I9 F9 ⟨rfl, e9, e8⟩
              have e9 := e9.symm; subst e9; have e8 := e8.symm; subst e8
              rw [mo_mo rfl, fo_fo rfl]
              refine M.aload_nR dX12_authorize_185 rfl ?_
              refine M.iload dX12_authorize_186 rfl ?_
              refine M.callS [.int 1] dX12_authorize_188 mdX12_errorWord ssX12_errorWord lk_X12_338 rfl rfl rfl rfl (m_errorWord_1 hA) ?_
              rintro _ I9 F9 ⟨rfl, e9, e8⟩
              have e9 := e9.symm; subst e9; have e8 := e8.symm; subst e8
              refine M.callV [.ref (kSa Λ RX12 302)] dX12_authorize_191 mdX12_says imX12_says seX12_says lk_X12_334 rfl rfl rfl rfl (m_says hA (st_X12_302 hSt) sb_invalid_request_b (mo_4 rfl) (by simp only [List.length_append, List.length_cons, List.length_nil, b64_len]; omega)) ?_
              rintro _ I9 F9 ⟨rfl, e9, e8⟩
              have e9 := e9.symm; subst e9; have e8 := e8.symm; subst e8
              rw [mo_mo rfl, fo_fo rfl]
              by_cases h4v : 0 < (fv g 4).length
              · obtain ⟨i4, a41, a42, a43, a44, a45⟩ := hv9.at (k := 4) (by decide) h4v
                refine M.aload_nR dX12_authorize_194 rfl ?_
                refine M.aload_nR dX12_authorize_195 rfl ?_
                refine M.getr dX12_authorize_196 fl_X12_155 rfl rfl ?_
                refine M.aload_nR dX12_authorize_199 rfl ?_
                refine M.getr dX12_authorize_200 fl_X12_158 rfl rfl ?_
                refine M.iconst (v := 4) dX12_authorize_203 (by decide) ?_
                refine M.ialdv (k9 := 64) (j := 4) (g := (f4 F a4 b4 c4 d4) 64) (v := nI i4) dX12_authorize_204 rfl rfl rfl rfl (show 4 < 13 by omega) a41 ?_
                refine M.aload_nR dX12_authorize_205 rfl ?_
                refine M.getr dX12_authorize_206 fl_X12_161 rfl rfl ?_
                refine M.iconst (v := 4) dX12_authorize_209 (by decide) ?_
                refine M.ialdv (k9 := 65) (j := 4) (g := (f4 F a4 b4 c4 d4) 65) (v := nI (fv g 4).length) dX12_authorize_210 rfl rfl rfl rfl (show 4 < 13 by omega) a42 ?_
                refine M.callV [.ref (A 63), .int (nI i4), .int (nI (fv g 4).length)] dX12_authorize_211 mdX12_state imX12_state seX12_state lk_X12_402 rfl rfl rfl rfl (m_state hA hSt (F := (fo (f4 F a4 b4 c4 d4) 0 (((((R (fnd (T 3) (fv g 1))).getD r []) ++ [plc ((R (fnd (T 3) (fv g 1))).getD r [])]) ++ sb_errorIs) ++ sb_invalid_request))) (k1 := 63) rfl rfl (by decide) (i := i4) (v := fv g 4) a43 a44 h4v (by omega) (mo_4 rfl) (by simp only [List.length_append, List.length_cons, List.length_nil, b64_len]; omega)) ?_
                rintro _ I9 F9 ⟨rfl, e9, e8⟩
                have e9 := e9.symm; subst e9; have e8 := e8.symm; subst e8
                rw [mo_mo rfl, fo_fo rfl]
                refine M.iconst (v := (-1)) dX12_authorize_214 (by decide) ?_
                refine M.iret dX12_authorize_215 rfl ?_
                rw [opAuth, hfm]
                show mP (opAuth1 N (setB B 0 []) T R g) _ _ _
                rw [opAuth1, if_neg c_23, clS_at c_23, nI_clamp (by omega), if_neg (Int32.not_lt.mpr c_37), er, nI_clamp (by omega), opAuth2, hae]
                rw [if_pos (by decide)]
                exact ⟨rfl, rfl, ⟨rfl, rfl, q_a.2.2⟩, mRb.fo rfl rfl, ⟨rfl, rfl, q_n.2.2⟩, q_w, q_c, q_r, q_x, q_q, q_k, q_f, q_t⟩
              · skip
                refine M.aload_nR dX12_authorize_194 rfl ?_
                refine M.aload_nR dX12_authorize_195 rfl ?_
                refine M.getr dX12_authorize_196 fl_X12_155 rfl rfl ?_
                refine M.aload_nR dX12_authorize_199 rfl ?_
                refine M.getr dX12_authorize_200 fl_X12_158 rfl rfl ?_
                refine M.iconst (v := 4) dX12_authorize_203 (by decide) ?_
                refine M.iald (k9 := 64) (j := 4) (g := (f4 F a4 b4 c4 d4) 64) dX12_authorize_204 rfl rfl rfl rfl (show 4 < 13 by omega) ?_
                refine M.aload_nR dX12_authorize_205 rfl ?_
                refine M.getr dX12_authorize_206 fl_X12_161 rfl rfl ?_
                refine M.iconst (v := 4) dX12_authorize_209 (by decide) ?_
                refine M.iald (k9 := 65) (j := 4) (g := (f4 F a4 b4 c4 d4) 65) dX12_authorize_210 rfl rfl rfl rfl (show 4 < 13 by omega) ?_
                refine M.callV [.ref (A 63), .int (((f4 F a4 b4 c4 d4) 64) 4), .int (((f4 F a4 b4 c4 d4) 65) 4)] dX12_authorize_211 mdX12_state imX12_state seX12_state lk_X12_402 rfl rfl rfl rfl (m_state0 hA (hv9.n1 (by decide) h4v)) ?_
                rintro _ I9 F9 ⟨rfl, e9, e8⟩
                have e9 := e9.symm; subst e9; have e8 := e8.symm; subst e8
                refine M.iconst (v := (-1)) dX12_authorize_214 (by decide) ?_
                refine M.iret dX12_authorize_215 rfl ?_
                rw [opAuth, hfm]
                show mP (opAuth1 N (setB B 0 []) T R g) _ _ _
                rw [opAuth1, if_neg c_23, clS_at c_23, nI_clamp (by omega), if_neg (Int32.not_lt.mpr c_37), er, nI_clamp (by omega), opAuth2, hae]
                rw [if_pos (by decide)]
                rw [stS_nil h4v, List.append_nil]
                exact ⟨rfl, rfl, ⟨rfl, rfl, q_a.2.2⟩, mRb.fo rfl rfl, ⟨rfl, rfl, q_n.2.2⟩, q_w, q_c, q_r, q_x, q_q, q_k, q_f, q_t⟩
            · skip
              refine M.aload_nR dX12_authorize_103 rfl ?_
              refine M.bipush (v := 6) dX12_authorize_104 (by decide) ?_
              refine M.callV [.int 6] dX12_authorize_106 mdX12_has imX12_has seX12_has lk_X12_260 rfl rfl rfl rfl (m_hasV hA (F := (f4 F a4 b4 c4 d4)) hv9 (k := 6) (by decide)) ?_
              rintro _ I9 F9 ⟨rfl, e9, e8⟩
              have e9 := e9.symm; subst e9; have e8 := e8.symm; subst e8
              refine M.if_eq (tgt := 124) dX12_authorize_109 (by decide) (fun c_109 => ?_) (fun c_109 => ?_)
              · skip
                have hae := autE_1b (T := T) (c := (fnd (T 3) (fv g 1))) h0_0 hcd (by first | rw [(bI_eq0 _).mp c_100, Bool.false_and] | rw [(bI_eq0 _).mp c_121, Bool.and_false] | rw [decide_eq_false (p := fv g 6 = sb_S256) (fun q => of_decide_eq_false ((bI_eq0 _).mp c_109) (by rw [q]; decide)), Bool.and_false])
                refine M.iconst (v := 1) dX12_authorize_124 (by decide) ?_
                refine M.istore (L' := [some (.ref m), some (.int 1), some (.int (nI (fnd (T 3) (fv g 1)))), some (.int (nI r)), some (.int 1), none]) dX12_authorize_125 (by decide) rfl rfl ?_
                refine M.goto (tgt := 158) dX12_authorize_127 (by decide) ?_
                refine M.iload dX12_authorize_158 rfl ?_
                refine M.if_le (tgt := 216) dX12_authorize_160 (by decide) (fun c_160 => absurd c_160 (by decide)) (fun c_160 => ?_)
                refine M.aload_nR dX12_authorize_163 rfl ?_
                refine M.sipush (v := 302) dX12_authorize_164 (by decide) ?_
                refine M.iload dX12_authorize_167 rfl ?_
                refine M.callV [.int 302, .int 1] dX12_authorize_169 mdX12_ends imX12_ends seX12_ends lk_X12_328 rfl rfl rfl rfl (m_ends hA 302 1) ?_
                rintro _ I9 F9 ⟨rfl, e9, e8⟩
                have e9 := e9.symm; subst e9; have e8 := e8.symm; subst e8
                refine M.aload_nR dX12_authorize_172 rfl ?_
                refine M.iload_n dX12_authorize_173 rfl ?_
                refine M.iload_n dX12_authorize_174 rfl ?_
                refine M.callV [.int (nI (fnd (T 3) (fv g 1))), .int (nI r)] dX12_authorize_175 mdX12_place imX12_place seX12_place lk_X12_397 rfl rfl rfl rfl (m_place hA (F := (f4 F a4 b4 c4 d4)) (c := (fnd (T 3) (fv g 1))) (by omega) hrd (r := r) hr hrt.2.2 rfl (by decide)) ?_
                rintro _ I9 F9 ⟨rfl, e9, e8⟩
                have e9 := e9.symm; subst e9; have e8 := e8.symm; subst e8
                refine M.aload_nR dX12_authorize_178 rfl ?_
                refine M.ldcwS dX12_authorize_179 sr_X12_400 ?_
                refine M.callV [.ref (kSa Λ RX12 400)] dX12_authorize_182 mdX12_says imX12_says seX12_says lk_X12_334 rfl rfl rfl rfl (m_says hA (st_X12_400 hSt) sb_errorIs_b (mo_4 rfl) (by simp only [List.length_append, List.length_cons, List.length_nil, b64_len]; omega)) ?_
                rintro _ I9 F9 ⟨rfl, e9, e8⟩
                have e9 := e9.symm; subst e9; have e8 := e8.symm; subst e8
                rw [mo_mo rfl, fo_fo rfl]
                refine M.aload_nR dX12_authorize_185 rfl ?_
                refine M.iload dX12_authorize_186 rfl ?_
                refine M.callS [.int 1] dX12_authorize_188 mdX12_errorWord ssX12_errorWord lk_X12_338 rfl rfl rfl rfl (m_errorWord_1 hA) ?_
                rintro _ I9 F9 ⟨rfl, e9, e8⟩
                have e9 := e9.symm; subst e9; have e8 := e8.symm; subst e8
                refine M.callV [.ref (kSa Λ RX12 302)] dX12_authorize_191 mdX12_says imX12_says seX12_says lk_X12_334 rfl rfl rfl rfl (m_says hA (st_X12_302 hSt) sb_invalid_request_b (mo_4 rfl) (by simp only [List.length_append, List.length_cons, List.length_nil, b64_len]; omega)) ?_
                rintro _ I9 F9 ⟨rfl, e9, e8⟩
                have e9 := e9.symm; subst e9; have e8 := e8.symm; subst e8
                rw [mo_mo rfl, fo_fo rfl]
                by_cases h4v : 0 < (fv g 4).length
                · obtain ⟨i4, a41, a42, a43, a44, a45⟩ := hv9.at (k := 4) (by decide) h4v
                  refine M.aload_nR dX12_authorize_194 rfl ?_
                  refine M.aload_nR dX12_authorize_195 rfl ?_
                  refine M.getr dX12_authorize_196 fl_X12_155 rfl rfl ?_
                  refine M.aload_nR dX12_authorize_199 rfl ?_
                  refine M.getr dX12_authorize_200 fl_X12_158 rfl rfl ?_
                  refine M.iconst (v := 4) dX12_authorize_203 (by decide) ?_
                  refine M.ialdv (k9 := 64) (j := 4) (g := (f4 F a4 b4 c4 d4) 64) (v := nI i4) dX12_authorize_204 rfl rfl rfl rfl (show 4 < 13 by omega) a41 ?_
                  refine M.aload_nR dX12_authorize_205 rfl ?_
                  refine M.getr dX12_authorize_206 fl_X12_161 rfl rfl ?_
                  refine M.iconst (v := 4) dX12_authorize_209 (by decide) ?_
                  refine M.ialdv (k9 := 65) (j := 4) (g := (f4 F a4 b4 c4 d4) 65) (v := nI (fv g 4).length) dX12_authorize_210 rfl rfl rfl rfl (show 4 < 13 by omega) a42 ?_
                  refine M.callV [.ref (A 63), .int (nI i4), .int (nI (fv g 4).length)] dX12_authorize_211 mdX12_state imX12_state seX12_state lk_X12_402 rfl rfl rfl rfl (m_state hA hSt (F := (fo (f4 F a4 b4 c4 d4) 0 (((((R (fnd (T 3) (fv g 1))).getD r []) ++ [plc ((R (fnd (T 3) (fv g 1))).getD r [])]) ++ sb_errorIs) ++ sb_invalid_request))) (k1 := 63) rfl rfl (by decide) (i := i4) (v := fv g 4) a43 a44 h4v (by omega) (mo_4 rfl) (by simp only [List.length_append, List.length_cons, List.length_nil, b64_len]; omega)) ?_
                  rintro _ I9 F9 ⟨rfl, e9, e8⟩
                  have e9 := e9.symm; subst e9; have e8 := e8.symm; subst e8
                  rw [mo_mo rfl, fo_fo rfl]
                  refine M.iconst (v := (-1)) dX12_authorize_214 (by decide) ?_
                  refine M.iret dX12_authorize_215 rfl ?_
                  rw [opAuth, hfm]
                  show mP (opAuth1 N (setB B 0 []) T R g) _ _ _
                  rw [opAuth1, if_neg c_23, clS_at c_23, nI_clamp (by omega), if_neg (Int32.not_lt.mpr c_37), er, nI_clamp (by omega), opAuth2, hae]
                  rw [if_pos (by decide)]
                  exact ⟨rfl, rfl, ⟨rfl, rfl, q_a.2.2⟩, mRb.fo rfl rfl, ⟨rfl, rfl, q_n.2.2⟩, q_w, q_c, q_r, q_x, q_q, q_k, q_f, q_t⟩
                · skip
                  refine M.aload_nR dX12_authorize_194 rfl ?_
                  refine M.aload_nR dX12_authorize_195 rfl ?_
                  refine M.getr dX12_authorize_196 fl_X12_155 rfl rfl ?_
                  refine M.aload_nR dX12_authorize_199 rfl ?_
                  refine M.getr dX12_authorize_200 fl_X12_158 rfl rfl ?_
                  refine M.iconst (v := 4) dX12_authorize_203 (by decide) ?_
                  refine M.iald (k9 := 64) (j := 4) (g := (f4 F a4 b4 c4 d4) 64) dX12_authorize_204 rfl rfl rfl rfl (show 4 < 13 by omega) ?_
                  refine M.aload_nR dX12_authorize_205 rfl ?_
                  refine M.getr dX12_authorize_206 fl_X12_161 rfl rfl ?_
                  refine M.iconst (v := 4) dX12_authorize_209 (by decide) ?_
                  refine M.iald (k9 := 65) (j := 4) (g := (f4 F a4 b4 c4 d4) 65) dX12_authorize_210 rfl rfl rfl rfl (show 4 < 13 by omega) ?_
                  refine M.callV [.ref (A 63), .int (((f4 F a4 b4 c4 d4) 64) 4), .int (((f4 F a4 b4 c4 d4) 65) 4)] dX12_authorize_211 mdX12_state imX12_state seX12_state lk_X12_402 rfl rfl rfl rfl (m_state0 hA (hv9.n1 (by decide) h4v)) ?_
                  rintro _ I9 F9 ⟨rfl, e9, e8⟩
                  have e9 := e9.symm; subst e9; have e8 := e8.symm; subst e8
                  refine M.iconst (v := (-1)) dX12_authorize_214 (by decide) ?_
                  refine M.iret dX12_authorize_215 rfl ?_
                  rw [opAuth, hfm]
                  show mP (opAuth1 N (setB B 0 []) T R g) _ _ _
                  rw [opAuth1, if_neg c_23, clS_at c_23, nI_clamp (by omega), if_neg (Int32.not_lt.mpr c_37), er, nI_clamp (by omega), opAuth2, hae]
                  rw [if_pos (by decide)]
                  rw [stS_nil h4v, List.append_nil]
                  exact ⟨rfl, rfl, ⟨rfl, rfl, q_a.2.2⟩, mRb.fo rfl rfl, ⟨rfl, rfl, q_n.2.2⟩, q_w, q_c, q_r, q_x, q_q, q_k, q_f, q_t⟩
              · skip
                have h0_6 := of_decide_eq_true (bt1 c_109)
                refine M.aload_nR dX12_authorize_112 rfl ?_
                refine M.bipush (v := 6) dX12_authorize_113 (by decide) ?_
                refine M.ldcwS dX12_authorize_115 sr_X12_389 ?_
                refine M.callV [.int 6, .ref (kSa Λ RX12 389)] dX12_authorize_118 mdX12_isValue imX12_isValue seX12_isValue lk_X12_381 rfl rfl rfl rfl (m_isValueV hA (F := (f4 F a4 b4 c4 d4)) hv9 (k := 6) (by decide) h0_6 (st_X12_389 hSt) sb_S256_b) ?_
                rintro _ I9 F9 ⟨rfl, e9, e8⟩
                have e9 := e9.symm; subst e9; have e8 := e8.symm; subst e8
                refine M.if_ne (tgt := 130) dX12_authorize_121 (by decide) (fun c_121 => ?_) (fun c_121 => ?_)
                · skip
                  have hg3 : (decide ((fv g 5).length = 43) && (fv g 5).all chb && decide (fv g 6 = sb_S256)) = true := by rw [bt1 c_100, bt1 c_121]; rfl
                  refine M.aload_nR dX12_authorize_130 rfl ?_
                  refine M.iload_n dX12_authorize_131 rfl ?_
                  have hak := m_asked (Λ := Λ) (m := m) (I := (upd (upd (upd I 0 0) 2 0) 67 x9)) (F := (f4 F a4 b4 c4 d4)) hA q_w.1 w_w.1 q_w.2 w_w.2.1 hv9 (c := (fnd (T 3) (fv g 1))) (by omega)
                  rw [show (f4 F a4 b4 c4 d4) 15 (fnd (T 3) (fv g 1)) = ro (T 5) (fnd (T 3) (fv g 1)) 1 from hc15] at hak
                  refine M.callV [.int (nI (fnd (T 3) (fv g 1)))] dX12_authorize_132 mdX12_asked imX12_asked seX12_asked lk_X12_391 rfl rfl rfl rfl hak ?_
                  rintro _ I9 F9 ⟨rfl, e9, e8⟩
                  have e9 := e9.symm; subst e9; have e8 := e8.symm; subst e8
                  refine M.if_ge (tgt := 144) dX12_authorize_135 (by decide) (fun c_135 => ?_) (fun c_135 => ?_)
                  · skip
                    refine M.aload_nR dX12_authorize_144 rfl ?_
                    refine M.geti (v := nI (T 23).length) dX12_authorize_145 fl_X12_394 rfl rfl q_q.1 ?_
                    refine M.sipush (v := 200) dX12_authorize_148 (by decide) ?_
                    refine M.icmp_ne (tgt := 158) dX12_authorize_151 (by decide) (fun c_151 => ?_) (fun c_151 => ?_)
                    · skip
                      have n200 : ¬ (T 23).length = 200 := fun q => c_151 ((nI_eq (b := 200) (by omega) (by omega)).mpr q)
                      have hae := autE_0 (T := T) (c := (fnd (T 3) (fv g 1))) h0_0 hcd hg3 (Int32.not_lt.mpr c_135) n200
                      refine M.iload dX12_authorize_158 rfl ?_
                      refine M.if_le (tgt := 216) dX12_authorize_160 (by decide) (fun c_160 => ?_) (fun c_160 => absurd (by decide) c_160)
                      refine M.aload_nR dX12_authorize_216 rfl ?_
                      refine M.getr dX12_authorize_217 fl_X12_70 rfl rfl ?_
                      refine M.aload_nR dX12_authorize_220 rfl ?_
                      refine M.geti (v := nI (T 23).length) dX12_authorize_221 fl_X12_394 rfl rfl q_q.1 ?_
                      refine M.iload_n dX12_authorize_224 rfl ?_
                      refine M.iast (k9 := 29) (j := (T 23).length) dX12_authorize_225 rfl rfl rfl (show (T 23).length < 200 by omega) ?_
                      refine M.aload_nR dX12_authorize_226 rfl ?_
                      refine M.getr dX12_authorize_227 fl_X12_73 rfl rfl ?_
                      refine M.aload_nR dX12_authorize_230 rfl ?_
                      refine M.geti (v := nI (T 23).length) dX12_authorize_231 fl_X12_394 rfl rfl q_q.1 ?_
                      refine M.iload_n dX12_authorize_234 rfl ?_
                      refine M.iast (k9 := 30) (j := (T 23).length) dX12_authorize_235 rfl rfl rfl (show (T 23).length < 200 by omega) ?_
                      refine M.aload_nR dX12_authorize_236 rfl ?_
                      refine M.getr dX12_authorize_237 fl_X12_76 rfl rfl ?_
                      refine M.aload_nR dX12_authorize_240 rfl ?_
                      refine M.geti (v := nI (T 23).length) dX12_authorize_241 fl_X12_394 rfl rfl q_q.1 ?_
                      refine M.aload_nR dX12_authorize_244 rfl ?_
                      refine M.iload_n dX12_authorize_245 rfl ?_
                      have hak := m_asked (Λ := Λ) (m := m) (I := (upd (upd (upd I 0 0) 2 0) 67 x9)) (F := (updF (updF (f4 F a4 b4 c4 d4) 29 ((T 23).length) (nI (fnd (T 3) (fv g 1)))) 30 ((T 23).length) (nI r))) hA q_w.1 w_w.1 q_w.2 w_w.2.1 hv9 (c := (fnd (T 3) (fv g 1))) (by omega)
                      rw [show (updF (updF (f4 F a4 b4 c4 d4) 29 ((T 23).length) (nI (fnd (T 3) (fv g 1)))) 30 ((T 23).length) (nI r)) 15 (fnd (T 3) (fv g 1)) = ro (T 5) (fnd (T 3) (fv g 1)) 1 from hc15] at hak
                      refine M.callV [.int (nI (fnd (T 3) (fv g 1)))] dX12_authorize_246 mdX12_asked imX12_asked seX12_asked lk_X12_391 rfl rfl rfl rfl hak ?_
                      rintro _ I9 F9 ⟨rfl, e9, e8⟩
                      have e9 := e9.symm; subst e9; have e8 := e8.symm; subst e8
                      refine M.iast (k9 := 31) (j := (T 23).length) dX12_authorize_249 rfl rfl rfl (show (T 23).length < 200 by omega) ?_
                      refine M.aload_nR dX12_authorize_250 rfl ?_
                      refine M.getr dX12_authorize_251 fl_X12_79 rfl rfl ?_
                      refine M.aload_nR dX12_authorize_254 rfl ?_
                      refine M.geti (v := nI (T 23).length) dX12_authorize_255 fl_X12_394 rfl rfl q_q.1 ?_
                      refine M.iconst (v := 1) dX12_authorize_258 (by decide) ?_
                      refine M.zast1 (k9 := 32) (j := (T 23).length) dX12_authorize_259 rfl rfl rfl (show (T 23).length < 200 by omega) (by decide) ?_
                      have hl5 : (fv g 5).length = 43 := by have h9 := hg3; rw [Bool.and_eq_true, Bool.and_eq_true] at h9; exact of_decide_eq_true h9.1.1
                      obtain ⟨i5, a51, a52, a53, a54, a55⟩ := hv9.at (k := 5) (by decide) (by omega)
                      refine M.iconst (v := 0) dX12_authorize_260 (by decide) ?_
                      refine M.istore (L' := [some (.ref m), some (.int 1), some (.int (nI (fnd (T 3) (fv g 1)))), some (.int (nI r)), some (.int 0), some (.int 0)]) dX12_authorize_261 (by decide) rfl rfl ?_
                      have cut_263 : ∀ (k_263 : Nat) (k : Nat), (k ≤ 43) → (44 ≤ k + k_263) → M Λ X mX12_authorize m A (mP (opAuth N B T R)) (upd (upd (upd I 0 0) 2 0) 67 x9) (setF (updF (updF (updF (updF (f4 F a4 b4 c4 d4) 29 (T 23).length (nI (fnd (T 3) (fv g 1)))) 30 (T 23).length (nI r)) 31 (T 23).length (askS (T 2) (fv g 3) (ro (T 5) (fnd (T 3) (fv g 1)) 1))) 32 (T 23).length 1) 33 (updl (F 33) (43 * (T 23).length) ((fv g 5).take k))) 263 [some (.ref m), some (.int 1), some (.int (nI (fnd (T 3) (fv g 1)))), some (.int (nI r)), some (.int 0), some (.int (nI k))] [] := by
                        intro k_263
                        induction k_263 with
                        | zero => intro k h1 h2; exact absurd h2 (by omega)
                        | succ k_263 ih_263 =>
                          intro k h1 h2
                          have htl : ((fv g 5).take k).length = k := by rw [List.length_take, Nat.min_eq_left (by omega)]
                          refine M.iload dX12_authorize_263 rfl ?_
                          refine M.bipush (v := 43) dX12_authorize_265 (by decide) ?_
                          refine M.icmp_ge (tgt := 305) dX12_authorize_267 (by decide) (fun c_267 => ?_) (fun c_267 => ?_)
                          · skip
                            have e1 := nI_gen (n := 43) c_267 h1 (by omega); subst e1
                            rw [List.take_of_length_le (i := 43) (l := (fv g 5)) (by omega)]
                            refine M.aload_nR dX12_authorize_305 rfl ?_
                            refine M.getr dX12_authorize_306 fl_X12_89 rfl rfl ?_
                            refine M.aload_nR dX12_authorize_309 rfl ?_
                            refine M.geti (v := nI (T 23).length) dX12_authorize_310 fl_X12_394 rfl rfl q_q.1 ?_
                            refine M.aload_nR dX12_authorize_313 rfl ?_
                            refine M.geti (v := nI (T 26).flatten.length) dX12_authorize_314 fl_X12_405 rfl rfl q_q.2.2.2.2.2.2.1 ?_
                            refine M.iast (k9 := 35) (j := (T 23).length) dX12_authorize_317 rfl rfl rfl (show (T 23).length < 200 by omega) ?_
                            refine M.aload_nR dX12_authorize_318 rfl ?_
                            refine M.getr dX12_authorize_319 fl_X12_92 rfl rfl ?_
                            refine M.aload_nR dX12_authorize_322 rfl ?_
                            refine M.geti (v := nI (T 23).length) dX12_authorize_323 fl_X12_394 rfl rfl q_q.1 ?_
                            refine M.aload_nR dX12_authorize_326 rfl ?_
                            refine M.iconst (v := 4) dX12_authorize_327 (by decide) ?_
                            refine M.callV [.int 4] dX12_authorize_328 mdX12_has imX12_has seX12_has lk_X12_260 rfl rfl rfl rfl (m_hasV hA (F := (updF (setF (updF (updF (updF (updF (f4 F a4 b4 c4 d4) 29 (T 23).length (nI (fnd (T 3) (fv g 1)))) 30 (T 23).length (nI r)) 31 (T 23).length (askS (T 2) (fv g 3) (ro (T 5) (fnd (T 3) (fv g 1)) 1))) 32 (T 23).length 1) 33 (updl (F 33) (43 * (T 23).length) (fv g 5))) 35 ((T 23).length) (nI (T 26).flatten.length))) hv9 (k := 4) (by decide)) ?_
                            rintro _ I9 F9 ⟨rfl, e9, e8⟩
                            have e9 := e9.symm; subst e9; have e8 := e8.symm; subst e8
                            refine M.if_eq (tgt := 343) dX12_authorize_331 (by decide) (fun c_331 => ?_) (fun c_331 => ?_)
                            · skip
                              have h4v := of_decide_eq_false ((bI_eq0 _).mp c_331)
                              refine M.iconst (v := 0) dX12_authorize_343 (by decide) ?_
                              refine M.iast (k9 := 36) (j := (T 23).length) dX12_authorize_344 rfl rfl rfl (show (T 23).length < 200 by omega) ?_
                              refine M.iconst (v := 0) dX12_authorize_345 (by decide) ?_
                              refine M.istore (L' := [some (.ref m), some (.int 1), some (.int (nI (fnd (T 3) (fv g 1)))), some (.int (nI r)), some (.int 0), some (.int 0)]) dX12_authorize_346 (by decide) rfl rfl ?_
                              refine M.iload dX12_authorize_348 rfl ?_
                              refine M.aload_nR dX12_authorize_350 rfl ?_
                              refine M.getr dX12_authorize_351 fl_X12_92 rfl rfl ?_
                              refine M.aload_nR dX12_authorize_354 rfl ?_
                              refine M.geti (v := nI (T 23).length) dX12_authorize_355 fl_X12_394 rfl rfl q_q.1 ?_
                              refine M.ialdv (k9 := 36) (j := (T 23).length) (g := upd (F 36) ((T 23).length) 0) (v := 0) dX12_authorize_358 rfl rfl rfl rfl (show (T 23).length < 200 by omega) pk_us ?_
                              refine M.icmp_ge (tgt := 394) dX12_authorize_359 (by decide) (fun c_359 => ?_) (fun c_359 => absurd (by decide) c_359)
                              refine M.aload_nR dX12_authorize_394 rfl ?_
                              refine M.dup dX12_authorize_395 rfl ?_
                              refine M.geti (v := nI (T 26).flatten.length) dX12_authorize_396 fl_X12_405 rfl rfl q_q.2.2.2.2.2.2.1 ?_
                              refine M.aload_nR dX12_authorize_399 rfl ?_
                              refine M.getr dX12_authorize_400 fl_X12_92 rfl rfl ?_
                              refine M.aload_nR dX12_authorize_403 rfl ?_
                              refine M.geti (v := nI (T 23).length) dX12_authorize_404 fl_X12_394 rfl rfl q_q.1 ?_
                              refine M.ialdv (k9 := 36) (j := (T 23).length) (g := upd (F 36) ((T 23).length) 0) (v := 0) dX12_authorize_407 rfl rfl rfl rfl (show (T 23).length < 200 by omega) pk_us ?_
                              refine M.iadd dX12_authorize_408 ?_
                              rw [show (nI (T 26).flatten.length) + 0 = nI ((T 26).flatten.length + (fv g 4).length) from (by rw [Int32.add_zero, show (fv g 4).length = 0 by omega, Nat.add_zero])]
                              refine M.puti dX12_authorize_409 fp_X12_405 rfl rfl ?_
                              refine M.aload_nR dX12_authorize_412 rfl ?_
                              refine M.sipush (v := 200) dX12_authorize_413 (by decide) ?_
                              refine M.iconst (v := 0) dX12_authorize_416 (by decide) ?_
                              refine M.callV [.int 200, .int 0] dX12_authorize_417 mdX12_ends imX12_ends seX12_ends lk_X12_328 rfl rfl rfl rfl (m_ends hA 200 0) ?_
                              rintro _ I9 F9 ⟨rfl, e9, e8⟩
                              have e9 := e9.symm; subst e9; have e8 := e8.symm; subst e8
                              refine M.aload_nR dX12_authorize_420 rfl ?_
                              refine M.dup dX12_authorize_421 rfl ?_
                              refine M.geti (v := nI (T 23).length) dX12_authorize_422 fl_X12_394 rfl rfl q_q.1 ?_
                              refine M.iconst (v := 1) dX12_authorize_425 (by decide) ?_
                              refine M.iadd dX12_authorize_426 ?_
                              rw [show (nI (T 23).length) + 1 = nI ((T 23).length + 1) from nI_1 _]
                              refine M.puti dX12_authorize_427 fp_X12_394 rfl rfl ?_
                              refine M.aload_nR dX12_authorize_430 rfl ?_
                              refine M.geti (v := nI ((T 23).length + 1)) dX12_authorize_431 fl_X12_394 rfl rfl rfl ?_
                              refine M.iconst (v := 1) dX12_authorize_434 (by decide) ?_
                              refine M.isub dX12_authorize_435 ?_
                              rw [show (nI ((T 23).length + 1)) - 1 = nI (T 23).length from nI_pred _]
                              refine M.iret dX12_authorize_436 rfl ?_
                              rw [opAuth, hfm]
                              show mP (opAuth1 N (setB B 0 []) T R g) _ _ _
                              rw [opAuth1, if_neg c_23, clS_at c_23, nI_clamp (by omega), if_neg (Int32.not_lt.mpr c_37), er, nI_clamp (by omega), opAuth2, hae]
                              rw [if_neg (by decide)]
                              exact ⟨rfl, rfl, ⟨rfl, rfl, q_a.2.2⟩, ⟨rfl, rfl⟩, ⟨rfl, rfl, q_n.2.2⟩, q_w, q_c, q_r, q_x, q_q.add w_q.2.1 w_q.2.2.1 hl5 rfl rfl rfl rfl rfl rfl rfl (by rw [show fv g 4 = [] from List.length_eq_zero_iff.mp (by omega), updl_nil]; rfl) rfl (by rw [show (fv g 4).length = 0 by omega]; rfl), q_k, q_f, q_t⟩
                            · skip
                              have h4v := of_decide_eq_true (bt1 c_331)
                              obtain ⟨i4, a41, a42, a43, a44, a45⟩ := hv9.at (k := 4) (by decide) h4v
                              refine M.aload_nR dX12_authorize_334 rfl ?_
                              refine M.getr dX12_authorize_335 fl_X12_161 rfl rfl ?_
                              refine M.iconst (v := 4) dX12_authorize_338 (by decide) ?_
                              refine M.ialdv (k9 := 65) (j := 4) (g := (f4 F a4 b4 c4 d4) 65) (v := nI (fv g 4).length) dX12_authorize_339 rfl rfl rfl rfl (show 4 < 13 by omega) a42 ?_
                              refine M.goto (tgt := 344) dX12_authorize_340 (by decide) ?_
                              refine M.iast (k9 := 36) (j := (T 23).length) dX12_authorize_344 rfl rfl rfl (show (T 23).length < 200 by omega) ?_
                              refine M.iconst (v := 0) dX12_authorize_345 (by decide) ?_
                              refine M.istore (L' := [some (.ref m), some (.int 1), some (.int (nI (fnd (T 3) (fv g 1)))), some (.int (nI r)), some (.int 0), some (.int 0)]) dX12_authorize_346 (by decide) rfl rfl ?_
                              have cut_348 : ∀ (k_348 : Nat) (k : Nat), (k ≤ (fv g 4).length) → ((fv g 4).length + 1 ≤ k + k_348) → M Λ X mX12_authorize m A (mP (opAuth N B T R)) (upd (upd (upd I 0 0) 2 0) 67 x9) (setF (updF (updF (setF (updF (updF (updF (updF (f4 F a4 b4 c4 d4) 29 (T 23).length (nI (fnd (T 3) (fv g 1)))) 30 (T 23).length (nI r)) 31 (T 23).length (askS (T 2) (fv g 3) (ro (T 5) (fnd (T 3) (fv g 1)) 1))) 32 (T 23).length 1) 33 (updl (F 33) (43 * (T 23).length) (fv g 5))) 35 (T 23).length (nI (T 26).flatten.length)) 36 (T 23).length (nI (fv g 4).length)) 34 (updl (F 34) (T 26).flatten.length ((fv g 4).take k))) 348 [some (.ref m), some (.int 1), some (.int (nI (fnd (T 3) (fv g 1)))), some (.int (nI r)), some (.int 0), some (.int (nI k))] [] := by
                                intro k_348
                                induction k_348 with
                                | zero => intro k h1 h2; exact absurd h2 (by omega)
                                | succ k_348 ih_348 =>
                                  intro k h1 h2
                                  have htl : ((fv g 4).take k).length = k := by rw [List.length_take, Nat.min_eq_left h1]
                                  refine M.iload dX12_authorize_348 rfl ?_
                                  refine M.aload_nR dX12_authorize_350 rfl ?_
                                  refine M.getr dX12_authorize_351 fl_X12_92 rfl rfl ?_
                                  refine M.aload_nR dX12_authorize_354 rfl ?_
                                  refine M.geti (v := nI (T 23).length) dX12_authorize_355 fl_X12_394 rfl rfl q_q.1 ?_
                                  refine M.ialdv (k9 := 36) (j := (T 23).length) (g := (updF (updF (setF (updF (updF (updF (updF (f4 F a4 b4 c4 d4) 29 (T 23).length (nI (fnd (T 3) (fv g 1)))) 30 (T 23).length (nI r)) 31 (T 23).length (askS (T 2) (fv g 3) (ro (T 5) (fnd (T 3) (fv g 1)) 1))) 32 (T 23).length 1) 33 (updl (F 33) (43 * (T 23).length) (fv g 5))) 35 (T 23).length (nI (T 26).flatten.length)) 36 (T 23).length (nI (fv g 4).length)) 36) (v := nI (fv g 4).length) dX12_authorize_358 rfl rfl rfl rfl (show (T 23).length < 200 by omega) pk_us ?_
                                  refine M.icmp_ge (tgt := 394) dX12_authorize_359 (by decide) (fun c_359 => ?_) (fun c_359 => ?_)
                                  · skip
                                    have e1 := nI_gen c_359 h1 (by omega); subst e1
                                    rw [List.take_length]
                                    refine M.aload_nR dX12_authorize_394 rfl ?_
                                    refine M.dup dX12_authorize_395 rfl ?_
                                    refine M.geti (v := nI (T 26).flatten.length) dX12_authorize_396 fl_X12_405 rfl rfl q_q.2.2.2.2.2.2.1 ?_
                                    refine M.aload_nR dX12_authorize_399 rfl ?_
                                    refine M.getr dX12_authorize_400 fl_X12_92 rfl rfl ?_
                                    refine M.aload_nR dX12_authorize_403 rfl ?_
                                    refine M.geti (v := nI (T 23).length) dX12_authorize_404 fl_X12_394 rfl rfl q_q.1 ?_
                                    refine M.ialdv (k9 := 36) (j := (T 23).length) (g := (updF (updF (setF (updF (updF (updF (updF (f4 F a4 b4 c4 d4) 29 (T 23).length (nI (fnd (T 3) (fv g 1)))) 30 (T 23).length (nI r)) 31 (T 23).length (askS (T 2) (fv g 3) (ro (T 5) (fnd (T 3) (fv g 1)) 1))) 32 (T 23).length 1) 33 (updl (F 33) (43 * (T 23).length) (fv g 5))) 35 (T 23).length (nI (T 26).flatten.length)) 36 (T 23).length (nI (fv g 4).length)) 36) (v := nI (fv g 4).length) dX12_authorize_407 rfl rfl rfl rfl (show (T 23).length < 200 by omega) pk_us ?_
                                    refine M.iadd dX12_authorize_408 ?_
                                    rw [show (nI (T 26).flatten.length) + (nI (fv g 4).length) = nI ((T 26).flatten.length + (fv g 4).length) from nI_add (T 26).flatten.length (fv g 4).length]
                                    refine M.puti dX12_authorize_409 fp_X12_405 rfl rfl ?_
                                    refine M.aload_nR dX12_authorize_412 rfl ?_
                                    refine M.sipush (v := 200) dX12_authorize_413 (by decide) ?_
                                    refine M.iconst (v := 0) dX12_authorize_416 (by decide) ?_
                                    refine M.callV [.int 200, .int 0] dX12_authorize_417 mdX12_ends imX12_ends seX12_ends lk_X12_328 rfl rfl rfl rfl (m_ends hA 200 0) ?_
                                    rintro _ I9 F9 ⟨rfl, e9, e8⟩
                                    have e9 := e9.symm; subst e9; have e8 := e8.symm; subst e8
                                    refine M.aload_nR dX12_authorize_420 rfl ?_
                                    refine M.dup dX12_authorize_421 rfl ?_
                                    refine M.geti (v := nI (T 23).length) dX12_authorize_422 fl_X12_394 rfl rfl q_q.1 ?_
                                    refine M.iconst (v := 1) dX12_authorize_425 (by decide) ?_
                                    refine M.iadd dX12_authorize_426 ?_
                                    rw [show (nI (T 23).length) + 1 = nI ((T 23).length + 1) from nI_1 _]
                                    refine M.puti dX12_authorize_427 fp_X12_394 rfl rfl ?_
                                    refine M.aload_nR dX12_authorize_430 rfl ?_
                                    refine M.geti (v := nI ((T 23).length + 1)) dX12_authorize_431 fl_X12_394 rfl rfl rfl ?_
                                    refine M.iconst (v := 1) dX12_authorize_434 (by decide) ?_
                                    refine M.isub dX12_authorize_435 ?_
                                    rw [show (nI ((T 23).length + 1)) - 1 = nI (T 23).length from nI_pred _]
                                    refine M.iret dX12_authorize_436 rfl ?_
                                    rw [opAuth, hfm]
                                    show mP (opAuth1 N (setB B 0 []) T R g) _ _ _
                                    rw [opAuth1, if_neg c_23, clS_at c_23, nI_clamp (by omega), if_neg (Int32.not_lt.mpr c_37), er, nI_clamp (by omega), opAuth2, hae]
                                    rw [if_neg (by decide)]
                                    exact ⟨rfl, rfl, ⟨rfl, rfl, q_a.2.2⟩, ⟨rfl, rfl⟩, ⟨rfl, rfl, q_n.2.2⟩, q_w, q_c, q_r, q_x, q_q.add w_q.2.1 w_q.2.2.1 hl5 rfl rfl rfl rfl rfl rfl rfl rfl rfl rfl, q_k, q_f, q_t⟩
                                  · skip
                                    have lt_k : k < (fv g 4).length := nI_ltn c_359 (by omega) (by omega)
                                    refine M.aload_nR dX12_authorize_362 rfl ?_
                                    refine M.getr dX12_authorize_363 fl_X12_86 rfl rfl ?_
                                    refine M.aload_nR dX12_authorize_366 rfl ?_
                                    refine M.geti (v := nI (T 26).flatten.length) dX12_authorize_367 fl_X12_405 rfl rfl q_q.2.2.2.2.2.2.1 ?_
                                    refine M.iload dX12_authorize_370 rfl ?_
                                    refine M.iadd dX12_authorize_372 ?_
                                    rw [show (nI (T 26).flatten.length) + (nI k) = nI ((T 26).flatten.length + k) from nI_add ((T 26).flatten.length) k]
                                    refine M.aload_nR dX12_authorize_373 rfl ?_
                                    refine M.getr dX12_authorize_374 fl_X12_155 rfl rfl ?_
                                    refine M.aload_nR dX12_authorize_377 rfl ?_
                                    refine M.getr dX12_authorize_378 fl_X12_158 rfl rfl ?_
                                    refine M.iconst (v := 4) dX12_authorize_381 (by decide) ?_
                                    refine M.ialdv (k9 := 64) (j := 4) (g := (f4 F a4 b4 c4 d4) 64) (v := nI i4) dX12_authorize_382 rfl rfl rfl rfl (show 4 < 13 by omega) a41 ?_
                                    refine M.iload dX12_authorize_383 rfl ?_
                                    refine M.iadd dX12_authorize_385 ?_
                                    rw [show (nI i4) + (nI k) = nI (i4 + k) from nI_add i4 k]
                                    refine M.baldv (k9 := 63) (j := i4 + k) (g := (f4 F a4 b4 c4 d4) 63) (v := (fv g 4).getD k 0) dX12_authorize_386 rfl rfl rfl rfl (show i4 + k < 2000 by omega) (tl_bs.mp a44 k lt_k) ?_
                                    refine M.bast1 (k9 := 34) (j := (T 26).flatten.length + ((fv g 4).take k).length) dX12_authorize_387 rfl rfl (by rw [htl]) (show (T 26).flatten.length + ((fv g 4).take k).length < 400000 by rw [htl]; omega) (bts_at a45 lt_k) ?_
                                    rw [updF_set, updl_snoc, ← take_at lt_k]
                                    refine M.iinc (v := nI (k + 1)) (L' := [some (.ref m), some (.int 1), some (.int (nI (fnd (T 3) (fv g 1)))), some (.int (nI r)), some (.int 0), some (.int (nI (k + 1)))]) dX12_authorize_388 rfl (nI_1 k) (by decide) rfl rfl ?_
                                    refine M.goto (tgt := 348) dX12_authorize_391 (by decide) ?_
                                    exact ih_348 (k + 1) (by omega) (by omega)
                              have t9 := cut_348 ((fv g 4).length + 1) 0 (by omega) (by omega)
                              rw [List.take_zero, updl_nil, show setF (updF (updF (setF (updF (updF (updF (updF (f4 F a4 b4 c4 d4) 29 (T 23).length (nI (fnd (T 3) (fv g 1)))) 30 (T 23).length (nI r)) 31 (T 23).length (askS (T 2) (fv g 3) (ro (T 5) (fnd (T 3) (fv g 1)) 1))) 32 (T 23).length 1) 33 (updl (F 33) (43 * (T 23).length) (fv g 5))) 35 (T 23).length (nI (T 26).flatten.length)) 36 (T 23).length (nI (fv g 4).length)) 34 (F 34) = (updF (updF (setF (updF (updF (updF (updF (f4 F a4 b4 c4 d4) 29 (T 23).length (nI (fnd (T 3) (fv g 1)))) 30 (T 23).length (nI r)) 31 (T 23).length (askS (T 2) (fv g 3) (ro (T 5) (fnd (T 3) (fv g 1)) 1))) 32 (T 23).length 1) 33 (updl (F 33) (43 * (T 23).length) (fv g 5))) 35 (T 23).length (nI (T 26).flatten.length)) 36 (T 23).length (nI (fv g 4).length)) from setF_self (updF (updF (setF (updF (updF (updF (updF (f4 F a4 b4 c4 d4) 29 (T 23).length (nI (fnd (T 3) (fv g 1)))) 30 (T 23).length (nI r)) 31 (T 23).length (askS (T 2) (fv g 3) (ro (T 5) (fnd (T 3) (fv g 1)) 1))) 32 (T 23).length 1) 33 (updl (F 33) (43 * (T 23).length) (fv g 5))) 35 (T 23).length (nI (T 26).flatten.length)) 36 (T 23).length (nI (fv g 4).length)) 34] at t9
                              exact t9
                          · skip
                            have lt_k : k < 43 := nI_ltn (n := 43) c_267 (by omega) (by omega)
                            refine M.aload_nR dX12_authorize_270 rfl ?_
                            refine M.getr dX12_authorize_271 fl_X12_82 rfl rfl ?_
                            refine M.bipush (v := 43) dX12_authorize_274 (by decide) ?_
                            refine M.aload_nR dX12_authorize_276 rfl ?_
                            refine M.geti (v := nI (T 23).length) dX12_authorize_277 fl_X12_394 rfl rfl q_q.1 ?_
                            refine M.imul dX12_authorize_280 ?_
                            rw [show 43 * (nI (T 23).length) = nI (43 * (T 23).length) from nI_mulc 43 ((T 23).length)]
                            refine M.iload dX12_authorize_281 rfl ?_
                            refine M.iadd dX12_authorize_283 ?_
                            rw [show (nI (43 * (T 23).length)) + (nI k) = nI (43 * (T 23).length + k) from nI_add (43 * (T 23).length) k]
                            refine M.aload_nR dX12_authorize_284 rfl ?_
                            refine M.getr dX12_authorize_285 fl_X12_155 rfl rfl ?_
                            refine M.aload_nR dX12_authorize_288 rfl ?_
                            refine M.getr dX12_authorize_289 fl_X12_158 rfl rfl ?_
                            refine M.iconst (v := 5) dX12_authorize_292 (by decide) ?_
                            refine M.ialdv (k9 := 64) (j := 5) (g := (f4 F a4 b4 c4 d4) 64) (v := nI i5) dX12_authorize_293 rfl rfl rfl rfl (show 5 < 13 by omega) a51 ?_
                            refine M.iload dX12_authorize_294 rfl ?_
                            refine M.iadd dX12_authorize_296 ?_
                            rw [show (nI i5) + (nI k) = nI (i5 + k) from nI_add i5 k]
                            refine M.baldv (k9 := 63) (j := i5 + k) (g := (f4 F a4 b4 c4 d4) 63) (v := (fv g 5).getD k 0) dX12_authorize_297 rfl rfl rfl rfl (show i5 + k < 2000 by omega) (tl_bs.mp a54 k (by omega)) ?_
                            refine M.bast1 (k9 := 33) (j := 43 * (T 23).length + ((fv g 5).take k).length) dX12_authorize_298 rfl rfl (by rw [htl]) (show 43 * (T 23).length + ((fv g 5).take k).length < 8600 by rw [htl]; omega) (bts_at a55 (by omega)) ?_
                            rw [updF_set, updl_snoc, ← take_at (by omega)]
                            refine M.iinc (v := nI (k + 1)) (L' := [some (.ref m), some (.int 1), some (.int (nI (fnd (T 3) (fv g 1)))), some (.int (nI r)), some (.int 0), some (.int (nI (k + 1)))]) dX12_authorize_299 rfl (nI_1 k) (by decide) rfl rfl ?_
                            refine M.goto (tgt := 263) dX12_authorize_302 (by decide) ?_
                            exact ih_263 (k + 1) (by omega) (by omega)
                      have t9 := cut_263 44 0 (by omega) (by omega)
                      rw [List.take_zero, updl_nil, show setF (updF (updF (updF (updF (f4 F a4 b4 c4 d4) 29 (T 23).length (nI (fnd (T 3) (fv g 1)))) 30 (T 23).length (nI r)) 31 (T 23).length (askS (T 2) (fv g 3) (ro (T 5) (fnd (T 3) (fv g 1)) 1))) 32 (T 23).length 1) 33 (F 33) = (updF (updF (updF (updF (f4 F a4 b4 c4 d4) 29 (T 23).length (nI (fnd (T 3) (fv g 1)))) 30 (T 23).length (nI r)) 31 (T 23).length (askS (T 2) (fv g 3) (ro (T 5) (fnd (T 3) (fv g 1)) 1))) 32 (T 23).length 1) from setF_self (updF (updF (updF (updF (f4 F a4 b4 c4 d4) 29 (T 23).length (nI (fnd (T 3) (fv g 1)))) 30 (T 23).length (nI r)) 31 (T 23).length (askS (T 2) (fv g 3) (ro (T 5) (fnd (T 3) (fv g 1)) 1))) 32 (T 23).length 1) 33] at t9
                      exact t9
                    · skip
                      have hae := autE_11 (T := T) (c := (fnd (T 3) (fv g 1))) h0_0 hcd hg3 (Int32.not_lt.mpr c_135) ((nI_eq (b := 200) (by omega) (by omega)).mp c_151)
                      refine M.bipush (v := 11) dX12_authorize_154 (by decide) ?_
                      refine M.istore (L' := [some (.ref m), some (.int 1), some (.int (nI (fnd (T 3) (fv g 1)))), some (.int (nI r)), some (.int 11), none]) dX12_authorize_156 (by decide) rfl rfl ?_
                      refine M.iload dX12_authorize_158 rfl ?_
                      refine M.if_le (tgt := 216) dX12_authorize_160 (by decide) (fun c_160 => absurd c_160 (by decide)) (fun c_160 => ?_)
                      refine M.aload_nR dX12_authorize_163 rfl ?_
                      refine M.sipush (v := 302) dX12_authorize_164 (by decide) ?_
                      refine M.iload dX12_authorize_167 rfl ?_
                      refine M.callV [.int 302, .int 11] dX12_authorize_169 mdX12_ends imX12_ends seX12_ends lk_X12_328 rfl rfl rfl rfl (m_ends hA 302 11) ?_
                      rintro _ I9 F9 ⟨rfl, e9, e8⟩
                      have e9 := e9.symm; subst e9; have e8 := e8.symm; subst e8
                      refine M.aload_nR dX12_authorize_172 rfl ?_
                      refine M.iload_n dX12_authorize_173 rfl ?_
                      refine M.iload_n dX12_authorize_174 rfl ?_
                      refine M.callV [.int (nI (fnd (T 3) (fv g 1))), .int (nI r)] dX12_authorize_175 mdX12_place imX12_place seX12_place lk_X12_397 rfl rfl rfl rfl (m_place hA (F := (f4 F a4 b4 c4 d4)) (c := (fnd (T 3) (fv g 1))) (by omega) hrd (r := r) hr hrt.2.2 rfl (by decide)) ?_
                      rintro _ I9 F9 ⟨rfl, e9, e8⟩
                      have e9 := e9.symm; subst e9; have e8 := e8.symm; subst e8
                      refine M.aload_nR dX12_authorize_178 rfl ?_
                      refine M.ldcwS dX12_authorize_179 sr_X12_400 ?_
                      refine M.callV [.ref (kSa Λ RX12 400)] dX12_authorize_182 mdX12_says imX12_says seX12_says lk_X12_334 rfl rfl rfl rfl (m_says hA (st_X12_400 hSt) sb_errorIs_b (mo_4 rfl) (by simp only [List.length_append, List.length_cons, List.length_nil, b64_len]; omega)) ?_
                      rintro _ I9 F9 ⟨rfl, e9, e8⟩
                      have e9 := e9.symm; subst e9; have e8 := e8.symm; subst e8
                      rw [mo_mo rfl, fo_fo rfl]
                      refine M.aload_nR dX12_authorize_185 rfl ?_
                      refine M.iload dX12_authorize_186 rfl ?_
                      refine M.callS [.int 11] dX12_authorize_188 mdX12_errorWord ssX12_errorWord lk_X12_338 rfl rfl rfl rfl (m_errorWord_11 hA) ?_
                      rintro _ I9 F9 ⟨rfl, e9, e8⟩
                      have e9 := e9.symm; subst e9; have e8 := e8.symm; subst e8
                      refine M.callV [.ref (kSa Λ RX12 320)] dX12_authorize_191 mdX12_says imX12_says seX12_says lk_X12_334 rfl rfl rfl rfl (m_says hA (st_X12_320 hSt) sb_temporarily_unavailable_b (mo_4 rfl) (by simp only [List.length_append, List.length_cons, List.length_nil, b64_len]; omega)) ?_
                      rintro _ I9 F9 ⟨rfl, e9, e8⟩
                      have e9 := e9.symm; subst e9; have e8 := e8.symm; subst e8
                      rw [mo_mo rfl, fo_fo rfl]
                      by_cases h4v : 0 < (fv g 4).length
                      · obtain ⟨i4, a41, a42, a43, a44, a45⟩ := hv9.at (k := 4) (by decide) h4v
                        refine M.aload_nR dX12_authorize_194 rfl ?_
                        refine M.aload_nR dX12_authorize_195 rfl ?_
                        refine M.getr dX12_authorize_196 fl_X12_155 rfl rfl ?_
                        refine M.aload_nR dX12_authorize_199 rfl ?_
                        refine M.getr dX12_authorize_200 fl_X12_158 rfl rfl ?_
                        refine M.iconst (v := 4) dX12_authorize_203 (by decide) ?_
                        refine M.ialdv (k9 := 64) (j := 4) (g := (f4 F a4 b4 c4 d4) 64) (v := nI i4) dX12_authorize_204 rfl rfl rfl rfl (show 4 < 13 by omega) a41 ?_
                        refine M.aload_nR dX12_authorize_205 rfl ?_
                        refine M.getr dX12_authorize_206 fl_X12_161 rfl rfl ?_
                        refine M.iconst (v := 4) dX12_authorize_209 (by decide) ?_
                        refine M.ialdv (k9 := 65) (j := 4) (g := (f4 F a4 b4 c4 d4) 65) (v := nI (fv g 4).length) dX12_authorize_210 rfl rfl rfl rfl (show 4 < 13 by omega) a42 ?_
                        refine M.callV [.ref (A 63), .int (nI i4), .int (nI (fv g 4).length)] dX12_authorize_211 mdX12_state imX12_state seX12_state lk_X12_402 rfl rfl rfl rfl (m_state hA hSt (F := (fo (f4 F a4 b4 c4 d4) 0 (((((R (fnd (T 3) (fv g 1))).getD r []) ++ [plc ((R (fnd (T 3) (fv g 1))).getD r [])]) ++ sb_errorIs) ++ sb_temporarily_unavailable))) (k1 := 63) rfl rfl (by decide) (i := i4) (v := fv g 4) a43 a44 h4v (by omega) (mo_4 rfl) (by simp only [List.length_append, List.length_cons, List.length_nil, b64_len]; omega)) ?_
                        rintro _ I9 F9 ⟨rfl, e9, e8⟩
                        have e9 := e9.symm; subst e9; have e8 := e8.symm; subst e8
                        rw [mo_mo rfl, fo_fo rfl]
                        refine M.iconst (v := (-1)) dX12_authorize_214 (by decide) ?_
                        refine M.iret dX12_authorize_215 rfl ?_
                        rw [opAuth, hfm]
                        show mP (opAuth1 N (setB B 0 []) T R g) _ _ _
                        rw [opAuth1, if_neg c_23, clS_at c_23, nI_clamp (by omega), if_neg (Int32.not_lt.mpr c_37), er, nI_clamp (by omega), opAuth2, hae]
                        rw [if_pos (by decide)]
                        exact ⟨rfl, rfl, ⟨rfl, rfl, q_a.2.2⟩, mRb.fo rfl rfl, ⟨rfl, rfl, q_n.2.2⟩, q_w, q_c, q_r, q_x, q_q, q_k, q_f, q_t⟩
                      · skip
                        refine M.aload_nR dX12_authorize_194 rfl ?_
                        refine M.aload_nR dX12_authorize_195 rfl ?_
                        refine M.getr dX12_authorize_196 fl_X12_155 rfl rfl ?_
                        refine M.aload_nR dX12_authorize_199 rfl ?_
                        refine M.getr dX12_authorize_200 fl_X12_158 rfl rfl ?_
                        refine M.iconst (v := 4) dX12_authorize_203 (by decide) ?_
                        refine M.iald (k9 := 64) (j := 4) (g := (f4 F a4 b4 c4 d4) 64) dX12_authorize_204 rfl rfl rfl rfl (show 4 < 13 by omega) ?_
                        refine M.aload_nR dX12_authorize_205 rfl ?_
                        refine M.getr dX12_authorize_206 fl_X12_161 rfl rfl ?_
                        refine M.iconst (v := 4) dX12_authorize_209 (by decide) ?_
                        refine M.iald (k9 := 65) (j := 4) (g := (f4 F a4 b4 c4 d4) 65) dX12_authorize_210 rfl rfl rfl rfl (show 4 < 13 by omega) ?_
                        refine M.callV [.ref (A 63), .int (((f4 F a4 b4 c4 d4) 64) 4), .int (((f4 F a4 b4 c4 d4) 65) 4)] dX12_authorize_211 mdX12_state imX12_state seX12_state lk_X12_402 rfl rfl rfl rfl (m_state0 hA (hv9.n1 (by decide) h4v)) ?_
                        rintro _ I9 F9 ⟨rfl, e9, e8⟩
                        have e9 := e9.symm; subst e9; have e8 := e8.symm; subst e8
                        refine M.iconst (v := (-1)) dX12_authorize_214 (by decide) ?_
                        refine M.iret dX12_authorize_215 rfl ?_
                        rw [opAuth, hfm]
                        show mP (opAuth1 N (setB B 0 []) T R g) _ _ _
                        rw [opAuth1, if_neg c_23, clS_at c_23, nI_clamp (by omega), if_neg (Int32.not_lt.mpr c_37), er, nI_clamp (by omega), opAuth2, hae]
                        rw [if_pos (by decide)]
                        rw [stS_nil h4v, List.append_nil]
                        exact ⟨rfl, rfl, ⟨rfl, rfl, q_a.2.2⟩, mRb.fo rfl rfl, ⟨rfl, rfl, q_n.2.2⟩, q_w, q_c, q_r, q_x, q_q, q_k, q_f, q_t⟩
                  · skip
                    have hae := autE_5 (T := T) (c := (fnd (T 3) (fv g 1))) h0_0 hcd hg3 (Int32.not_le.mp c_135)
                    refine M.iconst (v := 5) dX12_authorize_138 (by decide) ?_
                    refine M.istore (L' := [some (.ref m), some (.int 1), some (.int (nI (fnd (T 3) (fv g 1)))), some (.int (nI r)), some (.int 5), none]) dX12_authorize_139 (by decide) rfl rfl ?_
                    refine M.goto (tgt := 158) dX12_authorize_141 (by decide) ?_
                    refine M.iload dX12_authorize_158 rfl ?_
                    refine M.if_le (tgt := 216) dX12_authorize_160 (by decide) (fun c_160 => absurd c_160 (by decide)) (fun c_160 => ?_)
                    refine M.aload_nR dX12_authorize_163 rfl ?_
                    refine M.sipush (v := 302) dX12_authorize_164 (by decide) ?_
                    refine M.iload dX12_authorize_167 rfl ?_
                    refine M.callV [.int 302, .int 5] dX12_authorize_169 mdX12_ends imX12_ends seX12_ends lk_X12_328 rfl rfl rfl rfl (m_ends hA 302 5) ?_
                    rintro _ I9 F9 ⟨rfl, e9, e8⟩
                    have e9 := e9.symm; subst e9; have e8 := e8.symm; subst e8
                    refine M.aload_nR dX12_authorize_172 rfl ?_
                    refine M.iload_n dX12_authorize_173 rfl ?_
                    refine M.iload_n dX12_authorize_174 rfl ?_
                    refine M.callV [.int (nI (fnd (T 3) (fv g 1))), .int (nI r)] dX12_authorize_175 mdX12_place imX12_place seX12_place lk_X12_397 rfl rfl rfl rfl (m_place hA (F := (f4 F a4 b4 c4 d4)) (c := (fnd (T 3) (fv g 1))) (by omega) hrd (r := r) hr hrt.2.2 rfl (by decide)) ?_
                    rintro _ I9 F9 ⟨rfl, e9, e8⟩
                    have e9 := e9.symm; subst e9; have e8 := e8.symm; subst e8
                    refine M.aload_nR dX12_authorize_178 rfl ?_
                    refine M.ldcwS dX12_authorize_179 sr_X12_400 ?_
                    refine M.callV [.ref (kSa Λ RX12 400)] dX12_authorize_182 mdX12_says imX12_says seX12_says lk_X12_334 rfl rfl rfl rfl (m_says hA (st_X12_400 hSt) sb_errorIs_b (mo_4 rfl) (by simp only [List.length_append, List.length_cons, List.length_nil, b64_len]; omega)) ?_
                    rintro _ I9 F9 ⟨rfl, e9, e8⟩
                    have e9 := e9.symm; subst e9; have e8 := e8.symm; subst e8
                    rw [mo_mo rfl, fo_fo rfl]
                    refine M.aload_nR dX12_authorize_185 rfl ?_
                    refine M.iload dX12_authorize_186 rfl ?_
                    refine M.callS [.int 5] dX12_authorize_188 mdX12_errorWord ssX12_errorWord lk_X12_338 rfl rfl rfl rfl (m_errorWord_5 hA) ?_
                    rintro _ I9 F9 ⟨rfl, e9, e8⟩
                    have e9 := e9.symm; subst e9; have e8 := e8.symm; subst e8
                    refine M.callV [.ref (kSa Λ RX12 308)] dX12_authorize_191 mdX12_says imX12_says seX12_says lk_X12_334 rfl rfl rfl rfl (m_says hA (st_X12_308 hSt) sb_invalid_scope_b (mo_4 rfl) (by simp only [List.length_append, List.length_cons, List.length_nil, b64_len]; omega)) ?_
                    rintro _ I9 F9 ⟨rfl, e9, e8⟩
                    have e9 := e9.symm; subst e9; have e8 := e8.symm; subst e8
                    rw [mo_mo rfl, fo_fo rfl]
                    by_cases h4v : 0 < (fv g 4).length
                    · obtain ⟨i4, a41, a42, a43, a44, a45⟩ := hv9.at (k := 4) (by decide) h4v
                      refine M.aload_nR dX12_authorize_194 rfl ?_
                      refine M.aload_nR dX12_authorize_195 rfl ?_
                      refine M.getr dX12_authorize_196 fl_X12_155 rfl rfl ?_
                      refine M.aload_nR dX12_authorize_199 rfl ?_
                      refine M.getr dX12_authorize_200 fl_X12_158 rfl rfl ?_
                      refine M.iconst (v := 4) dX12_authorize_203 (by decide) ?_
                      refine M.ialdv (k9 := 64) (j := 4) (g := (f4 F a4 b4 c4 d4) 64) (v := nI i4) dX12_authorize_204 rfl rfl rfl rfl (show 4 < 13 by omega) a41 ?_
                      refine M.aload_nR dX12_authorize_205 rfl ?_
                      refine M.getr dX12_authorize_206 fl_X12_161 rfl rfl ?_
                      refine M.iconst (v := 4) dX12_authorize_209 (by decide) ?_
                      refine M.ialdv (k9 := 65) (j := 4) (g := (f4 F a4 b4 c4 d4) 65) (v := nI (fv g 4).length) dX12_authorize_210 rfl rfl rfl rfl (show 4 < 13 by omega) a42 ?_
                      refine M.callV [.ref (A 63), .int (nI i4), .int (nI (fv g 4).length)] dX12_authorize_211 mdX12_state imX12_state seX12_state lk_X12_402 rfl rfl rfl rfl (m_state hA hSt (F := (fo (f4 F a4 b4 c4 d4) 0 (((((R (fnd (T 3) (fv g 1))).getD r []) ++ [plc ((R (fnd (T 3) (fv g 1))).getD r [])]) ++ sb_errorIs) ++ sb_invalid_scope))) (k1 := 63) rfl rfl (by decide) (i := i4) (v := fv g 4) a43 a44 h4v (by omega) (mo_4 rfl) (by simp only [List.length_append, List.length_cons, List.length_nil, b64_len]; omega)) ?_
                      rintro _ I9 F9 ⟨rfl, e9, e8⟩
                      have e9 := e9.symm; subst e9; have e8 := e8.symm; subst e8
                      rw [mo_mo rfl, fo_fo rfl]
                      refine M.iconst (v := (-1)) dX12_authorize_214 (by decide) ?_
                      refine M.iret dX12_authorize_215 rfl ?_
                      rw [opAuth, hfm]
                      show mP (opAuth1 N (setB B 0 []) T R g) _ _ _
                      rw [opAuth1, if_neg c_23, clS_at c_23, nI_clamp (by omega), if_neg (Int32.not_lt.mpr c_37), er, nI_clamp (by omega), opAuth2, hae]
                      rw [if_pos (by decide)]
                      exact ⟨rfl, rfl, ⟨rfl, rfl, q_a.2.2⟩, mRb.fo rfl rfl, ⟨rfl, rfl, q_n.2.2⟩, q_w, q_c, q_r, q_x, q_q, q_k, q_f, q_t⟩
                    · skip
                      refine M.aload_nR dX12_authorize_194 rfl ?_
                      refine M.aload_nR dX12_authorize_195 rfl ?_
                      refine M.getr dX12_authorize_196 fl_X12_155 rfl rfl ?_
                      refine M.aload_nR dX12_authorize_199 rfl ?_
                      refine M.getr dX12_authorize_200 fl_X12_158 rfl rfl ?_
                      refine M.iconst (v := 4) dX12_authorize_203 (by decide) ?_
                      refine M.iald (k9 := 64) (j := 4) (g := (f4 F a4 b4 c4 d4) 64) dX12_authorize_204 rfl rfl rfl rfl (show 4 < 13 by omega) ?_
                      refine M.aload_nR dX12_authorize_205 rfl ?_
                      refine M.getr dX12_authorize_206 fl_X12_161 rfl rfl ?_
                      refine M.iconst (v := 4) dX12_authorize_209 (by decide) ?_
                      refine M.iald (k9 := 65) (j := 4) (g := (f4 F a4 b4 c4 d4) 65) dX12_authorize_210 rfl rfl rfl rfl (show 4 < 13 by omega) ?_
                      refine M.callV [.ref (A 63), .int (((f4 F a4 b4 c4 d4) 64) 4), .int (((f4 F a4 b4 c4 d4) 65) 4)] dX12_authorize_211 mdX12_state imX12_state seX12_state lk_X12_402 rfl rfl rfl rfl (m_state0 hA (hv9.n1 (by decide) h4v)) ?_
                      rintro _ I9 F9 ⟨rfl, e9, e8⟩
                      have e9 := e9.symm; subst e9; have e8 := e8.symm; subst e8
                      refine M.iconst (v := (-1)) dX12_authorize_214 (by decide) ?_
                      refine M.iret dX12_authorize_215 rfl ?_
                      rw [opAuth, hfm]
                      show mP (opAuth1 N (setB B 0 []) T R g) _ _ _
                      rw [opAuth1, if_neg c_23, clS_at c_23, nI_clamp (by omega), if_neg (Int32.not_lt.mpr c_37), er, nI_clamp (by omega), opAuth2, hae]
                      rw [if_pos (by decide)]
                      rw [stS_nil h4v, List.append_nil]
                      exact ⟨rfl, rfl, ⟨rfl, rfl, q_a.2.2⟩, mRb.fo rfl rfl, ⟨rfl, rfl, q_n.2.2⟩, q_w, q_c, q_r, q_x, q_q, q_k, q_f, q_t⟩
                · skip
                  have hae := autE_1b (T := T) (c := (fnd (T 3) (fv g 1))) h0_0 hcd (by first | rw [(bI_eq0 _).mp c_100, Bool.false_and] | rw [(bI_eq0 _).mp c_121, Bool.and_false] | rw [decide_eq_false (p := fv g 6 = sb_S256) (fun q => of_decide_eq_false ((bI_eq0 _).mp c_109) (by rw [q]; decide)), Bool.and_false])
                  refine M.iconst (v := 1) dX12_authorize_124 (by decide) ?_
                  refine M.istore (L' := [some (.ref m), some (.int 1), some (.int (nI (fnd (T 3) (fv g 1)))), some (.int (nI r)), some (.int 1), none]) dX12_authorize_125 (by decide) rfl rfl ?_
                  refine M.goto (tgt := 158) dX12_authorize_127 (by decide) ?_
                  refine M.iload dX12_authorize_158 rfl ?_
                  refine M.if_le (tgt := 216) dX12_authorize_160 (by decide) (fun c_160 => absurd c_160 (by decide)) (fun c_160 => ?_)
                  refine M.aload_nR dX12_authorize_163 rfl ?_
                  refine M.sipush (v := 302) dX12_authorize_164 (by decide) ?_
                  refine M.iload dX12_authorize_167 rfl ?_
                  refine M.callV [.int 302, .int 1] dX12_authorize_169 mdX12_ends imX12_ends seX12_ends lk_X12_328 rfl rfl rfl rfl (m_ends hA 302 1) ?_
                  rintro _ I9 F9 ⟨rfl, e9, e8⟩
                  have e9 := e9.symm; subst e9; have e8 := e8.symm; subst e8
                  refine M.aload_nR dX12_authorize_172 rfl ?_
                  refine M.iload_n dX12_authorize_173 rfl ?_
                  refine M.iload_n dX12_authorize_174 rfl ?_
                  refine M.callV [.int (nI (fnd (T 3) (fv g 1))), .int (nI r)] dX12_authorize_175 mdX12_place imX12_place seX12_place lk_X12_397 rfl rfl rfl rfl (m_place hA (F := (f4 F a4 b4 c4 d4)) (c := (fnd (T 3) (fv g 1))) (by omega) hrd (r := r) hr hrt.2.2 rfl (by decide)) ?_
                  rintro _ I9 F9 ⟨rfl, e9, e8⟩
                  have e9 := e9.symm; subst e9; have e8 := e8.symm; subst e8
                  refine M.aload_nR dX12_authorize_178 rfl ?_
                  refine M.ldcwS dX12_authorize_179 sr_X12_400 ?_
                  refine M.callV [.ref (kSa Λ RX12 400)] dX12_authorize_182 mdX12_says imX12_says seX12_says lk_X12_334 rfl rfl rfl rfl (m_says hA (st_X12_400 hSt) sb_errorIs_b (mo_4 rfl) (by simp only [List.length_append, List.length_cons, List.length_nil, b64_len]; omega)) ?_
                  rintro _ I9 F9 ⟨rfl, e9, e8⟩
                  have e9 := e9.symm; subst e9; have e8 := e8.symm; subst e8
                  rw [mo_mo rfl, fo_fo rfl]
                  refine M.aload_nR dX12_authorize_185 rfl ?_
                  refine M.iload dX12_authorize_186 rfl ?_
                  refine M.callS [.int 1] dX12_authorize_188 mdX12_errorWord ssX12_errorWord lk_X12_338 rfl rfl rfl rfl (m_errorWord_1 hA) ?_
                  rintro _ I9 F9 ⟨rfl, e9, e8⟩
                  have e9 := e9.symm; subst e9; have e8 := e8.symm; subst e8
                  refine M.callV [.ref (kSa Λ RX12 302)] dX12_authorize_191 mdX12_says imX12_says seX12_says lk_X12_334 rfl rfl rfl rfl (m_says hA (st_X12_302 hSt) sb_invalid_request_b (mo_4 rfl) (by simp only [List.length_append, List.length_cons, List.length_nil, b64_len]; omega)) ?_
                  rintro _ I9 F9 ⟨rfl, e9, e8⟩
                  have e9 := e9.symm; subst e9; have e8 := e8.symm; subst e8
                  rw [mo_mo rfl, fo_fo rfl]
                  by_cases h4v : 0 < (fv g 4).length
                  · obtain ⟨i4, a41, a42, a43, a44, a45⟩ := hv9.at (k := 4) (by decide) h4v
                    refine M.aload_nR dX12_authorize_194 rfl ?_
                    refine M.aload_nR dX12_authorize_195 rfl ?_
                    refine M.getr dX12_authorize_196 fl_X12_155 rfl rfl ?_
                    refine M.aload_nR dX12_authorize_199 rfl ?_
                    refine M.getr dX12_authorize_200 fl_X12_158 rfl rfl ?_
                    refine M.iconst (v := 4) dX12_authorize_203 (by decide) ?_
                    refine M.ialdv (k9 := 64) (j := 4) (g := (f4 F a4 b4 c4 d4) 64) (v := nI i4) dX12_authorize_204 rfl rfl rfl rfl (show 4 < 13 by omega) a41 ?_
                    refine M.aload_nR dX12_authorize_205 rfl ?_
                    refine M.getr dX12_authorize_206 fl_X12_161 rfl rfl ?_
                    refine M.iconst (v := 4) dX12_authorize_209 (by decide) ?_
                    refine M.ialdv (k9 := 65) (j := 4) (g := (f4 F a4 b4 c4 d4) 65) (v := nI (fv g 4).length) dX12_authorize_210 rfl rfl rfl rfl (show 4 < 13 by omega) a42 ?_
                    refine M.callV [.ref (A 63), .int (nI i4), .int (nI (fv g 4).length)] dX12_authorize_211 mdX12_state imX12_state seX12_state lk_X12_402 rfl rfl rfl rfl (m_state hA hSt (F := (fo (f4 F a4 b4 c4 d4) 0 (((((R (fnd (T 3) (fv g 1))).getD r []) ++ [plc ((R (fnd (T 3) (fv g 1))).getD r [])]) ++ sb_errorIs) ++ sb_invalid_request))) (k1 := 63) rfl rfl (by decide) (i := i4) (v := fv g 4) a43 a44 h4v (by omega) (mo_4 rfl) (by simp only [List.length_append, List.length_cons, List.length_nil, b64_len]; omega)) ?_
                    rintro _ I9 F9 ⟨rfl, e9, e8⟩
                    have e9 := e9.symm; subst e9; have e8 := e8.symm; subst e8
                    rw [mo_mo rfl, fo_fo rfl]
                    refine M.iconst (v := (-1)) dX12_authorize_214 (by decide) ?_
                    refine M.iret dX12_authorize_215 rfl ?_
                    rw [opAuth, hfm]
                    show mP (opAuth1 N (setB B 0 []) T R g) _ _ _
                    rw [opAuth1, if_neg c_23, clS_at c_23, nI_clamp (by omega), if_neg (Int32.not_lt.mpr c_37), er, nI_clamp (by omega), opAuth2, hae]
                    rw [if_pos (by decide)]
                    exact ⟨rfl, rfl, ⟨rfl, rfl, q_a.2.2⟩, mRb.fo rfl rfl, ⟨rfl, rfl, q_n.2.2⟩, q_w, q_c, q_r, q_x, q_q, q_k, q_f, q_t⟩
                  · skip
                    refine M.aload_nR dX12_authorize_194 rfl ?_
                    refine M.aload_nR dX12_authorize_195 rfl ?_
                    refine M.getr dX12_authorize_196 fl_X12_155 rfl rfl ?_
                    refine M.aload_nR dX12_authorize_199 rfl ?_
                    refine M.getr dX12_authorize_200 fl_X12_158 rfl rfl ?_
                    refine M.iconst (v := 4) dX12_authorize_203 (by decide) ?_
                    refine M.iald (k9 := 64) (j := 4) (g := (f4 F a4 b4 c4 d4) 64) dX12_authorize_204 rfl rfl rfl rfl (show 4 < 13 by omega) ?_
                    refine M.aload_nR dX12_authorize_205 rfl ?_
                    refine M.getr dX12_authorize_206 fl_X12_161 rfl rfl ?_
                    refine M.iconst (v := 4) dX12_authorize_209 (by decide) ?_
                    refine M.iald (k9 := 65) (j := 4) (g := (f4 F a4 b4 c4 d4) 65) dX12_authorize_210 rfl rfl rfl rfl (show 4 < 13 by omega) ?_
                    refine M.callV [.ref (A 63), .int (((f4 F a4 b4 c4 d4) 64) 4), .int (((f4 F a4 b4 c4 d4) 65) 4)] dX12_authorize_211 mdX12_state imX12_state seX12_state lk_X12_402 rfl rfl rfl rfl (m_state0 hA (hv9.n1 (by decide) h4v)) ?_
                    rintro _ I9 F9 ⟨rfl, e9, e8⟩
                    have e9 := e9.symm; subst e9; have e8 := e8.symm; subst e8
                    refine M.iconst (v := (-1)) dX12_authorize_214 (by decide) ?_
                    refine M.iret dX12_authorize_215 rfl ?_
                    rw [opAuth, hfm]
                    show mP (opAuth1 N (setB B 0 []) T R g) _ _ _
                    rw [opAuth1, if_neg c_23, clS_at c_23, nI_clamp (by omega), if_neg (Int32.not_lt.mpr c_37), er, nI_clamp (by omega), opAuth2, hae]
                    rw [if_pos (by decide)]
                    rw [stS_nil h4v, List.append_nil]
                    exact ⟨rfl, rfl, ⟨rfl, rfl, q_a.2.2⟩, mRb.fo rfl rfl, ⟨rfl, rfl, q_n.2.2⟩, q_w, q_c, q_r, q_x, q_q, q_k, q_f, q_t⟩
          · skip
            have hae := autE_4 (T := T) (c := (fnd (T 3) (fv g 1))) h0_0 (of_decide_eq_false ((bI_eq0 _).mp c_87))
            refine M.iconst (v := 4) dX12_authorize_90 (by decide) ?_
            refine M.istore (L' := [some (.ref m), some (.int 1), some (.int (nI (fnd (T 3) (fv g 1)))), some (.int (nI r)), some (.int 4), none]) dX12_authorize_91 (by decide) rfl rfl ?_
            refine M.goto (tgt := 158) dX12_authorize_93 (by decide) ?_
            refine M.iload dX12_authorize_158 rfl ?_
            refine M.if_le (tgt := 216) dX12_authorize_160 (by decide) (fun c_160 => absurd c_160 (by decide)) (fun c_160 => ?_)
            refine M.aload_nR dX12_authorize_163 rfl ?_
            refine M.sipush (v := 302) dX12_authorize_164 (by decide) ?_
            refine M.iload dX12_authorize_167 rfl ?_
            refine M.callV [.int 302, .int 4] dX12_authorize_169 mdX12_ends imX12_ends seX12_ends lk_X12_328 rfl rfl rfl rfl (m_ends hA 302 4) ?_
            rintro _ I9 F9 ⟨rfl, e9, e8⟩
            have e9 := e9.symm; subst e9; have e8 := e8.symm; subst e8
            refine M.aload_nR dX12_authorize_172 rfl ?_
            refine M.iload_n dX12_authorize_173 rfl ?_
            refine M.iload_n dX12_authorize_174 rfl ?_
            refine M.callV [.int (nI (fnd (T 3) (fv g 1))), .int (nI r)] dX12_authorize_175 mdX12_place imX12_place seX12_place lk_X12_397 rfl rfl rfl rfl (m_place hA (F := (f4 F a4 b4 c4 d4)) (c := (fnd (T 3) (fv g 1))) (by omega) hrd (r := r) hr hrt.2.2 rfl (by decide)) ?_
            rintro _ I9 F9 ⟨rfl, e9, e8⟩
            have e9 := e9.symm; subst e9; have e8 := e8.symm; subst e8
            refine M.aload_nR dX12_authorize_178 rfl ?_
            refine M.ldcwS dX12_authorize_179 sr_X12_400 ?_
            refine M.callV [.ref (kSa Λ RX12 400)] dX12_authorize_182 mdX12_says imX12_says seX12_says lk_X12_334 rfl rfl rfl rfl (m_says hA (st_X12_400 hSt) sb_errorIs_b (mo_4 rfl) (by simp only [List.length_append, List.length_cons, List.length_nil, b64_len]; omega)) ?_
            rintro _ I9 F9 ⟨rfl, e9, e8⟩
            have e9 := e9.symm; subst e9; have e8 := e8.symm; subst e8
            rw [mo_mo rfl, fo_fo rfl]
            refine M.aload_nR dX12_authorize_185 rfl ?_
            refine M.iload dX12_authorize_186 rfl ?_
            refine M.callS [.int 4] dX12_authorize_188 mdX12_errorWord ssX12_errorWord lk_X12_338 rfl rfl rfl rfl (m_errorWord_4 hA) ?_
            rintro _ I9 F9 ⟨rfl, e9, e8⟩
            have e9 := e9.symm; subst e9; have e8 := e8.symm; subst e8
            refine M.callV [.ref (kSa Λ RX12 306)] dX12_authorize_191 mdX12_says imX12_says seX12_says lk_X12_334 rfl rfl rfl rfl (m_says hA (st_X12_306 hSt) sb_unsupported_response_type_b (mo_4 rfl) (by simp only [List.length_append, List.length_cons, List.length_nil, b64_len]; omega)) ?_
            rintro _ I9 F9 ⟨rfl, e9, e8⟩
            have e9 := e9.symm; subst e9; have e8 := e8.symm; subst e8
            rw [mo_mo rfl, fo_fo rfl]
            by_cases h4v : 0 < (fv g 4).length
            · obtain ⟨i4, a41, a42, a43, a44, a45⟩ := hv9.at (k := 4) (by decide) h4v
              refine M.aload_nR dX12_authorize_194 rfl ?_
              refine M.aload_nR dX12_authorize_195 rfl ?_
              refine M.getr dX12_authorize_196 fl_X12_155 rfl rfl ?_
              refine M.aload_nR dX12_authorize_199 rfl ?_
              refine M.getr dX12_authorize_200 fl_X12_158 rfl rfl ?_
              refine M.iconst (v := 4) dX12_authorize_203 (by decide) ?_
              refine M.ialdv (k9 := 64) (j := 4) (g := (f4 F a4 b4 c4 d4) 64) (v := nI i4) dX12_authorize_204 rfl rfl rfl rfl (show 4 < 13 by omega) a41 ?_
              refine M.aload_nR dX12_authorize_205 rfl ?_
              refine M.getr dX12_authorize_206 fl_X12_161 rfl rfl ?_
              refine M.iconst (v := 4) dX12_authorize_209 (by decide) ?_
              refine M.ialdv (k9 := 65) (j := 4) (g := (f4 F a4 b4 c4 d4) 65) (v := nI (fv g 4).length) dX12_authorize_210 rfl rfl rfl rfl (show 4 < 13 by omega) a42 ?_
              refine M.callV [.ref (A 63), .int (nI i4), .int (nI (fv g 4).length)] dX12_authorize_211 mdX12_state imX12_state seX12_state lk_X12_402 rfl rfl rfl rfl (m_state hA hSt (F := (fo (f4 F a4 b4 c4 d4) 0 (((((R (fnd (T 3) (fv g 1))).getD r []) ++ [plc ((R (fnd (T 3) (fv g 1))).getD r [])]) ++ sb_errorIs) ++ sb_unsupported_response_type))) (k1 := 63) rfl rfl (by decide) (i := i4) (v := fv g 4) a43 a44 h4v (by omega) (mo_4 rfl) (by simp only [List.length_append, List.length_cons, List.length_nil, b64_len]; omega)) ?_
              rintro _ I9 F9 ⟨rfl, e9, e8⟩
              have e9 := e9.symm; subst e9; have e8 := e8.symm; subst e8
              rw [mo_mo rfl, fo_fo rfl]
              refine M.iconst (v := (-1)) dX12_authorize_214 (by decide) ?_
              refine M.iret dX12_authorize_215 rfl ?_
              rw [opAuth, hfm]
              show mP (opAuth1 N (setB B 0 []) T R g) _ _ _
              rw [opAuth1, if_neg c_23, clS_at c_23, nI_clamp (by omega), if_neg (Int32.not_lt.mpr c_37), er, nI_clamp (by omega), opAuth2, hae]
              rw [if_pos (by decide)]
              exact ⟨rfl, rfl, ⟨rfl, rfl, q_a.2.2⟩, mRb.fo rfl rfl, ⟨rfl, rfl, q_n.2.2⟩, q_w, q_c, q_r, q_x, q_q, q_k, q_f, q_t⟩
            · skip
              refine M.aload_nR dX12_authorize_194 rfl ?_
              refine M.aload_nR dX12_authorize_195 rfl ?_
              refine M.getr dX12_authorize_196 fl_X12_155 rfl rfl ?_
              refine M.aload_nR dX12_authorize_199 rfl ?_
              refine M.getr dX12_authorize_200 fl_X12_158 rfl rfl ?_
              refine M.iconst (v := 4) dX12_authorize_203 (by decide) ?_
              refine M.iald (k9 := 64) (j := 4) (g := (f4 F a4 b4 c4 d4) 64) dX12_authorize_204 rfl rfl rfl rfl (show 4 < 13 by omega) ?_
              refine M.aload_nR dX12_authorize_205 rfl ?_
              refine M.getr dX12_authorize_206 fl_X12_161 rfl rfl ?_
              refine M.iconst (v := 4) dX12_authorize_209 (by decide) ?_
              refine M.iald (k9 := 65) (j := 4) (g := (f4 F a4 b4 c4 d4) 65) dX12_authorize_210 rfl rfl rfl rfl (show 4 < 13 by omega) ?_
              refine M.callV [.ref (A 63), .int (((f4 F a4 b4 c4 d4) 64) 4), .int (((f4 F a4 b4 c4 d4) 65) 4)] dX12_authorize_211 mdX12_state imX12_state seX12_state lk_X12_402 rfl rfl rfl rfl (m_state0 hA (hv9.n1 (by decide) h4v)) ?_
              rintro _ I9 F9 ⟨rfl, e9, e8⟩
              have e9 := e9.symm; subst e9; have e8 := e8.symm; subst e8
              refine M.iconst (v := (-1)) dX12_authorize_214 (by decide) ?_
              refine M.iret dX12_authorize_215 rfl ?_
              rw [opAuth, hfm]
              show mP (opAuth1 N (setB B 0 []) T R g) _ _ _
              rw [opAuth1, if_neg c_23, clS_at c_23, nI_clamp (by omega), if_neg (Int32.not_lt.mpr c_37), er, nI_clamp (by omega), opAuth2, hae]
              rw [if_pos (by decide)]
              rw [stS_nil h4v, List.append_nil]
              exact ⟨rfl, rfl, ⟨rfl, rfl, q_a.2.2⟩, mRb.fo rfl rfl, ⟨rfl, rfl, q_n.2.2⟩, q_w, q_c, q_r, q_x, q_q, q_k, q_f, q_t⟩
        · skip
          have h0n := of_decide_eq_false ((bI_eq0 _).mp c_71)
          have hae := autE_1 (T := T) (c := (fnd (T 3) (fv g 1))) h0n
          refine M.iconst (v := 1) dX12_authorize_74 (by decide) ?_
          refine M.istore (L' := [some (.ref m), some (.int 1), some (.int (nI (fnd (T 3) (fv g 1)))), some (.int (nI r)), some (.int 1), none]) dX12_authorize_75 (by decide) rfl rfl ?_
          refine M.goto (tgt := 158) dX12_authorize_77 (by decide) ?_
          refine M.iload dX12_authorize_158 rfl ?_
          refine M.if_le (tgt := 216) dX12_authorize_160 (by decide) (fun c_160 => absurd c_160 (by decide)) (fun c_160 => ?_)
          refine M.aload_nR dX12_authorize_163 rfl ?_
          refine M.sipush (v := 302) dX12_authorize_164 (by decide) ?_
          refine M.iload dX12_authorize_167 rfl ?_
          refine M.callV [.int 302, .int 1] dX12_authorize_169 mdX12_ends imX12_ends seX12_ends lk_X12_328 rfl rfl rfl rfl (m_ends hA 302 1) ?_
          rintro _ I9 F9 ⟨rfl, e9, e8⟩
          have e9 := e9.symm; subst e9; have e8 := e8.symm; subst e8
          refine M.aload_nR dX12_authorize_172 rfl ?_
          refine M.iload_n dX12_authorize_173 rfl ?_
          refine M.iload_n dX12_authorize_174 rfl ?_
          refine M.callV [.int (nI (fnd (T 3) (fv g 1))), .int (nI r)] dX12_authorize_175 mdX12_place imX12_place seX12_place lk_X12_397 rfl rfl rfl rfl (m_place hA (F := (f4 F a4 b4 c4 d4)) (c := (fnd (T 3) (fv g 1))) (by omega) hrd (r := r) hr hrt.2.2 rfl (by decide)) ?_
          rintro _ I9 F9 ⟨rfl, e9, e8⟩
          have e9 := e9.symm; subst e9; have e8 := e8.symm; subst e8
          refine M.aload_nR dX12_authorize_178 rfl ?_
          refine M.ldcwS dX12_authorize_179 sr_X12_400 ?_
          refine M.callV [.ref (kSa Λ RX12 400)] dX12_authorize_182 mdX12_says imX12_says seX12_says lk_X12_334 rfl rfl rfl rfl (m_says hA (st_X12_400 hSt) sb_errorIs_b (mo_4 rfl) (by simp only [List.length_append, List.length_cons, List.length_nil, b64_len]; omega)) ?_
          rintro _ I9 F9 ⟨rfl, e9, e8⟩
          have e9 := e9.symm; subst e9; have e8 := e8.symm; subst e8
          rw [mo_mo rfl, fo_fo rfl]
          refine M.aload_nR dX12_authorize_185 rfl ?_
          refine M.iload dX12_authorize_186 rfl ?_
          refine M.callS [.int 1] dX12_authorize_188 mdX12_errorWord ssX12_errorWord lk_X12_338 rfl rfl rfl rfl (m_errorWord_1 hA) ?_
          rintro _ I9 F9 ⟨rfl, e9, e8⟩
          have e9 := e9.symm; subst e9; have e8 := e8.symm; subst e8
          refine M.callV [.ref (kSa Λ RX12 302)] dX12_authorize_191 mdX12_says imX12_says seX12_says lk_X12_334 rfl rfl rfl rfl (m_says hA (st_X12_302 hSt) sb_invalid_request_b (mo_4 rfl) (by simp only [List.length_append, List.length_cons, List.length_nil, b64_len]; omega)) ?_
          rintro _ I9 F9 ⟨rfl, e9, e8⟩
          have e9 := e9.symm; subst e9; have e8 := e8.symm; subst e8
          rw [mo_mo rfl, fo_fo rfl]
          by_cases h4v : 0 < (fv g 4).length
          · obtain ⟨i4, a41, a42, a43, a44, a45⟩ := hv9.at (k := 4) (by decide) h4v
            refine M.aload_nR dX12_authorize_194 rfl ?_
            refine M.aload_nR dX12_authorize_195 rfl ?_
            refine M.getr dX12_authorize_196 fl_X12_155 rfl rfl ?_
            refine M.aload_nR dX12_authorize_199 rfl ?_
            refine M.getr dX12_authorize_200 fl_X12_158 rfl rfl ?_
            refine M.iconst (v := 4) dX12_authorize_203 (by decide) ?_
            refine M.ialdv (k9 := 64) (j := 4) (g := (f4 F a4 b4 c4 d4) 64) (v := nI i4) dX12_authorize_204 rfl rfl rfl rfl (show 4 < 13 by omega) a41 ?_
            refine M.aload_nR dX12_authorize_205 rfl ?_
            refine M.getr dX12_authorize_206 fl_X12_161 rfl rfl ?_
            refine M.iconst (v := 4) dX12_authorize_209 (by decide) ?_
            refine M.ialdv (k9 := 65) (j := 4) (g := (f4 F a4 b4 c4 d4) 65) (v := nI (fv g 4).length) dX12_authorize_210 rfl rfl rfl rfl (show 4 < 13 by omega) a42 ?_
            refine M.callV [.ref (A 63), .int (nI i4), .int (nI (fv g 4).length)] dX12_authorize_211 mdX12_state imX12_state seX12_state lk_X12_402 rfl rfl rfl rfl (m_state hA hSt (F := (fo (f4 F a4 b4 c4 d4) 0 (((((R (fnd (T 3) (fv g 1))).getD r []) ++ [plc ((R (fnd (T 3) (fv g 1))).getD r [])]) ++ sb_errorIs) ++ sb_invalid_request))) (k1 := 63) rfl rfl (by decide) (i := i4) (v := fv g 4) a43 a44 h4v (by omega) (mo_4 rfl) (by simp only [List.length_append, List.length_cons, List.length_nil, b64_len]; omega)) ?_
            rintro _ I9 F9 ⟨rfl, e9, e8⟩
            have e9 := e9.symm; subst e9; have e8 := e8.symm; subst e8
            rw [mo_mo rfl, fo_fo rfl]
            refine M.iconst (v := (-1)) dX12_authorize_214 (by decide) ?_
            refine M.iret dX12_authorize_215 rfl ?_
            rw [opAuth, hfm]
            show mP (opAuth1 N (setB B 0 []) T R g) _ _ _
            rw [opAuth1, if_neg c_23, clS_at c_23, nI_clamp (by omega), if_neg (Int32.not_lt.mpr c_37), er, nI_clamp (by omega), opAuth2, hae]
            rw [if_pos (by decide)]
            exact ⟨rfl, rfl, ⟨rfl, rfl, q_a.2.2⟩, mRb.fo rfl rfl, ⟨rfl, rfl, q_n.2.2⟩, q_w, q_c, q_r, q_x, q_q, q_k, q_f, q_t⟩
          · skip
            refine M.aload_nR dX12_authorize_194 rfl ?_
            refine M.aload_nR dX12_authorize_195 rfl ?_
            refine M.getr dX12_authorize_196 fl_X12_155 rfl rfl ?_
            refine M.aload_nR dX12_authorize_199 rfl ?_
            refine M.getr dX12_authorize_200 fl_X12_158 rfl rfl ?_
            refine M.iconst (v := 4) dX12_authorize_203 (by decide) ?_
            refine M.iald (k9 := 64) (j := 4) (g := (f4 F a4 b4 c4 d4) 64) dX12_authorize_204 rfl rfl rfl rfl (show 4 < 13 by omega) ?_
            refine M.aload_nR dX12_authorize_205 rfl ?_
            refine M.getr dX12_authorize_206 fl_X12_161 rfl rfl ?_
            refine M.iconst (v := 4) dX12_authorize_209 (by decide) ?_
            refine M.iald (k9 := 65) (j := 4) (g := (f4 F a4 b4 c4 d4) 65) dX12_authorize_210 rfl rfl rfl rfl (show 4 < 13 by omega) ?_
            refine M.callV [.ref (A 63), .int (((f4 F a4 b4 c4 d4) 64) 4), .int (((f4 F a4 b4 c4 d4) 65) 4)] dX12_authorize_211 mdX12_state imX12_state seX12_state lk_X12_402 rfl rfl rfl rfl (m_state0 hA (hv9.n1 (by decide) h4v)) ?_
            rintro _ I9 F9 ⟨rfl, e9, e8⟩
            have e9 := e9.symm; subst e9; have e8 := e8.symm; subst e8
            refine M.iconst (v := (-1)) dX12_authorize_214 (by decide) ?_
            refine M.iret dX12_authorize_215 rfl ?_
            rw [opAuth, hfm]
            show mP (opAuth1 N (setB B 0 []) T R g) _ _ _
            rw [opAuth1, if_neg c_23, clS_at c_23, nI_clamp (by omega), if_neg (Int32.not_lt.mpr c_37), er, nI_clamp (by omega), opAuth2, hae]
            rw [if_pos (by decide)]
            rw [stS_nil h4v, List.append_nil]
            exact ⟨rfl, rfl, ⟨rfl, rfl, q_a.2.2⟩, mRb.fo rfl rfl, ⟨rfl, rfl, q_n.2.2⟩, q_w, q_c, q_r, q_x, q_q, q_k, q_f, q_t⟩
      · skip
        refine M.aload_nR dX12_authorize_40 rfl ?_
        refine M.sipush (v := 400) dX12_authorize_41 (by decide) ?_
        refine M.iload_n dX12_authorize_44 rfl ?_
        refine M.if_eq (tgt := 57) dX12_authorize_45 (by decide) (fun c_45 => absurd c_45 (by decide)) (fun c_45 => ?_)
        refine M.iload_n dX12_authorize_48 rfl ?_
        refine M.if_ge (tgt := 57) dX12_authorize_49 (by decide) (fun c_49 => ?_) (fun c_49 => absurd (nI_pos' (by omega)) c_49)
        refine M.iconst (v := 1) dX12_authorize_57 (by decide) ?_
        refine M.callV [.int 400, .int 1] dX12_authorize_58 mdX12_ends imX12_ends seX12_ends lk_X12_328 rfl rfl rfl rfl (m_ends hA 400 1) ?_
        rintro _ I9 F9 ⟨rfl, e9, e8⟩
        have e9 := e9.symm; subst e9; have e8 := e8.symm; subst e8
        refine M.iconst (v := (-1)) dX12_authorize_61 (by decide) ?_
        refine M.iret dX12_authorize_62 rfl ?_
        rw [opAuth, hfm]
        show mP (opAuth1 N (setB B 0 []) T R g) _ _ _
        rw [opAuth1, if_neg c_23, clS_at c_23, nI_clamp (by omega), if_pos (Int32.not_le.mp c_37)]
        exact ⟨rfl, rfl, ⟨rfl, rfl, q_a.2.2⟩, ⟨rfl, rfl⟩, ⟨rfl, rfl, q_n.2.2⟩, q_w, q_c, q_r, q_x, q_q, q_k, q_f, q_t⟩
