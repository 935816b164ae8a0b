/-! the class: tick, lives, code, family, check -/
def cSt (Λ : kL) (S : Nat → Nat) (o : rx) (G' : Nat → kc) (D' : kh) : Prop := ∃ A' L', cR Λ S G' D' A' L' o.2.2.1 o.2.2.2.1 o.2.2.2.2.1 o.2.2.2.2.2
/-- a call that answers, or throws one of l -/
def eP (Λ : kL) (S : Nat → Nat) (o : rx) (l : List String) : eT := (fun r G' D' => o.2.1 = 0 ∧ cP Λ S o r G' D', fun E G' D' => ∃ k : Nat, l[k]? = some E ∧ o.2.1 = nI (k + 1) ∧ cSt Λ S o G' D')
def ePv (Λ : kL) (S : Nat → Nat) (o : rx) (l : List String) : eT := (fun r G' D' => o.2.1 = 0 ∧ r = none ∧ cSt Λ S o G' D', fun E G' D' => ∃ k : Nat, l[k]? = some E ∧ o.2.1 = nI (k + 1) ∧ cSt Λ S o G' D')
theorem zro_no {C : List (List Int32)} {c n : Nat} (h : zro C c) (hn : n < C.length) (h1 : ¬ ro C n c = 1) : ro C n c = 0 := by
  obtain ⟨b, hb⟩ := h n hn
  cases b with
  | true => exact absurd hb h1
  | false => exact hb
def xl_a : List String := ["java/lang/IllegalArgumentException"]
def xl_n : List String := ["java/util/NoSuchElementException"]
def xl_i : List String := ["java/lang/IndexOutOfBoundsException"]
def xl_s : List String := ["java/lang/IllegalArgumentException", "java/lang/UnsupportedOperationException"]
def xl_r : List String := ["java/lang/IndexOutOfBoundsException", "java/lang/IllegalArgumentException", "java/lang/UnsupportedOperationException"]
def xl_c : List String := ["java/util/NoSuchElementException", "java/lang/IllegalArgumentException", "java/lang/IllegalStateException"]

theorem q_tick {Λ : kL} {S : Nat → Nat} {G : Nat → kc} {D : kh} (hS : cInj S) (hX : kXo Λ) {A L : Nat → List Nat} {N : Nat → Int32} {B : Nat → List Int32} {T R : Nat → List (List Int32)} (hR : cR Λ S G D A L N B T R) (hW : wf N B T R) (x : Int32) : eCt Λ mX11_tick 1 6 S [.ref (S 0), .int x] G D (eP Λ S (opTick N B T R x) xl_a) := by
  refine eCt.of hS pn_X11 [some (.ref (S 0)), some (.int x)] rfl (Nat.le_of_ble_eq_true rfl) fun X hNo => ?_
  have hR0 := hR; have hW0 := hW
  obtain ⟨p_a, p_b, p_n, p_k, p_f, p_h, p_w, p_c, p_r, p_q, p_o, p_m, p_t, p_d⟩ := hR
  obtain ⟨w_a, w_n, w_w, w_c, w_r, w_x, w_q, w_k, w_f, w_t, w_m, w_l⟩ := hW
  have p_a9 := p_a; obtain ⟨ft, a1, a2, a3, a4, a5, a6⟩ := p_a9
  have p_b9 := p_b; obtain ⟨fo9, b1, b2, b3, b4, b5, b6⟩ := p_b9
  refine E.iload_n dX11_tick_0 rfl ?_
  refine E.if_lt (tgt := 10) dX11_tick_1 (by decide) (fun c_1 => ?_) (fun c_1 => ?_)
  · skip
    refine E.less (bc' := 0 + 1) (bs' := 0 + 6) (by omega) (by omega) ?_
    refine E.throw hX hNo tw_ia sr_X11_185 rfl rfl dX11_tick_10 dX11_tick_13 (Or.inl ⟨dX11_tick_14, dX11_tick_16, dX11_tick_19⟩) ?_
    rw [opTick, if_pos (Or.inl c_1)]
    exact ⟨0, rfl, rfl, A, L, p_a, p_b, p_n, p_k, p_f, p_h, p_w, p_c, p_r, p_q, p_o, p_m, p_t, p_d⟩
  · skip
    refine E.iload_n dX11_tick_4 rfl ?_
    refine E.ldc (v := 100000) dX11_tick_5 co_X11_184 ?_
    refine E.icmp_le (tgt := 20) dX11_tick_7 (by decide) (fun c_7 => ?_) (fun c_7 => ?_)
    · skip
      refine E.aload_nR dX11_tick_20 rfl ?_
      refine E.dup dX11_tick_21 rfl ?_
      refine E.getS (k9 := 0) (fs := [.ref (S 1), .ref (S 2), .ref (S 3), .ref (S 4), .ref (S 5), .ref (S 6), .ref (S 7), .ref (S 8), .ref (S 9), .ref (S 10), .ref (S 11), .ref (S 12), .int (N 26), .int (N 27), .int (N 28), .int (N 25), .int (N 5), .int (N 6)]) dX11_tick_22 fl_X11_77 rfl p_n rfl ?_
      refine E.iload_n dX11_tick_25 rfl ?_
      refine E.iadd dX11_tick_26 ?_
      refine E.putS (k9 := 0) (fs := [.ref (S 1), .ref (S 2), .ref (S 3), .ref (S 4), .ref (S 5), .ref (S 6), .ref (S 7), .ref (S 8), .ref (S 9), .ref (S 10), .ref (S 11), .ref (S 12), .int (N 26), .int (N 27), .int (N 28), .int (N 25), .int (N 5), .int (N 6)]) (fs' := [.ref (S 1), .ref (S 2), .ref (S 3), .ref (S 4), .ref (S 5), .ref (S 6), .ref (S 7), .ref (S 8), .ref (S 9), .ref (S 10), .ref (S 11), .ref (S 12), .int (N 26), .int (N 27), .int (N 28), .int ((N 25) + x), .int (N 5), .int (N 6)]) dX11_tick_27 fp_X11_77 (fun h => by cases h) rfl p_n rfl rfl (Nat.le_of_ble_eq_true rfl) rfl ?_
      refine E.aload_nR dX11_tick_30 rfl ?_
      refine E.getS (k9 := 0) (fs := [.ref (S 1), .ref (S 2), .ref (S 3), .ref (S 4), .ref (S 5), .ref (S 6), .ref (S 7), .ref (S 8), .ref (S 9), .ref (S 10), .ref (S 11), .ref (S 12), .int (N 26), .int (N 27), .int (N 28), .int ((N 25) + x), .int (N 5), .int (N 6)]) dX11_tick_31 fl_X11_77 rfl rfl rfl ?_
      refine E.iret dX11_tick_34 rfl ?_
      rw [opTick, if_neg (fun q => q.elim c_1 fun z => absurd z (Int32.not_lt.mpr c_7))]
      exact ⟨rfl, rfl, A, L, p_a, p_b, rfl, p_k, p_f, p_h, p_w, p_c, p_r, p_q, p_o, p_m, p_t, p_d⟩
    · skip
      refine E.less (bc' := 0 + 1) (bs' := 0 + 6) (by omega) (by omega) ?_
      refine E.throw hX hNo tw_ia sr_X11_185 rfl rfl dX11_tick_10 dX11_tick_13 (Or.inl ⟨dX11_tick_14, dX11_tick_16, dX11_tick_19⟩) ?_
      rw [opTick, if_pos (Or.inr (Int32.not_le.mp c_7))]
      exact ⟨0, rfl, rfl, A, L, p_a, p_b, p_n, p_k, p_f, p_h, p_w, p_c, p_r, p_q, p_o, p_m, p_t, p_d⟩

theorem q_lives {Λ : kL} {S : Nat → Nat} {G : Nat → kc} {D : kh} (hS : cInj S) (hX : kXo Λ) {A L : Nat → List Nat} {N : Nat → Int32} {B : Nat → List Int32} {T R : Nat → List (List Int32)} (hR : cR Λ S G D A L N B T R) (hW : wf N B T R) (a b c : Int32) : eCt Λ mX11_lives 1 6 S [.ref (S 0), .int a, .int b, .int c] G D (ePv Λ S (opLives N B T R a b c) xl_a) := by
  refine eCt.of hS pn_X11 [some (.ref (S 0)), some (.int a), some (.int b), some (.int c)] rfl (Nat.le_of_ble_eq_true rfl) fun X hNo => ?_
  have hR0 := hR; have hW0 := hW
  obtain ⟨p_a, p_b, p_n, p_k, p_f, p_h, p_w, p_c, p_r, p_q, p_o, p_m, p_t, p_d⟩ := hR
  obtain ⟨w_a, w_n, w_w, w_c, w_r, w_x, w_q, w_k, w_f, w_t, w_m, w_l⟩ := hW
  have p_a9 := p_a; obtain ⟨ft, a1, a2, a3, a4, a5, a6⟩ := p_a9
  have p_b9 := p_b; obtain ⟨fo9, b1, b2, b3, b4, b5, b6⟩ := p_b9
  refine E.iload_n dX11_lives_0 rfl ?_
  refine E.callS0 [.int a] dX11_lives_1 mdX11_isLife ssX11_isLife lk_X11_172 rfl rfl rfl rfl (cCt.w0 (R := fun r => r = some (.int (bI (lifeb a)))) fun σ9 h9 => c_isLife a) ?_
  rintro _ G9 D9 ⟨rfl, e9, e8⟩
  have e9 := e9.symm; subst e9; have e8 := e8.symm; subst e8
  refine E.if_eq (tgt := 21) dX11_lives_4 (by decide) (fun c_4 => ?_) (fun c_4 => ?_)
  · skip
    refine E.less (bc' := 0 + 1) (bs' := 0 + 6) (by omega) (by omega) ?_
    refine E.throw hX hNo tw_ia sr_X11_175 rfl rfl dX11_lives_21 dX11_lives_24 (Or.inl ⟨dX11_lives_25, dX11_lives_27, dX11_lives_30⟩) ?_
    rw [opLives, if_pos (by rw [(bI_eq0 _).mp c_4]; rfl)]
    exact ⟨0, rfl, rfl, A, L, p_a, p_b, p_n, p_k, p_f, p_h, p_w, p_c, p_r, p_q, p_o, p_m, p_t, p_d⟩
  · skip
    refine E.iload_n dX11_lives_7 rfl ?_
    refine E.callS0 [.int b] dX11_lives_8 mdX11_isLife ssX11_isLife lk_X11_172 rfl rfl rfl rfl (cCt.w0 (R := fun r => r = some (.int (bI (lifeb b)))) fun σ9 h9 => c_isLife b) ?_
    rintro _ G9 D9 ⟨rfl, e9, e8⟩
    have e9 := e9.symm; subst e9; have e8 := e8.symm; subst e8
    refine E.if_eq (tgt := 21) dX11_lives_11 (by decide) (fun c_11 => ?_) (fun c_11 => ?_)
    · skip
      refine E.less (bc' := 0 + 1) (bs' := 0 + 6) (by omega) (by omega) ?_
      refine E.throw hX hNo tw_ia sr_X11_175 rfl rfl dX11_lives_21 dX11_lives_24 (Or.inl ⟨dX11_lives_25, dX11_lives_27, dX11_lives_30⟩) ?_
      rw [opLives, if_pos (by rw [bt1 c_4, (bI_eq0 _).mp c_11]; rfl)]
      exact ⟨0, rfl, rfl, A, L, p_a, p_b, p_n, p_k, p_f, p_h, p_w, p_c, p_r, p_q, p_o, p_m, p_t, p_d⟩
    · skip
      refine E.iload_n dX11_lives_14 rfl ?_
      refine E.callS0 [.int c] dX11_lives_15 mdX11_isLife ssX11_isLife lk_X11_172 rfl rfl rfl rfl (cCt.w0 (R := fun r => r = some (.int (bI (lifeb c)))) fun σ9 h9 => c_isLife c) ?_
      rintro _ G9 D9 ⟨rfl, e9, e8⟩
      have e9 := e9.symm; subst e9; have e8 := e8.symm; subst e8
      refine E.if_ne (tgt := 31) dX11_lives_18 (by decide) (fun c_18 => ?_) (fun c_18 => ?_)
      · skip
        refine E.aload_nR dX11_lives_31 rfl ?_
        refine E.iload_n dX11_lives_32 rfl ?_
        refine E.putS (k9 := 0) (fs := [.ref (S 1), .ref (S 2), .ref (S 3), .ref (S 4), .ref (S 5), .ref (S 6), .ref (S 7), .ref (S 8), .ref (S 9), .ref (S 10), .ref (S 11), .ref (S 12), .int (N 26), .int (N 27), .int (N 28), .int (N 25), .int (N 5), .int (N 6)]) (fs' := [.ref (S 1), .ref (S 2), .ref (S 3), .ref (S 4), .ref (S 5), .ref (S 6), .ref (S 7), .ref (S 8), .ref (S 9), .ref (S 10), .ref (S 11), .ref (S 12), .int a, .int (N 27), .int (N 28), .int (N 25), .int (N 5), .int (N 6)]) dX11_lives_33 fp_X11_67 (fun h => by cases h) rfl p_n rfl rfl (Nat.le_of_ble_eq_true rfl) rfl ?_
        refine E.aload_nR dX11_lives_36 rfl ?_
        refine E.iload_n dX11_lives_37 rfl ?_
        refine E.putS (k9 := 0) (fs := [.ref (S 1), .ref (S 2), .ref (S 3), .ref (S 4), .ref (S 5), .ref (S 6), .ref (S 7), .ref (S 8), .ref (S 9), .ref (S 10), .ref (S 11), .ref (S 12), .int a, .int (N 27), .int (N 28), .int (N 25), .int (N 5), .int (N 6)]) (fs' := [.ref (S 1), .ref (S 2), .ref (S 3), .ref (S 4), .ref (S 5), .ref (S 6), .ref (S 7), .ref (S 8), .ref (S 9), .ref (S 10), .ref (S 11), .ref (S 12), .int a, .int b, .int (N 28), .int (N 25), .int (N 5), .int (N 6)]) dX11_lives_38 fp_X11_71 (fun h => by cases h) rfl rfl rfl rfl (Nat.le_of_ble_eq_true rfl) rfl ?_
        refine E.aload_nR dX11_lives_41 rfl ?_
        refine E.iload_n dX11_lives_42 rfl ?_
        refine E.putS (k9 := 0) (fs := [.ref (S 1), .ref (S 2), .ref (S 3), .ref (S 4), .ref (S 5), .ref (S 6), .ref (S 7), .ref (S 8), .ref (S 9), .ref (S 10), .ref (S 11), .ref (S 12), .int a, .int b, .int (N 28), .int (N 25), .int (N 5), .int (N 6)]) (fs' := [.ref (S 1), .ref (S 2), .ref (S 3), .ref (S 4), .ref (S 5), .ref (S 6), .ref (S 7), .ref (S 8), .ref (S 9), .ref (S 10), .ref (S 11), .ref (S 12), .int a, .int b, .int c, .int (N 25), .int (N 5), .int (N 6)]) dX11_lives_43 fp_X11_74 (fun h => by cases h) rfl rfl rfl rfl (Nat.le_of_ble_eq_true rfl) rfl ?_
        refine E.vret dX11_lives_46 rfl ?_
        rw [opLives, if_neg (by rw [bt1 c_4, bt1 c_11, bt1 c_18]; decide)]
        exact ⟨rfl, rfl, A, L, p_a, p_b, rfl, p_k, p_f, p_h, p_w, p_c, p_r, p_q, p_o, p_m, p_t, p_d⟩
      · skip
        refine E.less (bc' := 0 + 1) (bs' := 0 + 6) (by omega) (by omega) ?_
        refine E.throw hX hNo tw_ia sr_X11_175 rfl rfl dX11_lives_21 dX11_lives_24 (Or.inl ⟨dX11_lives_25, dX11_lives_27, dX11_lives_30⟩) ?_
        rw [opLives, if_pos (by rw [bt1 c_4, bt1 c_11, (bI_eq0 _).mp c_18]; rfl)]
        exact ⟨0, rfl, rfl, A, L, p_a, p_b, p_n, p_k, p_f, p_h, p_w, p_c, p_r, p_q, p_o, p_m, p_t, p_d⟩

theorem q_code {Λ : kL} {S : Nat → Nat} {G : Nat → kc} {D : kh} (hS : cInj S) (hX : kXo Λ) {A L : Nat → List Nat} {N : Nat → Int32} {B : Nat → List Int32} {T R : Nat → List (List Int32)} (hR : cR Λ S G D A L N B T R) (hW : wf N B T R) (q x : Int32) : eCt Λ mX11_code 1 6 S [.ref (S 0), .int q, .int x] G D (eP Λ S (opCode N B T R q x) xl_n) := by
  refine eCt.of hS pn_X11 [some (.ref (S 0)), some (.int q), some (.int x), none] rfl (Nat.le_of_ble_eq_true rfl) fun X hNo => ?_
  have hR0 := hR; have hW0 := hW
  obtain ⟨p_a, p_b, p_n, p_k, p_f, p_h, p_w, p_c, p_r, p_q, p_o, p_m, p_t, p_d⟩ := hR
  obtain ⟨w_a, w_n, w_w, w_c, w_r, w_x, w_q, w_k, w_f, w_t, w_m, w_l⟩ := hW
  have p_a9 := p_a; obtain ⟨ft, a1, a2, a3, a4, a5, a6⟩ := p_a9
  have p_b9 := p_b; obtain ⟨fo9, b1, b2, b3, b4, b5, b6⟩ := p_b9
  refine E.iload_n dX11_code_0 rfl ?_
  refine E.if_lt (tgt := 15) dX11_code_1 (by decide) (fun c_1 => ?_) (fun c_1 => ?_)
  · skip
    refine E.less (bc' := 0 + 1) (bs' := 0 + 6) (by omega) (by omega) ?_
    refine E.throw hX hNo tw_ns sr_X11_352 rfl rfl dX11_code_15 dX11_code_18 (Or.inr ⟨dX11_code_19, dX11_code_22, dX11_code_25⟩) ?_
    rw [opCode, if_pos (Or.inl c_1)]
    exact ⟨0, rfl, rfl, A, L, p_a, p_b, p_n, p_k, p_f, p_h, p_w, p_c, p_r, p_q, p_o, p_m, p_t, p_d⟩
  · skip
    refine E.iload_n dX11_code_4 rfl ?_
    refine E.aload_nR dX11_code_5 rfl ?_
    refine E.getS (k9 := 0) (fs := [.ref (S 1), .ref (S 2), .ref (S 3), .ref (S 4), .ref (S 5), .ref (S 6), .ref (S 7), .ref (S 8), .ref (S 9), .ref (S 10), .ref (S 11), .ref (S 12), .int (N 26), .int (N 27), .int (N 28), .int (N 25), .int (N 5), .int (N 6)]) dX11_code_6 fl_X11_55 rfl p_n rfl ?_
    refine E.callLS0 (k9 := 9) [] dX11_code_9 mdJx4a65c_size_8abf5 imJx4a65c_size_8abf5 seJx4a65c_size_8abf5 rfl p_o.1 lk_X11_123 rfl rfl rfl rfl (cCt.w0 (R := fun r => r = some (.int (nI (rv (A 9)).length))) fun σ9 h9 => c_list_size (h9.at (k := 9) rfl p_o.1)) ?_
    rintro _ G9 D9 ⟨rfl, e9, e8⟩
    have e9 := e9.symm; subst e9; have e8 := e8.symm; subst e8
    refine E.icmp_lt (tgt := 26) dX11_code_12 (by decide) (fun c_12 => ?_) (fun c_12 => ?_)
    · skip
      rw [rv_len, p_o.2.1] at c_12
      have hno : ¬ (q < 0 ∨ nI (T 27).length ≤ q) := fun z => z.elim c_1 fun z => absurd z (Int32.not_le.mpr c_12)
      obtain ⟨k, hkx, hk⟩ : ∃ k, q = nI k ∧ k < (T 27).length := ⟨_, oix_eq c_1, oix_lt c_1 c_12 (by have := w_k.1; omega)⟩
      subst hkx
      rw [opCode, if_neg hno, nI_clamp (by have := w_k.1; omega)]
      have u1 := p_o.2.2.2 _ hk
      have hq1 : rn (T 27) k 1 < (T 23).length := (w_k.2.2.1).rn hk (by have := w_q.1; omega)
      obtain ⟨r9, c9, s9, u2, -, -, -⟩ := p_q.2.2.2 _ hq1
      obtain ⟨c8, r8, hc8, hr8, hc8l, -⟩ := w_q.2.2.2.2.2.2 _ hq1
      have hcn : rn (T 23) (rn (T 27) k 1) 0 = c8 := by rw [rn, hc8, nI_clamp (by have := w_c.1; omega)]
      have hcl : rn (T 23) (rn (T 27) k 1) 0 < (T 3).length := by rw [hcn]; exact hc8l
      obtain ⟨i9, z9, u3, -, -⟩ := p_c.2.2.2 _ hcl
      refine E.aload_nR dX11_code_26 rfl ?_
      refine E.getS (k9 := 0) (fs := [.ref (S 1), .ref (S 2), .ref (S 3), .ref (S 4), .ref (S 5), .ref (S 6), .ref (S 7), .ref (S 8), .ref (S 9), .ref (S 10), .ref (S 11), .ref (S 12), .int (N 26), .int (N 27), .int (N 28), .int (N 25), .int (N 5), .int (N 6)]) dX11_code_27 fl_X11_55 rfl p_n rfl ?_
      refine E.iload_n dX11_code_30 rfl ?_
      refine E.callLS0 (k9 := 9) [.int (nI k)] dX11_code_31 mdJx4a65c_get_915e3 imJx4a65c_get_915e3 seJx4a65c_get_915e3 rfl p_o.1 lk_X11_163 rfl rfl rfl rfl (cCt.w0 (R := fun r => r = some (.ref ((A 9).getD k 0))) fun σ9 h9 => c_list_get (h9.at (k := 9) rfl p_o.1) (rv_at (by rw [p_o.2.1]; exact hk))) ?_
      rintro _ G9 D9 ⟨rfl, e9, e8⟩
      have e9 := e9.symm; subst e9; have e8 := e8.symm; subst e8
      refine E.castD dX11_code_34 cl_X11_273 cs_2 kc_2 u1 ?_
      refine E.astore_n (L' := [some (.ref (S 0)), some (.int (nI k)), some (.int x), some (.ref ((A 9).getD k 0))]) dX11_code_37 (by decide) rfl rfl ?_
      refine E.iload_n dX11_code_38 rfl ?_
      by_cases sw_39 : x.toInt < 0 ∨ 4 < x.toInt
      · refine E.tableOut (tgt := 121) dX11_code_39 sw_39 (by decide) ?_
        refine E.less (bc' := 0 + 1) (bs' := 0 + 6) (by omega) (by omega) ?_
        refine E.throw hX hNo tw_ns sr_X11_368 rfl rfl dX11_code_121 dX11_code_124 (Or.inr ⟨dX11_code_125, dX11_code_128, dX11_code_131⟩) ?_
        have hv9 : codV N T k x = none := by rw [codV, if_neg (sw_no (x := x) (v := 0) 0 4 sw_39 (by decide)), if_neg (sw_no (x := x) (v := 1) 0 4 sw_39 (by decide)), if_neg (sw_no (x := x) (v := 2) 0 4 sw_39 (by decide)), if_neg (sw_no (x := x) (v := 3) 0 4 sw_39 (by decide)), if_neg (sw_no (x := x) (v := 4) 0 4 sw_39 (by decide))]
        rw [hv9]
        exact ⟨0, rfl, rfl, A, L, p_a, p_b, p_n, p_k, p_f, p_h, p_w, p_c, p_r, p_q, p_o, p_m, p_t, p_d⟩
      by_cases sw_39_0 : x = 0
      · refine E.tableIn (off := 33) (tgt := 72) dX11_code_39 (by rw [sw_39_0]; decide) (by rw [sw_39_0]; decide) (by rw [sw_39_0]; rfl) (by decide) ?_
        refine E.aload_nR dX11_code_72 rfl ?_
        refine E.aload_nR dX11_code_73 rfl ?_
        refine E.getS (k9 := 0) (fs := [.ref (S 1), .ref (S 2), .ref (S 3), .ref (S 4), .ref (S 5), .ref (S 6), .ref (S 7), .ref (S 8), .ref (S 9), .ref (S 10), .ref (S 11), .ref (S 12), .int (N 26), .int (N 27), .int (N 28), .int (N 25), .int (N 5), .int (N 6)]) dX11_code_74 fl_X11_77 rfl p_n rfl ?_
        by_cases hf : ro (T 27) k 5 < 0
        · rw [famRef, if_pos hf] at u1
          refine E.callVD0 [.int (N 25)] dX11_code_77 mdX1_standing imX1_standing seX1_standing kc_2 u1 lk_X11_354 rfl rfl rfl rfl (cCt.w0 (R := fun r => r = some (.int (if N 25 < ro (T 27) k 4 then 0 else 2))) fun σ9 h9 => c_Code_standingN (h9.2.1 _ _ u1) (N 25)) ?_
          rintro _ G9 D9 ⟨rfl, e9, e8⟩
          have e9 := e9.symm; subst e9; have e8 := e8.symm; subst e8
          refine E.iret dX11_code_80 rfl ?_
          have hv9 : codV N T k x = some (if N 25 < ro (T 27) k 4 then 0 else 2) := by
            rw [codV, if_pos sw_39_0]
            rw [if_neg (fun z => absurd hf (Int32.not_lt.mpr z))]
            by_cases h5 : N 25 < ro (T 27) k 4
            · rw [if_neg (Int32.not_le.mpr h5), if_pos h5]
            · rw [if_pos (Int32.not_lt.mp h5), if_neg h5]
          rw [hv9]
          exact ⟨rfl, rfl, A, L, p_a, p_b, p_n, p_k, p_f, p_h, p_w, p_c, p_r, p_q, p_o, p_m, p_t, p_d⟩
        · rw [famRef, if_neg hf] at u1
          refine E.callVD0 [.int (N 25)] dX11_code_77 mdX1_standing imX1_standing seX1_standing kc_2 u1 lk_X11_354 rfl rfl rfl rfl (cCt.w0 (R := fun r => r = some (.int 1)) fun σ9 h9 => c_Code_standingF (h9.2.1 _ _ u1) (N 25)) ?_
          rintro _ G9 D9 ⟨rfl, e9, e8⟩
          have e9 := e9.symm; subst e9; have e8 := e8.symm; subst e8
          refine E.iret dX11_code_80 rfl ?_
          have hv9 : codV N T k x = some (1) := by
            rw [codV, if_pos sw_39_0]
            rw [if_pos (Int32.not_lt.mp hf)]
          rw [hv9]
          exact ⟨rfl, rfl, A, L, p_a, p_b, p_n, p_k, p_f, p_h, p_w, p_c, p_r, p_q, p_o, p_m, p_t, p_d⟩
      by_cases sw_39_1 : x = 1
      · refine E.tableIn (off := 42) (tgt := 81) dX11_code_39 (by rw [sw_39_1]; decide) (by rw [sw_39_1]; decide) (by rw [sw_39_1]; rfl) (by decide) ?_
        refine E.aload_nR dX11_code_81 rfl ?_
        refine E.getD dX11_code_82 fl_X11_357 u1 rfl ?_
        refine E.getD dX11_code_85 fl_X11_361 u2 rfl ?_
        refine E.getD dX11_code_88 fl_X11_328 u3 rfl ?_
        refine E.iret dX11_code_91 rfl ?_
        have hv9 : codV N T k x = some (ro (T 23) (rn (T 27) k 1) 0) := by
          rw [codV, if_neg sw_39_0, if_pos sw_39_1]
        rw [hv9]
        exact ⟨rfl, (congrArg (fun z => some (Value.int z)) (by rw [hcn]; exact hc8.symm)), A, L, p_a, p_b, p_n, p_k, p_f, p_h, p_w, p_c, p_r, p_q, p_o, p_m, p_t, p_d⟩
      by_cases sw_39_2 : x = 2
      · refine E.tableIn (off := 53) (tgt := 92) dX11_code_39 (by rw [sw_39_2]; decide) (by rw [sw_39_2]; decide) (by rw [sw_39_2]; rfl) (by decide) ?_
        refine E.aload_nR dX11_code_92 rfl ?_
        refine E.getD dX11_code_93 fl_X11_364 u1 rfl ?_
        refine E.iret dX11_code_96 rfl ?_
        have hv9 : codV N T k x = some (ro (T 27) k 2) := by
          rw [codV, if_neg sw_39_0, if_neg sw_39_1, if_pos sw_39_2]
        rw [hv9]
        exact ⟨rfl, rfl, A, L, p_a, p_b, p_n, p_k, p_f, p_h, p_w, p_c, p_r, p_q, p_o, p_m, p_t, p_d⟩
      by_cases sw_39_3 : x = 3
      · refine E.tableIn (off := 58) (tgt := 97) dX11_code_39 (by rw [sw_39_3]; decide) (by rw [sw_39_3]; decide) (by rw [sw_39_3]; rfl) (by decide) ?_
        refine E.aload_nR dX11_code_97 rfl ?_
        refine E.getD dX11_code_98 fl_X11_365 u1 rfl ?_
        refine E.iret dX11_code_101 rfl ?_
        have hv9 : codV N T k x = some (ro (T 27) k 3) := by
          rw [codV, if_neg sw_39_0, if_neg sw_39_1, if_neg sw_39_2, if_pos sw_39_3]
        rw [hv9]
        exact ⟨rfl, rfl, A, L, p_a, p_b, p_n, p_k, p_f, p_h, p_w, p_c, p_r, p_q, p_o, p_m, p_t, p_d⟩
      by_cases sw_39_4 : x = 4
      · refine E.tableIn (off := 63) (tgt := 102) dX11_code_39 (by rw [sw_39_4]; decide) (by rw [sw_39_4]; decide) (by rw [sw_39_4]; rfl) (by decide) ?_
        by_cases hf : ro (T 27) k 5 < 0
        · rw [famRef, if_pos hf] at u1
          refine E.aload_nR dX11_code_102 rfl ?_
          refine E.getD dX11_code_103 fl_X11_366 u1 rfl ?_
          refine E.ifnonnullN dX11_code_106 ?_
          refine E.iconst (v := (-1)) dX11_code_109 (by decide) ?_
          refine E.goto (tgt := 120) dX11_code_110 (by decide) ?_
          refine E.iret dX11_code_120 rfl ?_
          have hv9 : codV N T k x = some (ro (T 27) k 5) := by
            rw [codV, if_neg sw_39_0, if_neg sw_39_1, if_neg sw_39_2, if_neg sw_39_3, if_pos sw_39_4]
          rw [hv9]
          exact ⟨rfl, (congrArg (fun z => some (Value.int z)) (by have h6 := (w_k.2.2.2.1 _ hk).resolve_right (fun ⟨f8, hl8, e8⟩ => absurd hf (by rw [e8]; exact nI_pos (by have := w_k.2.2.2.2; have := w_k.1; omega))); exact h6.symm)), A, L, p_a, p_b, p_n, p_k, p_f, p_h, p_w, p_c, p_r, p_q, p_o, p_m, p_t, p_d⟩
        · rw [famRef, if_neg hf] at u1
          obtain ⟨f8, hf8l, hf8⟩ := (w_k.2.2.2.1 _ hk).resolve_left (fun e => hf (by rw [e]; decide))
          have hfn : rn (T 27) k 5 = f8 := by rw [rn, hf8, nI_clamp (by have := w_k.2.2.2.2; have := w_k.1; omega)]
          have u4 := p_m.2.2.2 (rn (T 27) k 5) (by rw [hfn]; exact hf8l)
          refine E.aload_nR dX11_code_102 rfl ?_
          refine E.getD dX11_code_103 fl_X11_366 u1 rfl ?_
          refine E.ifnonnullR (tgt := 113) dX11_code_106 (by decide) ?_
          refine E.aload_nR dX11_code_113 rfl ?_
          refine E.getD dX11_code_114 fl_X11_366 u1 rfl ?_
          refine E.getD dX11_code_117 fl_X11_367 u4 rfl ?_
          refine E.iret dX11_code_120 rfl ?_
          have hv9 : codV N T k x = some (ro (T 27) k 5) := by
            rw [codV, if_neg sw_39_0, if_neg sw_39_1, if_neg sw_39_2, if_neg sw_39_3, if_pos sw_39_4]
          rw [hv9]
          exact ⟨rfl, (congrArg (fun z => some (Value.int z)) (by rw [hfn]; exact hf8.symm)), A, L, p_a, p_b, p_n, p_k, p_f, p_h, p_w, p_c, p_r, p_q, p_o, p_m, p_t, p_d⟩
      exact absurd (show x.toInt < 0 ∨ 4 < x.toInt by have n_0 : ¬ x.toInt = 0 := fun q => sw_39_0 (i32_eq.mpr (q.trans (by decide))); have n_1 : ¬ x.toInt = 1 := fun q => sw_39_1 (i32_eq.mpr (q.trans (by decide))); have n_2 : ¬ x.toInt = 2 := fun q => sw_39_2 (i32_eq.mpr (q.trans (by decide))); have n_3 : ¬ x.toInt = 3 := fun q => sw_39_3 (i32_eq.mpr (q.trans (by decide))); have n_4 : ¬ x.toInt = 4 := fun q => sw_39_4 (i32_eq.mpr (q.trans (by decide))); omega) sw_39
    · skip
      refine E.less (bc' := 0 + 1) (bs' := 0 + 6) (by omega) (by omega) ?_
      refine E.throw hX hNo tw_ns sr_X11_352 rfl rfl dX11_code_15 dX11_code_18 (Or.inr ⟨dX11_code_19, dX11_code_22, dX11_code_25⟩) ?_
      rw [opCode, if_pos (Or.inr (by rw [rv_len, p_o.2.1] at c_12; exact Int32.not_lt.mp c_12))]
      exact ⟨0, rfl, rfl, A, L, p_a, p_b, p_n, p_k, p_f, p_h, p_w, p_c, p_r, p_q, p_o, p_m, p_t, p_d⟩

theorem q_family {Λ : kL} {S : Nat → Nat} {G : Nat → kc} {D : kh} (hS : cInj S) (hX : kXo Λ) {A L : Nat → List Nat} {N : Nat → Int32} {B : Nat → List Int32} {T R : Nat → List (List Int32)} (hR : cR Λ S G D A L N B T R) (hW : wf N B T R) (q x : Int32) : eCt Λ mX11_family 1 6 S [.ref (S 0), .int q, .int x] G D (eP Λ S (opFam N B T R q x) xl_n) := by
  refine eCt.of hS pn_X11 [some (.ref (S 0)), some (.int q), some (.int x), none] rfl (Nat.le_of_ble_eq_true rfl) fun X hNo => ?_
  have hR0 := hR; have hW0 := hW
  obtain ⟨p_a, p_b, p_n, p_k, p_f, p_h, p_w, p_c, p_r, p_q, p_o, p_m, p_t, p_d⟩ := hR
  obtain ⟨w_a, w_n, w_w, w_c, w_r, w_x, w_q, w_k, w_f, w_t, w_m, w_l⟩ := hW
  have p_a9 := p_a; obtain ⟨ft, a1, a2, a3, a4, a5, a6⟩ := p_a9
  have p_b9 := p_b; obtain ⟨fo9, b1, b2, b3, b4, b5, b6⟩ := p_b9
  refine E.iload_n dX11_family_0 rfl ?_
  refine E.if_lt (tgt := 15) dX11_family_1 (by decide) (fun c_1 => ?_) (fun c_1 => ?_)
  · skip
    refine E.less (bc' := 0 + 1) (bs' := 0 + 6) (by omega) (by omega) ?_
    refine E.throw hX hNo tw_ns sr_X11_370 rfl rfl dX11_family_15 dX11_family_18 (Or.inr ⟨dX11_family_19, dX11_family_22, dX11_family_25⟩) ?_
    rw [opFam, if_pos (Or.inl c_1)]
    exact ⟨0, rfl, rfl, A, L, p_a, p_b, p_n, p_k, p_f, p_h, p_w, p_c, p_r, p_q, p_o, p_m, p_t, p_d⟩
  · skip
    refine E.iload_n dX11_family_4 rfl ?_
    refine E.aload_nR dX11_family_5 rfl ?_
    refine E.getS (k9 := 0) (fs := [.ref (S 1), .ref (S 2), .ref (S 3), .ref (S 4), .ref (S 5), .ref (S 6), .ref (S 7), .ref (S 8), .ref (S 9), .ref (S 10), .ref (S 11), .ref (S 12), .int (N 26), .int (N 27), .int (N 28), .int (N 25), .int (N 5), .int (N 6)]) dX11_family_6 fl_X11_58 rfl p_n rfl ?_
    refine E.callLS0 (k9 := 10) [] dX11_family_9 mdJx4a65c_size_8abf5 imJx4a65c_size_8abf5 seJx4a65c_size_8abf5 rfl p_m.1 lk_X11_123 rfl rfl rfl rfl (cCt.w0 (R := fun r => r = some (.int (nI (rv (A 10)).length))) fun σ9 h9 => c_list_size (h9.at (k := 10) rfl p_m.1)) ?_
    rintro _ G9 D9 ⟨rfl, e9, e8⟩
    have e9 := e9.symm; subst e9; have e8 := e8.symm; subst e8
    refine E.icmp_lt (tgt := 26) dX11_family_12 (by decide) (fun c_12 => ?_) (fun c_12 => ?_)
    · skip
      rw [rv_len, p_m.2.1] at c_12
      have hno : ¬ (q < 0 ∨ nI (T 28).length ≤ q) := fun z => z.elim c_1 fun z => absurd z (Int32.not_le.mpr c_12)
      obtain ⟨k, hkx, hk⟩ : ∃ k, q = nI k ∧ k < (T 28).length := ⟨_, oix_eq c_1, oix_lt c_1 c_12 (by have := w_k.2.2.2.2; have := w_k.1; omega)⟩
      subst hkx
      rw [opFam, if_neg hno, nI_clamp (by have := w_k.2.2.2.2; have := w_k.1; omega)]
      have u1 := p_m.2.2.2 _ hk
      refine E.aload_nR dX11_family_26 rfl ?_
      refine E.getS (k9 := 0) (fs := [.ref (S 1), .ref (S 2), .ref (S 3), .ref (S 4), .ref (S 5), .ref (S 6), .ref (S 7), .ref (S 8), .ref (S 9), .ref (S 10), .ref (S 11), .ref (S 12), .int (N 26), .int (N 27), .int (N 28), .int (N 25), .int (N 5), .int (N 6)]) dX11_family_27 fl_X11_58 rfl p_n rfl ?_
      refine E.iload_n dX11_family_30 rfl ?_
      refine E.callLS0 (k9 := 10) [.int (nI k)] dX11_family_31 mdJx4a65c_get_915e3 imJx4a65c_get_915e3 seJx4a65c_get_915e3 rfl p_m.1 lk_X11_163 rfl rfl rfl rfl (cCt.w0 (R := fun r => r = some (.ref ((A 10).getD k 0))) fun σ9 h9 => c_list_get (h9.at (k := 10) rfl p_m.1) (rv_at (by rw [p_m.2.1]; exact hk))) ?_
      rintro _ G9 D9 ⟨rfl, e9, e8⟩
      have e9 := e9.symm; subst e9; have e8 := e8.symm; subst e8
      refine E.castD dX11_family_34 cl_X11_324 cs_3 kc_3 u1 ?_
      refine E.astore_n (L' := [some (.ref (S 0)), some (.int (nI k)), some (.int x), some (.ref ((A 10).getD k 0))]) dX11_family_37 (by decide) rfl rfl ?_
      refine E.iload_n dX11_family_38 rfl ?_
      by_cases sw_39 : x.toInt < 0 ∨ 5 < x.toInt
      · refine E.tableOut (tgt := 115) dX11_family_39 sw_39 (by decide) ?_
        refine E.less (bc' := 0 + 1) (bs' := 0 + 6) (by omega) (by omega) ?_
        refine E.throw hX hNo tw_ns sr_X11_379 rfl rfl dX11_family_115 dX11_family_118 (Or.inr ⟨dX11_family_119, dX11_family_122, dX11_family_125⟩) ?_
        have hv9 : famV N T k x = none := by rw [famV, if_neg (sw_no (x := x) (v := 0) 0 5 sw_39 (by decide)), if_neg (sw_no (x := x) (v := 1) 0 5 sw_39 (by decide)), if_neg (sw_no (x := x) (v := 2) 0 5 sw_39 (by decide)), if_neg (sw_no (x := x) (v := 3) 0 5 sw_39 (by decide)), if_neg (sw_no (x := x) (v := 4) 0 5 sw_39 (by decide)), if_neg (sw_no (x := x) (v := 5) 0 5 sw_39 (by decide))]
        rw [hv9]
        exact ⟨0, rfl, rfl, A, L, p_a, p_b, p_n, p_k, p_f, p_h, p_w, p_c, p_r, p_q, p_o, p_m, p_t, p_d⟩
      by_cases sw_39_0 : x = 0
      · refine E.tableIn (off := 37) (tgt := 76) dX11_family_39 (by rw [sw_39_0]; decide) (by rw [sw_39_0]; decide) (by rw [sw_39_0]; rfl) (by decide) ?_
        refine E.aload_nR dX11_family_76 rfl ?_
        refine E.getD dX11_family_77 fl_X11_331 u1 rfl ?_
        refine E.if_eq (tgt := 87) dX11_family_80 (by decide) (fun c_80 => ?_) (fun c_80 => ?_)
        · skip
          refine E.iconst (v := 0) dX11_family_87 (by decide) ?_
          refine E.iret dX11_family_88 rfl ?_
          have hv9 : famV N T k x = some (ro (T 28) k 4) := by rw [famV, if_pos sw_39_0]
          rw [hv9]
          exact ⟨rfl, (congrArg (fun z => some (Value.int z)) (zro_no w_f.2 hk (of_decide_eq_false ((bI_eq0 _).mp c_80))).symm), A, L, p_a, p_b, p_n, p_k, p_f, p_h, p_w, p_c, p_r, p_q, p_o, p_m, p_t, p_d⟩
        · skip
          refine E.iconst (v := 1) dX11_family_83 (by decide) ?_
          refine E.goto (tgt := 88) dX11_family_84 (by decide) ?_
          refine E.iret dX11_family_88 rfl ?_
          have hv9 : famV N T k x = some (ro (T 28) k 4) := by rw [famV, if_pos sw_39_0]
          rw [hv9]
          exact ⟨rfl, (congrArg (fun z => some (Value.int z)) (of_decide_eq_true (bt1 c_80)).symm), A, L, p_a, p_b, p_n, p_k, p_f, p_h, p_w, p_c, p_r, p_q, p_o, p_m, p_t, p_d⟩
      by_cases sw_39_1 : x = 1
      · refine E.tableIn (off := 50) (tgt := 89) dX11_family_39 (by rw [sw_39_1]; decide) (by rw [sw_39_1]; decide) (by rw [sw_39_1]; rfl) (by decide) ?_
        refine E.aload_nR dX11_family_89 rfl ?_
        refine E.getD dX11_family_90 fl_X11_323 u1 rfl ?_
        refine E.iret dX11_family_93 rfl ?_
        have hv9 : famV N T k x = some (ro (T 28) k 0) := by rw [famV, if_neg sw_39_0, if_pos sw_39_1]
        rw [hv9]
        exact ⟨rfl, rfl, A, L, p_a, p_b, p_n, p_k, p_f, p_h, p_w, p_c, p_r, p_q, p_o, p_m, p_t, p_d⟩
      by_cases sw_39_2 : x = 2
      · refine E.tableIn (off := 55) (tgt := 94) dX11_family_39 (by rw [sw_39_2]; decide) (by rw [sw_39_2]; decide) (by rw [sw_39_2]; rfl) (by decide) ?_
        refine E.aload_nR dX11_family_94 rfl ?_
        refine E.getD dX11_family_95 fl_X11_346 u1 rfl ?_
        refine E.iret dX11_family_98 rfl ?_
        have hv9 : famV N T k x = some (ro (T 28) k 1) := by rw [famV, if_neg sw_39_0, if_neg sw_39_1, if_pos sw_39_2]
        rw [hv9]
        exact ⟨rfl, rfl, A, L, p_a, p_b, p_n, p_k, p_f, p_h, p_w, p_c, p_r, p_q, p_o, p_m, p_t, p_d⟩
      by_cases sw_39_3 : x = 3
      · refine E.tableIn (off := 60) (tgt := 99) dX11_family_39 (by rw [sw_39_3]; decide) (by rw [sw_39_3]; decide) (by rw [sw_39_3]; rfl) (by decide) ?_
        refine E.aload_nR dX11_family_99 rfl ?_
        refine E.getD dX11_family_100 fl_X11_372 u1 rfl ?_
        refine E.iret dX11_family_103 rfl ?_
        have hv9 : famV N T k x = some (ro (T 28) k 2) := by rw [famV, if_neg sw_39_0, if_neg sw_39_1, if_neg sw_39_2, if_pos sw_39_3]
        rw [hv9]
        exact ⟨rfl, rfl, A, L, p_a, p_b, p_n, p_k, p_f, p_h, p_w, p_c, p_r, p_q, p_o, p_m, p_t, p_d⟩
      by_cases sw_39_4 : x = 4
      · refine E.tableIn (off := 65) (tgt := 104) dX11_family_39 (by rw [sw_39_4]; decide) (by rw [sw_39_4]; decide) (by rw [sw_39_4]; rfl) (by decide) ?_
        refine E.aload_nR dX11_family_104 rfl ?_
        refine E.iload_n dX11_family_105 rfl ?_
        have hct := k_goodAccessTokens hS hR0 hW0 k
        refine E.callVS0 (k9 := 0) [.int (nI k)] dX11_family_106 mdX11_goodAccessTokens imX11_goodAccessTokens seX11_goodAccessTokens kc_12 rfl p_n lk_X11_373 rfl rfl rfl rfl hct ?_
        rintro _ G9 D9 ⟨rfl, e9, e8⟩
        have e9 := e9.symm; subst e9; have e8 := e8.symm; subst e8
        refine E.iret dX11_family_109 rfl ?_
        have hv9 : famV N T k x = some (nI (cntT (fun a => decide (ro (T 29) a 1 = nI k) && isgd N T a) (T 29).length)) := by rw [famV, if_neg sw_39_0, if_neg sw_39_1, if_neg sw_39_2, if_neg sw_39_3, if_pos sw_39_4]
        rw [hv9]
        exact ⟨rfl, rfl, A, L, p_a, p_b, p_n, p_k, p_f, p_h, p_w, p_c, p_r, p_q, p_o, p_m, p_t, p_d⟩
      by_cases sw_39_5 : x = 5
      · refine E.tableIn (off := 71) (tgt := 110) dX11_family_39 (by rw [sw_39_5]; decide) (by rw [sw_39_5]; decide) (by rw [sw_39_5]; rfl) (by decide) ?_
        refine E.aload_nR dX11_family_110 rfl ?_
        refine E.getD dX11_family_111 fl_X11_376 u1 rfl ?_
        refine E.iret dX11_family_114 rfl ?_
        have hv9 : famV N T k x = some (ro (T 28) k 3) := by rw [famV, if_neg sw_39_0, if_neg sw_39_1, if_neg sw_39_2, if_neg sw_39_3, if_neg sw_39_4, if_pos sw_39_5]
        rw [hv9]
        exact ⟨rfl, rfl, A, L, p_a, p_b, p_n, p_k, p_f, p_h, p_w, p_c, p_r, p_q, p_o, p_m, p_t, p_d⟩
      exact absurd (show x.toInt < 0 ∨ 5 < x.toInt by have n_0 : ¬ x.toInt = 0 := fun q => sw_39_0 (i32_eq.mpr (q.trans (by decide))); have n_1 : ¬ x.toInt = 1 := fun q => sw_39_1 (i32_eq.mpr (q.trans (by decide))); have n_2 : ¬ x.toInt = 2 := fun q => sw_39_2 (i32_eq.mpr (q.trans (by decide))); have n_3 : ¬ x.toInt = 3 := fun q => sw_39_3 (i32_eq.mpr (q.trans (by decide))); have n_4 : ¬ x.toInt = 4 := fun q => sw_39_4 (i32_eq.mpr (q.trans (by decide))); have n_5 : ¬ x.toInt = 5 := fun q => sw_39_5 (i32_eq.mpr (q.trans (by decide))); omega) sw_39
    · skip
      refine E.less (bc' := 0 + 1) (bs' := 0 + 6) (by omega) (by omega) ?_
      refine E.throw hX hNo tw_ns sr_X11_370 rfl rfl dX11_family_15 dX11_family_18 (Or.inr ⟨dX11_family_19, dX11_family_22, dX11_family_25⟩) ?_
      rw [opFam, if_pos (Or.inr (by rw [rv_len, p_m.2.1] at c_12; exact Int32.not_lt.mp c_12))]
      exact ⟨0, rfl, rfl, A, L, p_a, p_b, p_n, p_k, p_f, p_h, p_w, p_c, p_r, p_q, p_o, p_m, p_t, p_d⟩

theorem q_check {Λ : kL} {S : Nat → Nat} {G : Nat → kc} {D : kh} (hS : cInj S) (hX : kXo Λ) {A L : Nat → List Nat} {N : Nat → Int32} {B : Nat → List Int32} {T R : Nat → List (List Int32)} (hR : cR Λ S G D A L N B T R) (hW : wf N B T R) (x : Int32) : eCt Λ mX11_check 1 6 S [.ref (S 0), .int x] G D (eP Λ S (opChk N B T R x) xl_i) := by
  refine eCt.of hS pn_X11 [some (.ref (S 0)), some (.int x), none] rfl (Nat.le_of_ble_eq_true rfl) fun X hNo => ?_
  have hR0 := hR; have hW0 := hW
  obtain ⟨p_a, p_b, p_n, p_k, p_f, p_h, p_w, p_c, p_r, p_q, p_o, p_m, p_t, p_d⟩ := hR
  obtain ⟨w_a, w_n, w_w, w_c, w_r, w_x, w_q, w_k, w_f, w_t, w_m, w_l⟩ := hW
  have p_a9 := p_a; obtain ⟨ft, a1, a2, a3, a4, a5, a6⟩ := p_a9
  have p_b9 := p_b; obtain ⟨fo9, b1, b2, b3, b4, b5, b6⟩ := p_b9
  refine E.aload_nR dX11_check_0 rfl ?_
  refine E.aload_nR dX11_check_1 rfl ?_
  refine E.getS (k9 := 0) (fs := [.ref (S 1), .ref (S 2), .ref (S 3), .ref (S 4), .ref (S 5), .ref (S 6), .ref (S 7), .ref (S 8), .ref (S 9), .ref (S 10), .ref (S 11), .ref (S 12), .int (N 26), .int (N 27), .int (N 28), .int (N 25), .int (N 5), .int (N 6)]) dX11_check_2 fl_X11_14 rfl p_n rfl ?_
  refine E.callVS0 (k9 := 0) [.ref (S 1)] dX11_check_5 mdX11_accessOf imX11_accessOf seX11_accessOf kc_12 rfl p_n lk_X11_334 rfl rfl rfl rfl (k_accessOf hS hR0 hW0 (v := B 0) (fun σ9 h9 => ((show tO S G 1 13 2000 (B 0) from p_a).s.tx h9 rfl rfl))) ?_
  rintro _ _ _ (⟨hk9, rfl, e9, e8⟩ | ⟨hk9, rfl, e9, e8⟩)
  · have e9 := e9.symm; subst e9; have e8 := e8.symm; subst e8
    have u5 := p_t.2.2.2.2.2.2.2.1 _ hk9
    have lt_f9 : (rn (T 29) (hfn (T 21) (T 29) (B 0)) 1) < (T 28).length := w_t.2.2.1.rn hk9 (by have := w_k.2.2.2.2; have := w_k.1; omega)
    have u6 := p_m.2.2.2 _ lt_f9
    refine E.astore_n (L' := [some (.ref (S 0)), some (.int x), some (.ref ((A 11).getD (hfn (T 21) (T 29) (B 0)) 0))]) dX11_check_8 (by decide) rfl rfl ?_
    refine E.aload_nR dX11_check_9 rfl ?_
    refine E.getS (k9 := 0) (fs := [.ref (S 1), .ref (S 2), .ref (S 3), .ref (S 4), .ref (S 5), .ref (S 6), .ref (S 7), .ref (S 8), .ref (S 9), .ref (S 10), .ref (S 11), .ref (S 12), .int (N 26), .int (N 27), .int (N 28), .int (N 25), .int (N 5), .int (N 6)]) dX11_check_10 fl_X11_14 rfl p_n rfl ?_
    refine E.callVS0 (k9 := 1) [] dX11_check_13 mdX9_clear imX9_clear seX9_clear kc_10 rfl a1 lk_X11_109 rfl rfl rfl rfl (cCt.w1 (R := fun r => r = none) (i := 1) hS (by decide) fun σ9 h9 => c_Text_clear (h9.at (k := 1) rfl a1)) ?_
    rintro _ _ D9 ⟨rfl, rfl, e8⟩; have e8 := e8.symm; subst e8
    refine E.iload_n dX11_check_16 rfl ?_
    refine E.if_lt (tgt := 31) dX11_check_17 (by decide) (fun c_17 => ?_) (fun c_17 => ?_)
    · skip
      refine E.less (bc' := 0 + 1) (bs' := 0 + 6) (by omega) (by omega) ?_
      refine E.throw hX hNo tw_io sr_X11_340 rfl rfl dX11_check_31 dX11_check_34 (Or.inr ⟨dX11_check_35, dX11_check_38, dX11_check_41⟩) ?_
      rw [opChk, if_pos (Or.inl c_17)]
      exact ⟨0, rfl, rfl, A, L, ⟨ft, rfl, a2, Nat.zero_le _, by decide, rfl, bts_nil⟩, p_b, p_n, p_k, p_f, p_h, p_w, p_c, p_r, p_q, p_o, p_m, p_t, p_d⟩
    · skip
      refine E.iload_n dX11_check_20 rfl ?_
      refine E.aload_nR dX11_check_21 rfl ?_
      refine E.getS (k9 := 0) (fs := [.ref (S 1), .ref (S 2), .ref (S 3), .ref (S 4), .ref (S 5), .ref (S 6), .ref (S 7), .ref (S 8), .ref (S 9), .ref (S 10), .ref (S 11), .ref (S 12), .int (N 26), .int (N 27), .int (N 28), .int (N 25), .int (N 5), .int (N 6)]) dX11_check_22 fl_X11_45 rfl p_n rfl ?_
      refine E.callLS0 (k9 := 6) [] dX11_check_25 mdJx4a65c_size_8abf5 imJx4a65c_size_8abf5 seJx4a65c_size_8abf5 rfl p_w.1 lk_X11_123 rfl rfl rfl rfl (cCt.w0 (R := fun r => r = some (.int (nI (rv (A 6)).length))) fun σ9 h9 => c_list_size (h9.at (k := 6) rfl p_w.1)) ?_
      rintro _ G9 D9 ⟨rfl, e9, e8⟩
      have e9 := e9.symm; subst e9; have e8 := e8.symm; subst e8
      refine E.icmp_lt (tgt := 42) dX11_check_28 (by decide) (fun c_28 => ?_) (fun c_28 => ?_)
      · skip
        rw [rv_len, p_w.2.1] at c_28
        have hno : ¬ (x < 0 ∨ nI (T 2).length ≤ x) := fun z => z.elim c_17 fun z => absurd z (Int32.not_le.mpr c_28)
        obtain ⟨k, hkx, hkl⟩ : ∃ k, x = nI k ∧ k < (T 2).length := ⟨_, oix_eq c_17, oix_lt c_17 c_28 (by have := w_w.1; omega)⟩
        subst hkx
        have hk8 : k < 8 := by have := w_w.1; omega
        rw [opChk, if_neg hno, nI_clamp (by omega)]
        refine E.aload_nR dX11_check_42 rfl ?_
        refine E.ifnullR dX11_check_43 ?_
        refine E.aload_nR dX11_check_46 rfl ?_
        refine E.aload_nR dX11_check_47 rfl ?_
        refine E.getS (k9 := 0) (fs := [.ref (S 1), .ref (S 2), .ref (S 3), .ref (S 4), .ref (S 5), .ref (S 6), .ref (S 7), .ref (S 8), .ref (S 9), .ref (S 10), .ref (S 11), .ref (S 12), .int (N 26), .int (N 27), .int (N 28), .int (N 25), .int (N 5), .int (N 6)]) dX11_check_48 fl_X11_77 rfl p_n rfl ?_
        refine E.callVD0 [.int (N 25)] dX11_check_51 mdX10_isGood imX10_isGood seX10_isGood kc_11 u5 lk_X11_342 rfl rfl rfl rfl (cCt.w0 (R := fun r => r = some (.int (bI (isgd N T (hfn (T 21) (T 29) (B 0)))))) fun σ9 h9 => c_Token_isGood (h9.2.1 _ _ u5) (h9.2.1 _ _ u6) (N 25)) ?_
        rintro _ G9 D9 ⟨rfl, e9, e8⟩
        have e9 := e9.symm; subst e9; have e8 := e8.symm; subst e8
        refine E.if_ne (tgt := 69) dX11_check_54 (by decide) (fun c_54 => ?_) (fun c_54 => ?_)
        · skip
          refine E.iconst (v := 1) dX11_check_69 (by decide) ?_
          refine E.iload_n dX11_check_70 rfl ?_
          refine E.ishl dX11_check_71 ?_
          refine E.aload_nR dX11_check_72 rfl ?_
          refine E.getD dX11_check_73 fl_X11_345 u5 rfl ?_
          refine E.callS0 [.int (1 <<< ((nI k : Int32) &&& 31)), .int (ro (T 29) (hfn (T 21) (T 29) (B 0)) 2)] dX11_check_76 mdX11_isWithin ssX11_isWithin lk_X11_254 rfl rfl rfl rfl (cCt.w0 (R := fun r => r = some (.int (bI (sbt (ro (T 29) (hfn (T 21) (T 29) (B 0)) 2) k)))) fun σ9 h9 => (by have h8 := c_isWithin (Λ := Λ) (σ := σ9) (1 <<< (nI k &&& 31)) (ro (T 29) (hfn (T 21) (T 29) (B 0)) 2); rw [wthn_bit hk8] at h8; exact h8)) ?_
          rintro _ G9 D9 ⟨rfl, e9, e8⟩
          have e9 := e9.symm; subst e9; have e8 := e8.symm; subst e8
          refine E.if_ne (tgt := 94) dX11_check_79 (by decide) (fun c_79 => ?_) (fun c_79 => ?_)
          · skip
            refine E.aload_nR dX11_check_94 rfl ?_
            refine E.sipush (v := 200) dX11_check_95 (by decide) ?_
            refine E.iconst (v := 0) dX11_check_98 (by decide) ?_
            refine E.callVS0 (k9 := 0) [.int 200, .int 0] dX11_check_99 mdX11_answer imX11_answer seX11_answer kc_12 rfl p_n lk_X11_240 rfl rfl rfl rfl (k_answer hS (N := N) (show (updG G 1 (.inr (10, [.ref (S 13), .int (nI 0), .int 0]))) 0 = oGs S N from p_n) (show tO S (updG G 1 (.inr (10, [.ref (S 13), .int (nI 0), .int 0]))) 2 14 6200 (B 1) from p_b) 200 0) ?_
            rintro _ _ D9 ⟨rfl, rfl, e8⟩; have e8 := e8.symm; subst e8
            refine E.pop dX11_check_102 rfl ?_
            refine E.aload_nR dX11_check_103 rfl ?_
            refine E.getD dX11_check_104 fl_X11_317 u5 rfl ?_
            refine E.getD dX11_check_107 fl_X11_346 u6 rfl ?_
            refine E.iret dX11_check_110 rfl ?_
            rw [opChk2, if_pos ⟨hk9, bt1 c_54⟩, if_pos (bt1 c_79)]
            exact ⟨rfl, rfl, A, L, ⟨ft, rfl, a2, Nat.zero_le _, by decide, rfl, bts_nil⟩, ⟨fo9, rfl, b2, Nat.zero_le _, by decide, rfl, bts_nil⟩, rfl, p_k, p_f, p_h, p_w, p_c, p_r, p_q, p_o, p_m, p_t, p_d⟩
          · skip
            refine E.aload_nR dX11_check_82 rfl ?_
            refine E.sipush (v := 403) dX11_check_83 (by decide) ?_
            refine E.bipush (v := 10) dX11_check_86 (by decide) ?_
            refine E.callVS0 (k9 := 0) [.int 403, .int 10] dX11_check_88 mdX11_answer imX11_answer seX11_answer kc_12 rfl p_n lk_X11_240 rfl rfl rfl rfl (k_answer hS (N := N) (show (updG G 1 (.inr (10, [.ref (S 13), .int (nI 0), .int 0]))) 0 = oGs S N from p_n) (show tO S (updG G 1 (.inr (10, [.ref (S 13), .int (nI 0), .int 0]))) 2 14 6200 (B 1) from p_b) 403 10) ?_
            rintro _ _ D9 ⟨rfl, rfl, e8⟩; have e8 := e8.symm; subst e8
            refine E.pop dX11_check_91 rfl ?_
            refine E.iconst (v := 0) dX11_check_92 (by decide) ?_
            refine E.iret dX11_check_93 rfl ?_
            rw [opChk2, if_pos ⟨hk9, bt1 c_54⟩, if_neg (by rw [(bI_eq0 _).mp c_79]; decide)]
            exact ⟨rfl, rfl, A, L, ⟨ft, rfl, a2, Nat.zero_le _, by decide, rfl, bts_nil⟩, ⟨fo9, rfl, b2, Nat.zero_le _, by decide, rfl, bts_nil⟩, rfl, p_k, p_f, p_h, p_w, p_c, p_r, p_q, p_o, p_m, p_t, p_d⟩
        · skip
          refine E.aload_nR dX11_check_57 rfl ?_
          refine E.sipush (v := 401) dX11_check_58 (by decide) ?_
          refine E.bipush (v := 9) dX11_check_61 (by decide) ?_
          refine E.callVS0 (k9 := 0) [.int 401, .int 9] dX11_check_63 mdX11_answer imX11_answer seX11_answer kc_12 rfl p_n lk_X11_240 rfl rfl rfl rfl (k_answer hS (N := N) (show (updG G 1 (.inr (10, [.ref (S 13), .int (nI 0), .int 0]))) 0 = oGs S N from p_n) (show tO S (updG G 1 (.inr (10, [.ref (S 13), .int (nI 0), .int 0]))) 2 14 6200 (B 1) from p_b) 401 9) ?_
          rintro _ _ D9 ⟨rfl, rfl, e8⟩; have e8 := e8.symm; subst e8
          refine E.pop dX11_check_66 rfl ?_
          refine E.iconst (v := 0) dX11_check_67 (by decide) ?_
          refine E.iret dX11_check_68 rfl ?_
          rw [opChk2, if_neg (fun z => by rw [(bI_eq0 _).mp c_54] at z; exact absurd z.2 (by decide))]
          exact ⟨rfl, rfl, A, L, ⟨ft, rfl, a2, Nat.zero_le _, by decide, rfl, bts_nil⟩, ⟨fo9, rfl, b2, Nat.zero_le _, by decide, rfl, bts_nil⟩, rfl, p_k, p_f, p_h, p_w, p_c, p_r, p_q, p_o, p_m, p_t, p_d⟩
      · skip
        refine E.less (bc' := 0 + 1) (bs' := 0 + 6) (by omega) (by omega) ?_
        refine E.throw hX hNo tw_io sr_X11_340 rfl rfl dX11_check_31 dX11_check_34 (Or.inr ⟨dX11_check_35, dX11_check_38, dX11_check_41⟩) ?_
        rw [opChk, if_pos (Or.inr (by rw [rv_len, p_w.2.1] at c_28; exact Int32.not_lt.mp c_28))]
        exact ⟨0, rfl, rfl, A, L, ⟨ft, rfl, a2, Nat.zero_le _, by decide, rfl, bts_nil⟩, p_b, p_n, p_k, p_f, p_h, p_w, p_c, p_r, p_q, p_o, p_m, p_t, p_d⟩
  · have e9 := e9.symm; subst e9; have e8 := e8.symm; subst e8
    refine E.astore_nN (L' := [some (.ref (S 0)), some (.int x), some (.null)]) dX11_check_8 (by decide) rfl rfl ?_
    refine E.aload_nR dX11_check_9 rfl ?_
    refine E.getS (k9 := 0) (fs := [.ref (S 1), .ref (S 2), .ref (S 3), .ref (S 4), .ref (S 5), .ref (S 6), .ref (S 7), .ref (S 8), .ref (S 9), .ref (S 10), .ref (S 11), .ref (S 12), .int (N 26), .int (N 27), .int (N 28), .int (N 25), .int (N 5), .int (N 6)]) dX11_check_10 fl_X11_14 rfl p_n rfl ?_
    refine E.callVS0 (k9 := 1) [] dX11_check_13 mdX9_clear imX9_clear seX9_clear kc_10 rfl a1 lk_X11_109 rfl rfl rfl rfl (cCt.w1 (R := fun r => r = none) (i := 1) hS (by decide) fun σ9 h9 => c_Text_clear (h9.at (k := 1) rfl a1)) ?_
    rintro _ _ D9 ⟨rfl, rfl, e8⟩; have e8 := e8.symm; subst e8
    refine E.iload_n dX11_check_16 rfl ?_
    refine E.if_lt (tgt := 31) dX11_check_17 (by decide) (fun c_17 => ?_) (fun c_17 => ?_)
    · skip
      refine E.less (bc' := 0 + 1) (bs' := 0 + 6) (by omega) (by omega) ?_
      refine E.throw hX hNo tw_io sr_X11_340 rfl rfl dX11_check_31 dX11_check_34 (Or.inr ⟨dX11_check_35, dX11_check_38, dX11_check_41⟩) ?_
      rw [opChk, if_pos (Or.inl c_17)]
      exact ⟨0, rfl, rfl, A, L, ⟨ft, rfl, a2, Nat.zero_le _, by decide, rfl, bts_nil⟩, p_b, p_n, p_k, p_f, p_h, p_w, p_c, p_r, p_q, p_o, p_m, p_t, p_d⟩
    · skip
      refine E.iload_n dX11_check_20 rfl ?_
      refine E.aload_nR dX11_check_21 rfl ?_
      refine E.getS (k9 := 0) (fs := [.ref (S 1), .ref (S 2), .ref (S 3), .ref (S 4), .ref (S 5), .ref (S 6), .ref (S 7), .ref (S 8), .ref (S 9), .ref (S 10), .ref (S 11), .ref (S 12), .int (N 26), .int (N 27), .int (N 28), .int (N 25), .int (N 5), .int (N 6)]) dX11_check_22 fl_X11_45 rfl p_n rfl ?_
      refine E.callLS0 (k9 := 6) [] dX11_check_25 mdJx4a65c_size_8abf5 imJx4a65c_size_8abf5 seJx4a65c_size_8abf5 rfl p_w.1 lk_X11_123 rfl rfl rfl rfl (cCt.w0 (R := fun r => r = some (.int (nI (rv (A 6)).length))) fun σ9 h9 => c_list_size (h9.at (k := 6) rfl p_w.1)) ?_
      rintro _ G9 D9 ⟨rfl, e9, e8⟩
      have e9 := e9.symm; subst e9; have e8 := e8.symm; subst e8
      refine E.icmp_lt (tgt := 42) dX11_check_28 (by decide) (fun c_28 => ?_) (fun c_28 => ?_)
      · skip
        rw [rv_len, p_w.2.1] at c_28
        have hno : ¬ (x < 0 ∨ nI (T 2).length ≤ x) := fun z => z.elim c_17 fun z => absurd z (Int32.not_le.mpr c_28)
        obtain ⟨k, hkx, hkl⟩ : ∃ k, x = nI k ∧ k < (T 2).length := ⟨_, oix_eq c_17, oix_lt c_17 c_28 (by have := w_w.1; omega)⟩
        subst hkx
        have hk8 : k < 8 := by have := w_w.1; omega
        rw [opChk, if_neg hno, nI_clamp (by omega)]
        refine E.aload_nN dX11_check_42 rfl ?_
        refine E.ifnullN (tgt := 57) dX11_check_43 (by decide) ?_
        refine E.aload_nR dX11_check_57 rfl ?_
        refine E.sipush (v := 401) dX11_check_58 (by decide) ?_
        refine E.bipush (v := 9) dX11_check_61 (by decide) ?_
        refine E.callVS0 (k9 := 0) [.int 401, .int 9] dX11_check_63 mdX11_answer imX11_answer seX11_answer kc_12 rfl p_n lk_X11_240 rfl rfl rfl rfl (k_answer hS (N := N) (show (updG G 1 (.inr (10, [.ref (S 13), .int (nI 0), .int 0]))) 0 = oGs S N from p_n) (show tO S (updG G 1 (.inr (10, [.ref (S 13), .int (nI 0), .int 0]))) 2 14 6200 (B 1) from p_b) 401 9) ?_
        rintro _ _ D9 ⟨rfl, rfl, e8⟩; have e8 := e8.symm; subst e8
        refine E.pop dX11_check_66 rfl ?_
        refine E.iconst (v := 0) dX11_check_67 (by decide) ?_
        refine E.iret dX11_check_68 rfl ?_
        rw [opChk2, if_neg (fun z => hk9 z.1)]
        exact ⟨rfl, rfl, A, L, ⟨ft, rfl, a2, Nat.zero_le _, by decide, rfl, bts_nil⟩, ⟨fo9, rfl, b2, Nat.zero_le _, by decide, rfl, bts_nil⟩, rfl, p_k, p_f, p_h, p_w, p_c, p_r, p_q, p_o, p_m, p_t, p_d⟩
      · skip
        refine E.less (bc' := 0 + 1) (bs' := 0 + 6) (by omega) (by omega) ?_
        refine E.throw hX hNo tw_io sr_X11_340 rfl rfl dX11_check_31 dX11_check_34 (Or.inr ⟨dX11_check_35, dX11_check_38, dX11_check_41⟩) ?_
        rw [opChk, if_pos (Or.inr (by rw [rv_len, p_w.2.1] at c_28; exact Int32.not_lt.mp c_28))]
        exact ⟨0, rfl, rfl, A, L, ⟨ft, rfl, a2, Nat.zero_le _, by decide, rfl, bts_nil⟩, p_b, p_n, p_k, p_f, p_h, p_w, p_c, p_r, p_q, p_o, p_m, p_t, p_d⟩
