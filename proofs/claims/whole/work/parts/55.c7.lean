/-! the class: HANDLES that are shown, tokens -/
theorem find_kd {U M C : List (List Int32)} {kd : Int32} (hU4 : ∀ d ∈ U, d.length = 4) (hnd : noDup U) (hlw : lwr C 0 U.length) (hU : U.length < 2 ^ 31) (hM1 : ∀ i, i < U.length → ro M i 0 = kd → ∃ j, j < C.length ∧ ro M i 1 = nI j ∧ ro C j 0 = nI i) (hM2 : ∀ j, j < C.length → ro M (rn C j 0) 0 = kd ∧ ro M (rn C j 0) 1 = nI j) (v : List Int32) :
    (hfn U C v < C.length ∧ (if fnH M U kd v < U.length then ro M (fnH M U kd v) 1 else -1) = nI (hfn U C v)) ∨ (¬ hfn U C v < C.length ∧ (if fnH M U kd v < U.length then ro M (fnH M U kd v) 1 else -1) = -1) := by
  have h4 : ∀ i, i < U.length → (U.getD i []).length = 4 := fun i hi => by
    rw [List.getD_eq_getElem?_getD, List.getElem?_eq_getElem hi]
    exact hU4 _ (List.getElem_mem hi)
  have hyes : fnH M U kd v < U.length → ro M (fnH M U kd v) 0 = kd ∧ b64 (U.getD (fnH M U kd v) []) 22 = v := fun h => by
    have h9 := fsti_yes (p := fun i => decide (ro M i 0 = kd) && decide (b64 (U.getD i []) 22 = v)) (k := U.length) (i := 0) (by rw [fnH] at h; omega)
    have h8 : (decide (ro M (fnH M U kd v) 0 = kd) && decide (b64 (U.getD (fnH M U kd v) []) 22 = v)) = true := h9
    rw [Bool.and_eq_true] at h8
    exact ⟨of_decide_eq_true h8.1, of_decide_eq_true h8.2⟩
  by_cases h : hfn U C v < C.length
  · refine Or.inl ⟨h, ?_⟩
    have hi := hlw.rn h (by omega)
    have hv := hfn_yes h
    obtain ⟨m1, m2⟩ := hM2 _ h
    have hle : fnH M U kd v ≤ rn C (hfn U C v) 0 := by
      refine Nat.le_of_not_lt fun q => ?_
      have h9 := fsti_lt (p := fun i => decide (ro M i 0 = kd) && decide (b64 (U.getD i []) 22 = v)) (k := U.length) (i := 0) (j := rn C (hfn U C v) 0) (by omega) (by rw [fnH] at q; exact q)
      have h8 : (decide (ro M (rn C (hfn U C v) 0) 0 = kd) && decide (b64 (U.getD (rn C (hfn U C v) 0) []) 22 = v)) = false := h9
      rw [decide_eq_true m1, decide_eq_true hv.symm] at h8
      cases h8
    have hlt : fnH M U kd v < U.length := by omega
    obtain ⟨y1, y2⟩ := hyes hlt
    have he : fnH M U kd v = rn C (hfn U C v) 0 := hnd _ _ hlt hi (b64_inj (h4 _ hlt) (h4 _ hi) (y2.trans hv))
    rw [if_pos hlt, he, m2]
  · refine Or.inr ⟨h, if_neg fun hlt => h ?_⟩
    obtain ⟨y1, y2⟩ := hyes hlt
    obtain ⟨j, hj, e1, e2⟩ := hM1 _ hlt y1
    have hrn : rn C j 0 = fnH M U kd v := by rw [rn, e2, nI_clamp (by omega)]
    have := hfn_le (U := U) (C := C) (v := v) (z := j) hj (by rw [hrn]; exact y2.symm)
    omega
theorem wfm_0 {M K E G : List (List Int32)} {n : Nat} (h : wfm M K E G n) : ∀ i, i < n → ro M i 0 = 0 → ∃ j, j < K.length ∧ ro M i 1 = nI j ∧ ro K j 0 = nI i := fun i hi e => by
  rcases h.2.1 i (by rw [h.1]; exact hi) with q | q | q
  · exact q.2
  · rw [q.1] at e; exact absurd e (by decide)
  · rw [q.1] at e; exact absurd e (by decide)
theorem wfm_1 {M K E G : List (List Int32)} {n : Nat} (h : wfm M K E G n) : ∀ i, i < n → ro M i 0 = 1 → ∃ j, j < E.length ∧ ro M i 1 = nI j ∧ ro E j 0 = nI i := fun i hi e => by
  rcases h.2.1 i (by rw [h.1]; exact hi) with q | q | q
  · rw [q.1] at e; exact absurd e (by decide)
  · exact q.2
  · rw [q.1] at e; exact absurd e (by decide)
theorem wfm_2 {M K E G : List (List Int32)} {n : Nat} (h : wfm M K E G n) : ∀ i, i < n → ro M i 0 = 2 → ∃ j, j < G.length ∧ ro M i 1 = nI j ∧ ro G j 0 = nI i := fun i hi e => by
  rcases h.2.1 i (by rw [h.1]; exact hi) with q | q | q
  · rw [q.1] at e; exact absurd e (by decide)
  · rw [q.1] at e; exact absurd e (by decide)
  · exact q.2
theorem pow8 : ∀ k, k < 8 → (1 <<< (nI k &&& 31) : Int32).toBitVec = BitVec.twoPow 32 k := by decide
theorem wthn_bit {x : Int32} {k : Nat} (hk : k < 8) : wthn (1 <<< (nI k &&& 31)) x = sbt x k := by
  rw [wthn, sbt]
  have hz : ∀ j, j < 32 → ((1 <<< (nI k &&& 31) : Int32) &&& (x ^^^ -1)).toBitVec.getLsbD j = (decide (k = j) && !x.toBitVec.getLsbD j) := by
    intro j hj
    rw [Int32.toBitVec_and, BitVec.getLsbD_and, pow8 k hk, BitVec.getLsbD_twoPow, Int32.toBitVec_xor, BitVec.getLsbD_xor, show (-1 : Int32).toBitVec = BitVec.allOnes 32 from by decide, BitVec.getLsbD_allOnes, decide_eq_true hj, decide_eq_true (show k < 32 by omega)]
    cases x.toBitVec.getLsbD j <;> cases decide (k = j) <;> rfl
  have h0 : ∀ j, (0 : Int32).toBitVec.getLsbD j = false := fun j => by
    show (BitVec.ofNat 32 0).getLsbD j = false
    rw [BitVec.getLsbD_ofNat, Nat.zero_testBit, Bool.and_false]
  cases hb : x.toBitVec.getLsbD k with
  | true =>
    apply decide_eq_true
    apply Int32.toBitVec_inj.mp
    apply BitVec.eq_of_getLsbD_eq
    intro j hj
    rw [hz j hj, h0]
    by_cases e : k = j
    · rw [← e, hb, Bool.not_true, Bool.and_false]
    · rw [decide_eq_false e, Bool.false_and]
  | false =>
    apply decide_eq_false
    intro q
    have h1 := hz k (by omega)
    rw [q, h0, hb, decide_eq_true rfl] at h1
    cases h1
theorem cntT_y {p : Nat → Bool} {i : Nat} (h : p i = true) : cntT p (i + 1) = cntT p i + 1 := by rw [cntT_s, h]; rfl
theorem cntT_n {p : Nat → Bool} {i : Nat} (h : p i = false) : cntT p (i + 1) = cntT p i := by rw [cntT_s, h]; rfl

theorem iadd0 (x : Int32) : x + 0 = x := Int32.add_zero x
theorem k_openRequests {Λ : kL} {S : Nat → Nat} {G : Nat → kc} {D : kh} (hS : cInj S) {A L : Nat → List Nat} {N : Nat → Int32} {B : Nat → List Int32} {T R : Nat → List (List Int32)} (hR : cR Λ S G D A L N B T R) (hW : wf N B T R) : cCt Λ mX11_openRequests 0 0 S [.ref (S 0)] G D (fun r G' D' => r = some (.int (nI (cntT (fun k => decide (ro (T 23) k 3 = 1)) (T 23).length))) ∧ G' = G ∧ D' = D) := by
  refine cCt.of hS pn_X11 [some (.ref (S 0)), none, none] rfl (Nat.le_of_ble_eq_true rfl) fun X => ?_
  obtain ⟨p_a, p_b, p_n, p_k, p_f, p_h, p_w, p_c, p_r, p_q, p_o, p_m, p_t, p_d⟩ := hR
  obtain ⟨w_a, w_n, w_w, w_c, w_r, w_x, w_q, w_k, w_f, w_t, w_m, w_l⟩ := hW
  have p_a9 := p_a; obtain ⟨ft, a1, a2, a3, a4, a5, a6⟩ := p_a9
  have p_b9 := p_b; obtain ⟨fo9, b1, b2, b3, b4, b5, b6⟩ := p_b9
  have hl : (A 8).length = (T 23).length := p_q.2.1
  have hb9 : (T 23).length < 2 ^ 31 - 1 := by have := w_q.1; omega
  refine C.iconst (v := 0) dX11_openRequests_0 (by decide) ?_
  refine C.istore_n (L' := [some (.ref (S 0)), some (.int 0), none]) dX11_openRequests_1 (by decide) rfl rfl ?_
  refine C.iconst (v := 0) dX11_openRequests_2 (by decide) ?_
  refine C.istore_n (L' := [some (.ref (S 0)), some (.int 0), some (.int 0)]) dX11_openRequests_3 (by decide) rfl rfl ?_
  have cut_4 : ∀ (k_4 : Nat) (i : Nat), (i ≤ (T 23).length) → ((T 23).length + 1 ≤ i + k_4) → C Λ X mX11_openRequests 0 0 S (fun r G' D' => r = some (.int (nI (cntT (fun k => decide (ro (T 23) k 3 = 1)) (T 23).length))) ∧ G' = G ∧ D' = D) 0 0 G D 4 [some (.ref (S 0)), some (.int (nI (cntT (fun k => decide (ro (T 23) k 3 = 1)) i))), some (.int (nI i))] [] := by
    intro k_4
    induction k_4 with
    | zero => intro i h1 h2; exact absurd h2 (by omega)
    | succ k_4 ih_4 =>
      intro i h1 h2
      refine C.iload_n dX11_openRequests_4 rfl ?_
      refine C.aload_nR dX11_openRequests_5 rfl ?_
      refine C.getS (k9 := 0) (fs := [.ref (S 1), .ref (S 2), .ref (S 3), .ref (S 4), .ref (S 5), .ref (S 6), .ref (S 7), .ref (S 8), .ref (S 9), .ref (S 10), .ref (S 11), .ref (S 12), .int (N 26), .int (N 27), .int (N 28), .int (N 25), .int (N 5), .int (N 6)]) dX11_openRequests_6 fl_X11_52 rfl p_n rfl ?_
      refine C.callLS0 (k9 := 8) [] dX11_openRequests_9 mdJx4a65c_size_8abf5 imJx4a65c_size_8abf5 seJx4a65c_size_8abf5 rfl p_q.1 lk_X11_123 rfl rfl rfl rfl (cCt.w0 (R := fun r => r = some (.int (nI (rv (A 8)).length))) fun σ9 h9 => c_list_size (h9.at (k := 8) rfl p_q.1)) ?_
      rintro _ G9 D9 ⟨rfl, e9, e8⟩
      have e9 := e9.symm; subst e9; have e8 := e8.symm; subst e8
      refine C.icmp_ge (tgt := 46) dX11_openRequests_12 (by decide) (fun c_12 => ?_) (fun c_12 => ?_)
      · skip
        have ei : i = (T 23).length := by have h9 := c_12; rw [rv_len, hl] at h9; exact nI_gen h9 h1 (by omega)
        refine C.iload_n dX11_openRequests_46 rfl ?_
        refine C.iret dX11_openRequests_47 rfl ?_
        subst ei
        exact ⟨rfl, rfl, rfl⟩
      · skip
        have lt_i : i < (T 23).length := by have h9 := c_12; rw [rv_len, hl] at h9; exact nI_ltn h9 (by omega) (by omega)
        obtain ⟨r9, c9, s9, u1, _⟩ := p_q.2.2.2 i lt_i
        refine C.iload_n dX11_openRequests_15 rfl ?_
        refine C.aload_nR dX11_openRequests_16 rfl ?_
        refine C.getS (k9 := 0) (fs := [.ref (S 1), .ref (S 2), .ref (S 3), .ref (S 4), .ref (S 5), .ref (S 6), .ref (S 7), .ref (S 8), .ref (S 9), .ref (S 10), .ref (S 11), .ref (S 12), .int (N 26), .int (N 27), .int (N 28), .int (N 25), .int (N 5), .int (N 6)]) dX11_openRequests_17 fl_X11_52 rfl p_n rfl ?_
        refine C.iload_n dX11_openRequests_20 rfl ?_
        refine C.callLS0 (k9 := 8) [.int (nI i)] dX11_openRequests_21 mdJx4a65c_get_915e3 imJx4a65c_get_915e3 seJx4a65c_get_915e3 rfl p_q.1 lk_X11_163 rfl rfl rfl rfl (cCt.w0 (R := fun r => r = some (.ref ((A 8).getD i 0))) fun σ9 h9 => c_list_get (h9.at (k := 8) rfl p_q.1) (rv_at (by rw [hl]; exact lt_i))) ?_
        rintro _ G9 D9 ⟨rfl, e9, e8⟩
        have e9 := e9.symm; subst e9; have e8 := e8.symm; subst e8
        refine C.castD dX11_openRequests_24 cl_X11_228 cs_8 kc_8 u1 ?_
        refine C.getD dX11_openRequests_27 fl_X11_244 u1 rfl ?_
        refine C.if_eq (tgt := 37) dX11_openRequests_30 (by decide) (fun c_30 => ?_) (fun c_30 => ?_)
        · skip
          refine C.iconst (v := 0) dX11_openRequests_37 (by decide) ?_
          refine C.iadd dX11_openRequests_38 ?_
          rw [show (nI (cntT (fun k => decide (ro (T 23) k 3 = 1)) i)) + 0 = nI (cntT (fun k => decide (ro (T 23) k 3 = 1)) i) from iadd0 _]
          refine C.istore_n (L' := [some (.ref (S 0)), some (.int (nI (cntT (fun k => decide (ro (T 23) k 3 = 1)) i))), some (.int (nI i))]) dX11_openRequests_39 (by decide) rfl rfl ?_
          refine C.iinc (v := nI (i + 1)) (L' := [some (.ref (S 0)), some (.int (nI (cntT (fun k => decide (ro (T 23) k 3 = 1)) i))), some (.int (nI (i + 1)))]) dX11_openRequests_40 rfl (nI_1 i) (by decide) rfl rfl ?_
          refine C.goto (tgt := 4) dX11_openRequests_43 (by decide) ?_
          have t9 := ih_4 (i + 1) (by omega) (by omega)
          rw [cntT_n (p := (fun k => decide (ro (T 23) k 3 = 1))) ((bI_eq0 _).mp c_30)] at t9
          exact t9
        · skip
          refine C.iconst (v := 1) dX11_openRequests_33 (by decide) ?_
          refine C.goto (tgt := 38) dX11_openRequests_34 (by decide) ?_
          refine C.iadd dX11_openRequests_38 ?_
          rw [show (nI (cntT (fun k => decide (ro (T 23) k 3 = 1)) i)) + 1 = nI (cntT (fun k => decide (ro (T 23) k 3 = 1)) i + 1) from nI_1 _]
          refine C.istore_n (L' := [some (.ref (S 0)), some (.int (nI (cntT (fun k => decide (ro (T 23) k 3 = 1)) i + 1))), some (.int (nI i))]) dX11_openRequests_39 (by decide) rfl rfl ?_
          refine C.iinc (v := nI (i + 1)) (L' := [some (.ref (S 0)), some (.int (nI (cntT (fun k => decide (ro (T 23) k 3 = 1)) i + 1))), some (.int (nI (i + 1)))]) dX11_openRequests_40 rfl (nI_1 i) (by decide) rfl rfl ?_
          refine C.goto (tgt := 4) dX11_openRequests_43 (by decide) ?_
          have t9 := ih_4 (i + 1) (by omega) (by omega)
          rw [cntT_y (p := (fun k => decide (ro (T 23) k 3 = 1))) (bt1 c_30)] at t9
          exact t9
  exact cut_4 ((T 23).length + 1) 0 (by omega) (by omega)

theorem k_familiesTakenBack {Λ : kL} {S : Nat → Nat} {G : Nat → kc} {D : kh} (hS : cInj S) {A L : Nat → List Nat} {N : Nat → Int32} {B : Nat → List Int32} {T R : Nat → List (List Int32)} (hR : cR Λ S G D A L N B T R) (hW : wf N B T R) : cCt Λ mX11_familiesTakenBack 0 0 S [.ref (S 0)] G D (fun r G' D' => r = some (.int (nI (cntT (fun k => decide (ro (T 28) k 4 = 1)) (T 28).length))) ∧ G' = G ∧ D' = D) := by
  refine cCt.of hS pn_X11 [some (.ref (S 0)), none, none] rfl (Nat.le_of_ble_eq_true rfl) fun X => ?_
  obtain ⟨p_a, p_b, p_n, p_k, p_f, p_h, p_w, p_c, p_r, p_q, p_o, p_m, p_t, p_d⟩ := hR
  obtain ⟨w_a, w_n, w_w, w_c, w_r, w_x, w_q, w_k, w_f, w_t, w_m, w_l⟩ := hW
  have p_a9 := p_a; obtain ⟨ft, a1, a2, a3, a4, a5, a6⟩ := p_a9
  have p_b9 := p_b; obtain ⟨fo9, b1, b2, b3, b4, b5, b6⟩ := p_b9
  have hl : (A 10).length = (T 28).length := p_m.2.1
  have hb9 : (T 28).length < 2 ^ 31 - 1 := by have := w_k.2.2.2.2; have := w_k.1; omega
  refine C.iconst (v := 0) dX11_familiesTakenBack_0 (by decide) ?_
  refine C.istore_n (L' := [some (.ref (S 0)), some (.int 0), none]) dX11_familiesTakenBack_1 (by decide) rfl rfl ?_
  refine C.iconst (v := 0) dX11_familiesTakenBack_2 (by decide) ?_
  refine C.istore_n (L' := [some (.ref (S 0)), some (.int 0), some (.int 0)]) dX11_familiesTakenBack_3 (by decide) rfl rfl ?_
  have cut_4 : ∀ (k_4 : Nat) (i : Nat), (i ≤ (T 28).length) → ((T 28).length + 1 ≤ i + k_4) → C Λ X mX11_familiesTakenBack 0 0 S (fun r G' D' => r = some (.int (nI (cntT (fun k => decide (ro (T 28) k 4 = 1)) (T 28).length))) ∧ G' = G ∧ D' = D) 0 0 G D 4 [some (.ref (S 0)), some (.int (nI (cntT (fun k => decide (ro (T 28) k 4 = 1)) i))), some (.int (nI i))] [] := by
    intro k_4
    induction k_4 with
    | zero => intro i h1 h2; exact absurd h2 (by omega)
    | succ k_4 ih_4 =>
      intro i h1 h2
      refine C.iload_n dX11_familiesTakenBack_4 rfl ?_
      refine C.aload_nR dX11_familiesTakenBack_5 rfl ?_
      refine C.getS (k9 := 0) (fs := [.ref (S 1), .ref (S 2), .ref (S 3), .ref (S 4), .ref (S 5), .ref (S 6), .ref (S 7), .ref (S 8), .ref (S 9), .ref (S 10), .ref (S 11), .ref (S 12), .int (N 26), .int (N 27), .int (N 28), .int (N 25), .int (N 5), .int (N 6)]) dX11_familiesTakenBack_6 fl_X11_58 rfl p_n rfl ?_
      refine C.callLS0 (k9 := 10) [] dX11_familiesTakenBack_9 mdJx4a65c_size_8abf5 imJx4a65c_size_8abf5 seJx4a65c_size_8abf5 rfl p_m.1 lk_X11_123 rfl rfl rfl rfl (cCt.w0 (R := fun r => r = some (.int (nI (rv (A 10)).length))) fun σ9 h9 => c_list_size (h9.at (k := 10) rfl p_m.1)) ?_
      rintro _ G9 D9 ⟨rfl, e9, e8⟩
      have e9 := e9.symm; subst e9; have e8 := e8.symm; subst e8
      refine C.icmp_ge (tgt := 46) dX11_familiesTakenBack_12 (by decide) (fun c_12 => ?_) (fun c_12 => ?_)
      · skip
        have ei : i = (T 28).length := by have h9 := c_12; rw [rv_len, hl] at h9; exact nI_gen h9 h1 (by omega)
        refine C.iload_n dX11_familiesTakenBack_46 rfl ?_
        refine C.iret dX11_familiesTakenBack_47 rfl ?_
        subst ei
        exact ⟨rfl, rfl, rfl⟩
      · skip
        have lt_i : i < (T 28).length := by have h9 := c_12; rw [rv_len, hl] at h9; exact nI_ltn h9 (by omega) (by omega)
        have u1 := p_m.2.2.2 i lt_i
        refine C.iload_n dX11_familiesTakenBack_15 rfl ?_
        refine C.aload_nR dX11_familiesTakenBack_16 rfl ?_
        refine C.getS (k9 := 0) (fs := [.ref (S 1), .ref (S 2), .ref (S 3), .ref (S 4), .ref (S 5), .ref (S 6), .ref (S 7), .ref (S 8), .ref (S 9), .ref (S 10), .ref (S 11), .ref (S 12), .int (N 26), .int (N 27), .int (N 28), .int (N 25), .int (N 5), .int (N 6)]) dX11_familiesTakenBack_17 fl_X11_58 rfl p_n rfl ?_
        refine C.iload_n dX11_familiesTakenBack_20 rfl ?_
        refine C.callLS0 (k9 := 10) [.int (nI i)] dX11_familiesTakenBack_21 mdJx4a65c_get_915e3 imJx4a65c_get_915e3 seJx4a65c_get_915e3 rfl p_m.1 lk_X11_163 rfl rfl rfl rfl (cCt.w0 (R := fun r => r = some (.ref ((A 10).getD i 0))) fun σ9 h9 => c_list_get (h9.at (k := 10) rfl p_m.1) (rv_at (by rw [hl]; exact lt_i))) ?_
        rintro _ G9 D9 ⟨rfl, e9, e8⟩
        have e9 := e9.symm; subst e9; have e8 := e8.symm; subst e8
        refine C.castD dX11_familiesTakenBack_24 cl_X11_324 cs_3 kc_3 u1 ?_
        refine C.getD dX11_familiesTakenBack_27 fl_X11_331 u1 rfl ?_
        refine C.if_eq (tgt := 37) dX11_familiesTakenBack_30 (by decide) (fun c_30 => ?_) (fun c_30 => ?_)
        · skip
          refine C.iconst (v := 0) dX11_familiesTakenBack_37 (by decide) ?_
          refine C.iadd dX11_familiesTakenBack_38 ?_
          rw [show (nI (cntT (fun k => decide (ro (T 28) k 4 = 1)) i)) + 0 = nI (cntT (fun k => decide (ro (T 28) k 4 = 1)) i) from iadd0 _]
          refine C.istore_n (L' := [some (.ref (S 0)), some (.int (nI (cntT (fun k => decide (ro (T 28) k 4 = 1)) i))), some (.int (nI i))]) dX11_familiesTakenBack_39 (by decide) rfl rfl ?_
          refine C.iinc (v := nI (i + 1)) (L' := [some (.ref (S 0)), some (.int (nI (cntT (fun k => decide (ro (T 28) k 4 = 1)) i))), some (.int (nI (i + 1)))]) dX11_familiesTakenBack_40 rfl (nI_1 i) (by decide) rfl rfl ?_
          refine C.goto (tgt := 4) dX11_familiesTakenBack_43 (by decide) ?_
          have t9 := ih_4 (i + 1) (by omega) (by omega)
          rw [cntT_n (p := (fun k => decide (ro (T 28) k 4 = 1))) ((bI_eq0 _).mp c_30)] at t9
          exact t9
        · skip
          refine C.iconst (v := 1) dX11_familiesTakenBack_33 (by decide) ?_
          refine C.goto (tgt := 38) dX11_familiesTakenBack_34 (by decide) ?_
          refine C.iadd dX11_familiesTakenBack_38 ?_
          rw [show (nI (cntT (fun k => decide (ro (T 28) k 4 = 1)) i)) + 1 = nI (cntT (fun k => decide (ro (T 28) k 4 = 1)) i + 1) from nI_1 _]
          refine C.istore_n (L' := [some (.ref (S 0)), some (.int (nI (cntT (fun k => decide (ro (T 28) k 4 = 1)) i + 1))), some (.int (nI i))]) dX11_familiesTakenBack_39 (by decide) rfl rfl ?_
          refine C.iinc (v := nI (i + 1)) (L' := [some (.ref (S 0)), some (.int (nI (cntT (fun k => decide (ro (T 28) k 4 = 1)) i + 1))), some (.int (nI (i + 1)))]) dX11_familiesTakenBack_40 rfl (nI_1 i) (by decide) rfl rfl ?_
          refine C.goto (tgt := 4) dX11_familiesTakenBack_43 (by decide) ?_
          have t9 := ih_4 (i + 1) (by omega) (by omega)
          rw [cntT_y (p := (fun k => decide (ro (T 28) k 4 = 1))) (bt1 c_30)] at t9
          exact t9
  exact cut_4 ((T 28).length + 1) 0 (by omega) (by omega)

theorem k_goodAccessTokens {Λ : kL} {S : Nat → Nat} {G : Nat → kc} {D : kh} (hS : cInj S) {A L : Nat → List Nat} {N : Nat → Int32} {B : Nat → List Int32} {T R : Nat → List (List Int32)} (hR : cR Λ S G D A L N B T R) (hW : wf N B T R) (k : Nat) : cCt Λ mX11_goodAccessTokens 0 0 S [.ref (S 0), .int (nI k)] G D (fun r G' D' => r = some (.int (nI (cntT (fun a => decide (ro (T 29) a 1 = nI k) && isgd N T a) (T 29).length))) ∧ G' = G ∧ D' = D) := by
  refine cCt.of hS pn_X11 [some (.ref (S 0)), some (.int (nI k)), none, none, none] rfl (Nat.le_of_ble_eq_true rfl) fun X => ?_
  obtain ⟨p_a, p_b, p_n, p_k, p_f, p_h, p_w, p_c, p_r, p_q, p_o, p_m, p_t, p_d⟩ := hR
  obtain ⟨w_a, w_n, w_w, w_c, w_r, w_x, w_q, w_k, w_f, w_t, w_m, w_l⟩ := hW
  have p_a9 := p_a; obtain ⟨ft, a1, a2, a3, a4, a5, a6⟩ := p_a9
  have p_b9 := p_b; obtain ⟨fo9, b1, b2, b3, b4, b5, b6⟩ := p_b9
  have hl : (A 11).length = (T 29).length := p_t.2.2.1
  have hb9 : (T 29).length ≤ 300 := w_t.1
  have hb8 : (T 28).length ≤ 200 := by have := w_k.2.2.2.2; have := w_k.1; omega
  refine C.iconst (v := 0) dX11_goodAccessTokens_0 (by decide) ?_
  refine C.istore_n (L' := [some (.ref (S 0)), some (.int (nI k)), some (.int 0), none, none]) dX11_goodAccessTokens_1 (by decide) rfl rfl ?_
  refine C.iconst (v := 0) dX11_goodAccessTokens_2 (by decide) ?_
  refine C.istore_n (L' := [some (.ref (S 0)), some (.int (nI k)), some (.int 0), some (.int 0), none]) dX11_goodAccessTokens_3 (by decide) rfl rfl ?_
  have cut_4 : ∀ (k_4 : Nat) (i : Nat), (i ≤ (T 29).length) → ((T 29).length + 1 ≤ i + k_4) → C Λ X mX11_goodAccessTokens 0 0 S (fun r G' D' => r = some (.int (nI (cntT (fun a => decide (ro (T 29) a 1 = nI k) && isgd N T a) (T 29).length))) ∧ G' = G ∧ D' = D) 0 0 G D 4 [some (.ref (S 0)), some (.int (nI k)), some (.int (nI (cntT (fun a => decide (ro (T 29) a 1 = nI k) && isgd N T a) i))), some (.int (nI i)), none] [] := by
    intro k_4
    induction k_4 with
    | zero => intro i h1 h2; exact absurd h2 (by omega)
    | succ k_4 ih_4 =>
      intro i h1 h2
      refine C.iload_n dX11_goodAccessTokens_4 rfl ?_
      refine C.aload_nR dX11_goodAccessTokens_5 rfl ?_
      refine C.getS (k9 := 0) (fs := [.ref (S 1), .ref (S 2), .ref (S 3), .ref (S 4), .ref (S 5), .ref (S 6), .ref (S 7), .ref (S 8), .ref (S 9), .ref (S 10), .ref (S 11), .ref (S 12), .int (N 26), .int (N 27), .int (N 28), .int (N 25), .int (N 5), .int (N 6)]) dX11_goodAccessTokens_6 fl_X11_61 rfl p_n rfl ?_
      refine C.callLS0 (k9 := 11) [] dX11_goodAccessTokens_9 mdJx4a65c_size_8abf5 imJx4a65c_size_8abf5 seJx4a65c_size_8abf5 rfl p_t.1 lk_X11_123 rfl rfl rfl rfl (cCt.w0 (R := fun r => r = some (.int (nI (rv (A 11)).length))) fun σ9 h9 => c_list_size (h9.at (k := 11) rfl p_t.1)) ?_
      rintro _ G9 D9 ⟨rfl, e9, e8⟩
      have e9 := e9.symm; subst e9; have e8 := e8.symm; subst e8
      refine C.icmp_ge (tgt := 61) dX11_goodAccessTokens_12 (by decide) (fun c_12 => ?_) (fun c_12 => ?_)
      · skip
        have ei : i = (T 29).length := by have h9 := c_12; rw [rv_len, hl] at h9; exact nI_gen h9 h1 (by omega)
        refine C.iload_n dX11_goodAccessTokens_61 rfl ?_
        refine C.iret dX11_goodAccessTokens_62 rfl ?_
        subst ei
        exact ⟨rfl, rfl, rfl⟩
      · skip
        have lt_i : i < (T 29).length := by have h9 := c_12; rw [rv_len, hl] at h9; exact nI_ltn h9 (by omega) (by omega)
        have u1 := p_t.2.2.2.2.2.2.2.1 i lt_i
        have lt_f : rn (T 29) i 1 < (T 28).length := w_t.2.2.1.rn lt_i (by omega)
        have u2 := p_m.2.2.2 _ lt_f
        have hfi : ro (T 29) i 1 = nI (rn (T 29) i 1) := by obtain ⟨j, hj, e⟩ := w_t.2.2.1 i lt_i; rw [rn, show ro (T 29) i 1 = nI j from e, nI_clamp (by omega)]
        have hgd : (decide (N 25 < ro (T 29) i 3) && !decide (ro (T 29) i 4 = 1) && !decide (ro (T 28) (rn (T 29) i 1) 4 = 1)) = isgd N T i := rfl
        refine C.aload_nR dX11_goodAccessTokens_15 rfl ?_
        refine C.getS (k9 := 0) (fs := [.ref (S 1), .ref (S 2), .ref (S 3), .ref (S 4), .ref (S 5), .ref (S 6), .ref (S 7), .ref (S 8), .ref (S 9), .ref (S 10), .ref (S 11), .ref (S 12), .int (N 26), .int (N 27), .int (N 28), .int (N 25), .int (N 5), .int (N 6)]) dX11_goodAccessTokens_16 fl_X11_61 rfl p_n rfl ?_
        refine C.iload_n dX11_goodAccessTokens_19 rfl ?_
        refine C.callLS0 (k9 := 11) [.int (nI i)] dX11_goodAccessTokens_20 mdJx4a65c_get_915e3 imJx4a65c_get_915e3 seJx4a65c_get_915e3 rfl p_t.1 lk_X11_163 rfl rfl rfl rfl (cCt.w0 (R := fun r => r = some (.ref ((A 11).getD i 0))) fun σ9 h9 => c_list_get (h9.at (k := 11) rfl p_t.1) (rv_at (by rw [hl]; exact lt_i))) ?_
        rintro _ G9 D9 ⟨rfl, e9, e8⟩
        have e9 := e9.symm; subst e9; have e8 := e8.symm; subst e8
        refine C.castD dX11_goodAccessTokens_23 cl_X11_318 cs_11 kc_11 u1 ?_
        refine C.astore (L' := [some (.ref (S 0)), some (.int (nI k)), some (.int (nI (cntT (fun a => decide (ro (T 29) a 1 = nI k) && isgd N T a) i))), some (.int (nI i)), some (.ref ((A 11).getD i 0))]) dX11_goodAccessTokens_26 (by decide) rfl rfl ?_
        refine C.aloadR dX11_goodAccessTokens_28 rfl ?_
        refine C.getD dX11_goodAccessTokens_30 fl_X11_317 u1 rfl ?_
        refine C.getD dX11_goodAccessTokens_33 fl_X11_367 u2 rfl ?_
        refine C.iload_n dX11_goodAccessTokens_36 rfl ?_
        refine C.icmp_ne (tgt := 55) dX11_goodAccessTokens_37 (by decide) (fun c_37 => ?_) (fun c_37 => ?_)
        · skip
          refine C.iinc (v := nI (i + 1)) (L' := [some (.ref (S 0)), some (.int (nI k)), some (.int (nI (cntT (fun a => decide (ro (T 29) a 1 = nI k) && isgd N T a) i))), some (.int (nI (i + 1))), some (.ref ((A 11).getD i 0))]) dX11_goodAccessTokens_55 rfl (nI_1 i) (by decide) rfl rfl ?_
          refine C.goto (tgt := 4) dX11_goodAccessTokens_58 (by decide) ?_
          refine C.drop (i := 4) (L' := [some (.ref (S 0)), some (.int (nI k)), some (.int (nI (cntT (fun a => decide (ro (T 29) a 1 = nI k) && isgd N T a) i))), some (.int (nI (i + 1))), none]) rfl ?_
          have t9 := ih_4 (i + 1) (by omega) (by omega)
          rw [cntT_n (p := (fun a => decide (ro (T 29) a 1 = nI k) && isgd N T a)) (by show (decide _ && isgd N T i) = false; rw [decide_eq_false (fun q => c_37 (hfi.symm.trans q)), Bool.false_and])] at t9
          exact t9
        · skip
          refine C.aloadR dX11_goodAccessTokens_40 rfl ?_
          refine C.aload_nR dX11_goodAccessTokens_42 rfl ?_
          refine C.getS (k9 := 0) (fs := [.ref (S 1), .ref (S 2), .ref (S 3), .ref (S 4), .ref (S 5), .ref (S 6), .ref (S 7), .ref (S 8), .ref (S 9), .ref (S 10), .ref (S 11), .ref (S 12), .int (N 26), .int (N 27), .int (N 28), .int (N 25), .int (N 5), .int (N 6)]) dX11_goodAccessTokens_43 fl_X11_77 rfl p_n rfl ?_
          refine C.callVD0 [.int (N 25)] dX11_goodAccessTokens_46 mdX10_isGood imX10_isGood seX10_isGood kc_11 u1 lk_X11_342 rfl rfl rfl rfl (cCt.w0 (R := fun r => r = some (.int (bI (decide (N 25 < ro (T 29) i 3) && !decide (ro (T 29) i 4 = 1) && !decide (ro (T 28) (rn (T 29) i 1) 4 = 1))))) fun σ9 h9 => c_Token_isGood (h9.2.1 _ _ u1) (h9.2.1 _ _ u2) _) ?_
          rintro _ G9 D9 ⟨rfl, e9, e8⟩
          have e9 := e9.symm; subst e9; have e8 := e8.symm; subst e8
          refine C.if_eq (tgt := 55) dX11_goodAccessTokens_49 (by decide) (fun c_49 => ?_) (fun c_49 => ?_)
          · skip
            refine C.iinc (v := nI (i + 1)) (L' := [some (.ref (S 0)), some (.int (nI k)), some (.int (nI (cntT (fun a => decide (ro (T 29) a 1 = nI k) && isgd N T a) i))), some (.int (nI (i + 1))), some (.ref ((A 11).getD i 0))]) dX11_goodAccessTokens_55 rfl (nI_1 i) (by decide) rfl rfl ?_
            refine C.goto (tgt := 4) dX11_goodAccessTokens_58 (by decide) ?_
            refine C.drop (i := 4) (L' := [some (.ref (S 0)), some (.int (nI k)), some (.int (nI (cntT (fun a => decide (ro (T 29) a 1 = nI k) && isgd N T a) i))), some (.int (nI (i + 1))), none]) rfl ?_
            have t9 := ih_4 (i + 1) (by omega) (by omega)
            rw [cntT_n (p := (fun a => decide (ro (T 29) a 1 = nI k) && isgd N T a)) (by show (decide _ && isgd N T i) = false; rw [← hgd, (bI_eq0 _).mp c_49, Bool.and_false])] at t9
            exact t9
          · skip
            refine C.iinc (v := nI (cntT (fun a => decide (ro (T 29) a 1 = nI k) && isgd N T a) i + 1)) (L' := [some (.ref (S 0)), some (.int (nI k)), some (.int (nI (cntT (fun a => decide (ro (T 29) a 1 = nI k) && isgd N T a) i + 1))), some (.int (nI i)), some (.ref ((A 11).getD i 0))]) dX11_goodAccessTokens_52 rfl (nI_1 _) (by decide) rfl rfl ?_
            refine C.iinc (v := nI (i + 1)) (L' := [some (.ref (S 0)), some (.int (nI k)), some (.int (nI (cntT (fun a => decide (ro (T 29) a 1 = nI k) && isgd N T a) i + 1))), some (.int (nI (i + 1))), some (.ref ((A 11).getD i 0))]) dX11_goodAccessTokens_55 rfl (nI_1 i) (by decide) rfl rfl ?_
            refine C.goto (tgt := 4) dX11_goodAccessTokens_58 (by decide) ?_
            refine C.drop (i := 4) (L' := [some (.ref (S 0)), some (.int (nI k)), some (.int (nI (cntT (fun a => decide (ro (T 29) a 1 = nI k) && isgd N T a) i + 1))), some (.int (nI (i + 1))), none]) rfl ?_
            have t9 := ih_4 (i + 1) (by omega) (by omega)
            rw [cntT_y (p := (fun a => decide (ro (T 29) a 1 = nI k) && isgd N T a)) (by show (decide _ && isgd N T i) = true; rw [decide_eq_true (hfi.trans c_37), ← hgd, bt1 c_49]; rfl)] at t9
            exact t9
  exact cut_4 ((T 29).length + 1) 0 (by omega) (by omega)

theorem k_codeOf {Λ : kL} {S : Nat → Nat} {G : Nat → kc} {D : kh} (hS : cInj S) {A L : Nat → List Nat} {N : Nat → Int32} {B : Nat → List Int32} {T R : Nat → List (List Int32)} (hR : cR Λ S G D A L N B T R) (hW : wf N B T R) {tt : Nat} {v : List Int32} (hT : ∀ σ, cHas σ S G D → tx σ tt v) : cCt Λ mX11_codeOf 0 0 S [.ref (S 0), .ref tt] G D (fun r G' D' => ((hfn (T 21) (T 27) v) < (T 27).length ∧ r = some (.ref ((A 9).getD (hfn (T 21) (T 27) v) 0)) ∧ G' = G ∧ D' = D) ∨ (¬ (hfn (T 21) (T 27) v) < (T 27).length ∧ r = some .null ∧ G' = G ∧ D' = D)) := by
  refine cCt.of hS pn_X11 [some (.ref (S 0)), some (.ref tt), none] rfl (Nat.le_of_ble_eq_true rfl) fun X => ?_
  obtain ⟨p_a, p_b, p_n, p_k, p_f, p_h, p_w, p_c, p_r, p_q, p_o, p_m, p_t, p_d⟩ := hR
  obtain ⟨w_a, w_n, w_w, w_c, w_r, w_x, w_q, w_k, w_f, w_t, w_m, w_l⟩ := hW
  have p_a9 := p_a; obtain ⟨ft, a1, a2, a3, a4, a5, a6⟩ := p_a9
  have p_b9 := p_b; obtain ⟨fo9, b1, b2, b3, b4, b5, b6⟩ := p_b9
  have hl9 : (A 9).length = (T 27).length := p_o.2.1
  have hU8 : (T 21).length ≤ 800 := by have := w_x.2.2.2.2; have := w_k.1; have := w_t.1; have := w_t.2.2.2.2.1; omega
  have hb1 := w_k.1; have hb2 := w_t.1; have hb3 := w_t.2.2.2.2.1
  refine C.aload_nR dX11_codeOf_0 rfl ?_
  refine C.getS (k9 := 0) (fs := [.ref (S 1), .ref (S 2), .ref (S 3), .ref (S 4), .ref (S 5), .ref (S 6), .ref (S 7), .ref (S 8), .ref (S 9), .ref (S 10), .ref (S 11), .ref (S 12), .int (N 26), .int (N 27), .int (N 28), .int (N 25), .int (N 5), .int (N 6)]) dX11_codeOf_1 fl_X11_31 rfl p_n rfl ?_
  refine C.iconst (v := 0) dX11_codeOf_4 (by decide) ?_
  refine C.aload_nR dX11_codeOf_5 rfl ?_
  refine C.callVS0 (k9 := 4) [.int 0, .ref tt] dX11_codeOf_6 mdX6_find imX6_find seX6_find kc_7 rfl p_k.2.1 lk_X11_524 rfl rfl rfl rfl (k_find hS p_k.2.1 p_d.2.1 p_d.2.2 (by omega) 0 hT) ?_
  rintro _ G9 D9 ⟨rfl, e9, e8⟩; have e9 := e9.symm; subst e9; have e8 := e8.symm; subst e8
  rcases find_kd w_x.2.2.1 w_x.2.2.2.1 w_k.2.1 (by omega) (wfm_0 w_m) w_m.2.2.1 v with ⟨hk, hv9⟩ | ⟨hk, hv9⟩
  · rw [hv9]
    obtain ⟨fs9, u1⟩ : ∃ fs, D ((A 9).getD (hfn (T 21) (T 27) v) 0) = some (.inr (2, fs)) := by exact ⟨_, p_o.2.2.2 _ hk⟩
    refine C.istore_n (L' := [some (.ref (S 0)), some (.ref tt), some (.int (nI (hfn (T 21) (T 27) v)))]) dX11_codeOf_9 (by decide) rfl rfl ?_
    refine C.iload_n dX11_codeOf_10 rfl ?_
    refine C.if_lt (tgt := 39) dX11_codeOf_11 (by decide) (fun c_11 => absurd c_11 (nI_pos (by omega))) (fun c_11 => ?_)
    refine C.iload_n dX11_codeOf_14 rfl ?_
    refine C.aload_nR dX11_codeOf_15 rfl ?_
    refine C.getS (k9 := 0) (fs := [.ref (S 1), .ref (S 2), .ref (S 3), .ref (S 4), .ref (S 5), .ref (S 6), .ref (S 7), .ref (S 8), .ref (S 9), .ref (S 10), .ref (S 11), .ref (S 12), .int (N 26), .int (N 27), .int (N 28), .int (N 25), .int (N 5), .int (N 6)]) dX11_codeOf_16 fl_X11_55 rfl p_n rfl ?_
    refine C.callLS0 (k9 := 9) [] dX11_codeOf_19 mdJx4a65c_size_8abf5 imJx4a65c_size_8abf5 seJx4a65c_size_8abf5 rfl p_o.1 lk_X11_123 rfl rfl rfl rfl (cCt.w0 (R := fun r => r = some (.int (nI (rv (A 9)).length))) fun σ9 h9 => c_list_size (h9.at (k := 9) rfl p_o.1)) ?_
    rintro _ G9 D9 ⟨rfl, e9, e8⟩
    have e9 := e9.symm; subst e9; have e8 := e8.symm; subst e8
    refine C.icmp_ge (tgt := 39) dX11_codeOf_22 (by decide) (fun c_22 => absurd c_22 (by rw [rv_len, hl9]; exact fun q => absurd ((nI_leI (by omega) (by omega)).mp q) (by omega))) (fun c_22 => ?_)
    refine C.aload_nR dX11_codeOf_25 rfl ?_
    refine C.getS (k9 := 0) (fs := [.ref (S 1), .ref (S 2), .ref (S 3), .ref (S 4), .ref (S 5), .ref (S 6), .ref (S 7), .ref (S 8), .ref (S 9), .ref (S 10), .ref (S 11), .ref (S 12), .int (N 26), .int (N 27), .int (N 28), .int (N 25), .int (N 5), .int (N 6)]) dX11_codeOf_26 fl_X11_55 rfl p_n rfl ?_
    refine C.iload_n dX11_codeOf_29 rfl ?_
    refine C.callLS0 (k9 := 9) [.int (nI (hfn (T 21) (T 27) v))] dX11_codeOf_30 mdJx4a65c_get_915e3 imJx4a65c_get_915e3 seJx4a65c_get_915e3 rfl p_o.1 lk_X11_163 rfl rfl rfl rfl (cCt.w0 (R := fun r => r = some (.ref ((A 9).getD (hfn (T 21) (T 27) v) 0))) fun σ9 h9 => c_list_get (h9.at (k := 9) rfl p_o.1) (rv_at (by rw [hl9]; exact hk))) ?_
    rintro _ G9 D9 ⟨rfl, e9, e8⟩
    have e9 := e9.symm; subst e9; have e8 := e8.symm; subst e8
    refine C.castD dX11_codeOf_33 cl_X11_273 cs_2 kc_2 u1 ?_
    refine C.goto (tgt := 40) dX11_codeOf_36 (by decide) ?_
    refine C.aret (r := some ((A 9).getD (hfn (T 21) (T 27) v) 0)) dX11_codeOf_40 rfl (by first | exact Or.inl ⟨_, rfl⟩ | exact Or.inr ⟨_, rfl⟩) ?_
    exact Or.inl ⟨hk, rfl, rfl, rfl⟩
  · rw [hv9]
    refine C.istore_n (L' := [some (.ref (S 0)), some (.ref tt), some (.int (-1))]) dX11_codeOf_9 (by decide) rfl rfl ?_
    refine C.iload_n dX11_codeOf_10 rfl ?_
    refine C.if_lt (tgt := 39) dX11_codeOf_11 (by decide) (fun c_11 => ?_) (fun c_11 => absurd (by decide) c_11)
    refine C.aconst_null dX11_codeOf_39 ?_
    refine C.aret (r := none) dX11_codeOf_40 rfl (by first | exact Or.inl ⟨_, rfl⟩ | exact Or.inr ⟨_, rfl⟩) ?_
    exact Or.inr ⟨hk, rfl, rfl, rfl⟩

theorem k_accessOf {Λ : kL} {S : Nat → Nat} {G : Nat → kc} {D : kh} (hS : cInj S) {A L : Nat → List Nat} {N : Nat → Int32} {B : Nat → List Int32} {T R : Nat → List (List Int32)} (hR : cR Λ S G D A L N B T R) (hW : wf N B T R) {tt : Nat} {v : List Int32} (hT : ∀ σ, cHas σ S G D → tx σ tt v) : cCt Λ mX11_accessOf 0 0 S [.ref (S 0), .ref tt] G D (fun r G' D' => ((hfn (T 21) (T 29) v) < (T 29).length ∧ r = some (.ref ((A 11).getD (hfn (T 21) (T 29) v) 0)) ∧ G' = G ∧ D' = D) ∨ (¬ (hfn (T 21) (T 29) v) < (T 29).length ∧ r = some .null ∧ G' = G ∧ D' = D)) := by
  refine cCt.of hS pn_X11 [some (.ref (S 0)), some (.ref tt), none] rfl (Nat.le_of_ble_eq_true rfl) fun X => ?_
  obtain ⟨p_a, p_b, p_n, p_k, p_f, p_h, p_w, p_c, p_r, p_q, p_o, p_m, p_t, p_d⟩ := hR
  obtain ⟨w_a, w_n, w_w, w_c, w_r, w_x, w_q, w_k, w_f, w_t, w_m, w_l⟩ := hW
  have p_a9 := p_a; obtain ⟨ft, a1, a2, a3, a4, a5, a6⟩ := p_a9
  have p_b9 := p_b; obtain ⟨fo9, b1, b2, b3, b4, b5, b6⟩ := p_b9
  have hl9 : (A 11).length = (T 29).length := p_t.2.2.1
  have hU8 : (T 21).length ≤ 800 := by have := w_x.2.2.2.2; have := w_k.1; have := w_t.1; have := w_t.2.2.2.2.1; omega
  have hb1 := w_k.1; have hb2 := w_t.1; have hb3 := w_t.2.2.2.2.1
  refine C.aload_nR dX11_accessOf_0 rfl ?_
  refine C.getS (k9 := 0) (fs := [.ref (S 1), .ref (S 2), .ref (S 3), .ref (S 4), .ref (S 5), .ref (S 6), .ref (S 7), .ref (S 8), .ref (S 9), .ref (S 10), .ref (S 11), .ref (S 12), .int (N 26), .int (N 27), .int (N 28), .int (N 25), .int (N 5), .int (N 6)]) dX11_accessOf_1 fl_X11_31 rfl p_n rfl ?_
  refine C.iconst (v := 1) dX11_accessOf_4 (by decide) ?_
  refine C.aload_nR dX11_accessOf_5 rfl ?_
  refine C.callVS0 (k9 := 4) [.int 1, .ref tt] dX11_accessOf_6 mdX6_find imX6_find seX6_find kc_7 rfl p_k.2.1 lk_X11_524 rfl rfl rfl rfl (k_find hS p_k.2.1 p_d.2.1 p_d.2.2 (by omega) 1 hT) ?_
  rintro _ G9 D9 ⟨rfl, e9, e8⟩; have e9 := e9.symm; subst e9; have e8 := e8.symm; subst e8
  rcases find_kd w_x.2.2.1 w_x.2.2.2.1 w_t.2.1 (by omega) (wfm_1 w_m) w_m.2.2.2.1 v with ⟨hk, hv9⟩ | ⟨hk, hv9⟩
  · rw [hv9]
    obtain ⟨fs9, u1⟩ : ∃ fs, D ((A 11).getD (hfn (T 21) (T 29) v) 0) = some (.inr (11, fs)) := by exact ⟨_, p_t.2.2.2.2.2.2.2.1 _ hk⟩
    refine C.istore_n (L' := [some (.ref (S 0)), some (.ref tt), some (.int (nI (hfn (T 21) (T 29) v)))]) dX11_accessOf_9 (by decide) rfl rfl ?_
    refine C.iload_n dX11_accessOf_10 rfl ?_
    refine C.if_lt (tgt := 39) dX11_accessOf_11 (by decide) (fun c_11 => absurd c_11 (nI_pos (by omega))) (fun c_11 => ?_)
    refine C.iload_n dX11_accessOf_14 rfl ?_
    refine C.aload_nR dX11_accessOf_15 rfl ?_
    refine C.getS (k9 := 0) (fs := [.ref (S 1), .ref (S 2), .ref (S 3), .ref (S 4), .ref (S 5), .ref (S 6), .ref (S 7), .ref (S 8), .ref (S 9), .ref (S 10), .ref (S 11), .ref (S 12), .int (N 26), .int (N 27), .int (N 28), .int (N 25), .int (N 5), .int (N 6)]) dX11_accessOf_16 fl_X11_61 rfl p_n rfl ?_
    refine C.callLS0 (k9 := 11) [] dX11_accessOf_19 mdJx4a65c_size_8abf5 imJx4a65c_size_8abf5 seJx4a65c_size_8abf5 rfl p_t.1 lk_X11_123 rfl rfl rfl rfl (cCt.w0 (R := fun r => r = some (.int (nI (rv (A 11)).length))) fun σ9 h9 => c_list_size (h9.at (k := 11) rfl p_t.1)) ?_
    rintro _ G9 D9 ⟨rfl, e9, e8⟩
    have e9 := e9.symm; subst e9; have e8 := e8.symm; subst e8
    refine C.icmp_ge (tgt := 39) dX11_accessOf_22 (by decide) (fun c_22 => absurd c_22 (by rw [rv_len, hl9]; exact fun q => absurd ((nI_leI (by omega) (by omega)).mp q) (by omega))) (fun c_22 => ?_)
    refine C.aload_nR dX11_accessOf_25 rfl ?_
    refine C.getS (k9 := 0) (fs := [.ref (S 1), .ref (S 2), .ref (S 3), .ref (S 4), .ref (S 5), .ref (S 6), .ref (S 7), .ref (S 8), .ref (S 9), .ref (S 10), .ref (S 11), .ref (S 12), .int (N 26), .int (N 27), .int (N 28), .int (N 25), .int (N 5), .int (N 6)]) dX11_accessOf_26 fl_X11_61 rfl p_n rfl ?_
    refine C.iload_n dX11_accessOf_29 rfl ?_
    refine C.callLS0 (k9 := 11) [.int (nI (hfn (T 21) (T 29) v))] dX11_accessOf_30 mdJx4a65c_get_915e3 imJx4a65c_get_915e3 seJx4a65c_get_915e3 rfl p_t.1 lk_X11_163 rfl rfl rfl rfl (cCt.w0 (R := fun r => r = some (.ref ((A 11).getD (hfn (T 21) (T 29) v) 0))) fun σ9 h9 => c_list_get (h9.at (k := 11) rfl p_t.1) (rv_at (by rw [hl9]; exact hk))) ?_
    rintro _ G9 D9 ⟨rfl, e9, e8⟩
    have e9 := e9.symm; subst e9; have e8 := e8.symm; subst e8
    refine C.castD dX11_accessOf_33 cl_X11_318 cs_11 kc_11 u1 ?_
    refine C.goto (tgt := 40) dX11_accessOf_36 (by decide) ?_
    refine C.aret (r := some ((A 11).getD (hfn (T 21) (T 29) v) 0)) dX11_accessOf_40 rfl (by first | exact Or.inl ⟨_, rfl⟩ | exact Or.inr ⟨_, rfl⟩) ?_
    exact Or.inl ⟨hk, rfl, rfl, rfl⟩
  · rw [hv9]
    refine C.istore_n (L' := [some (.ref (S 0)), some (.ref tt), some (.int (-1))]) dX11_accessOf_9 (by decide) rfl rfl ?_
    refine C.iload_n dX11_accessOf_10 rfl ?_
    refine C.if_lt (tgt := 39) dX11_accessOf_11 (by decide) (fun c_11 => ?_) (fun c_11 => absurd (by decide) c_11)
    refine C.aconst_null dX11_accessOf_39 ?_
    refine C.aret (r := none) dX11_accessOf_40 rfl (by first | exact Or.inl ⟨_, rfl⟩ | exact Or.inr ⟨_, rfl⟩) ?_
    exact Or.inr ⟨hk, rfl, rfl, rfl⟩

theorem k_refreshOf {Λ : kL} {S : Nat → Nat} {G : Nat → kc} {D : kh} (hS : cInj S) {A L : Nat → List Nat} {N : Nat → Int32} {B : Nat → List Int32} {T R : Nat → List (List Int32)} (hR : cR Λ S G D A L N B T R) (hW : wf N B T R) {tt : Nat} {v : List Int32} (hT : ∀ σ, cHas σ S G D → tx σ tt v) : cCt Λ mX11_refreshOf 0 0 S [.ref (S 0), .ref tt] G D (fun r G' D' => ((hfn (T 21) (T 30) v) < (T 30).length ∧ r = some (.ref ((A 12).getD (hfn (T 21) (T 30) v) 0)) ∧ G' = G ∧ D' = D) ∨ (¬ (hfn (T 21) (T 30) v) < (T 30).length ∧ r = some .null ∧ G' = G ∧ D' = D)) := by
  refine cCt.of hS pn_X11 [some (.ref (S 0)), some (.ref tt), none] rfl (Nat.le_of_ble_eq_true rfl) fun X => ?_
  obtain ⟨p_a, p_b, p_n, p_k, p_f, p_h, p_w, p_c, p_r, p_q, p_o, p_m, p_t, p_d⟩ := hR
  obtain ⟨w_a, w_n, w_w, w_c, w_r, w_x, w_q, w_k, w_f, w_t, w_m, w_l⟩ := hW
  have p_a9 := p_a; obtain ⟨ft, a1, a2, a3, a4, a5, a6⟩ := p_a9
  have p_b9 := p_b; obtain ⟨fo9, b1, b2, b3, b4, b5, b6⟩ := p_b9
  have hl9 : (A 12).length = (T 30).length := p_t.2.2.2.1
  have hU8 : (T 21).length ≤ 800 := by have := w_x.2.2.2.2; have := w_k.1; have := w_t.1; have := w_t.2.2.2.2.1; omega
  have hb1 := w_k.1; have hb2 := w_t.1; have hb3 := w_t.2.2.2.2.1
  refine C.aload_nR dX11_refreshOf_0 rfl ?_
  refine C.getS (k9 := 0) (fs := [.ref (S 1), .ref (S 2), .ref (S 3), .ref (S 4), .ref (S 5), .ref (S 6), .ref (S 7), .ref (S 8), .ref (S 9), .ref (S 10), .ref (S 11), .ref (S 12), .int (N 26), .int (N 27), .int (N 28), .int (N 25), .int (N 5), .int (N 6)]) dX11_refreshOf_1 fl_X11_31 rfl p_n rfl ?_
  refine C.iconst (v := 2) dX11_refreshOf_4 (by decide) ?_
  refine C.aload_nR dX11_refreshOf_5 rfl ?_
  refine C.callVS0 (k9 := 4) [.int 2, .ref tt] dX11_refreshOf_6 mdX6_find imX6_find seX6_find kc_7 rfl p_k.2.1 lk_X11_524 rfl rfl rfl rfl (k_find hS p_k.2.1 p_d.2.1 p_d.2.2 (by omega) 2 hT) ?_
  rintro _ G9 D9 ⟨rfl, e9, e8⟩; have e9 := e9.symm; subst e9; have e8 := e8.symm; subst e8
  rcases find_kd w_x.2.2.1 w_x.2.2.2.1 w_t.2.2.2.2.2.1 (by omega) (wfm_2 w_m) w_m.2.2.2.2 v with ⟨hk, hv9⟩ | ⟨hk, hv9⟩
  · rw [hv9]
    obtain ⟨fs9, u1⟩ : ∃ fs, D ((A 12).getD (hfn (T 21) (T 30) v) 0) = some (.inr (11, fs)) := by obtain ⟨sc, h9⟩ := p_t.2.2.2.2.2.2.2.2 _ hk; exact ⟨_, h9⟩
    refine C.istore_n (L' := [some (.ref (S 0)), some (.ref tt), some (.int (nI (hfn (T 21) (T 30) v)))]) dX11_refreshOf_9 (by decide) rfl rfl ?_
    refine C.iload_n dX11_refreshOf_10 rfl ?_
    refine C.if_lt (tgt := 39) dX11_refreshOf_11 (by decide) (fun c_11 => absurd c_11 (nI_pos (by omega))) (fun c_11 => ?_)
    refine C.iload_n dX11_refreshOf_14 rfl ?_
    refine C.aload_nR dX11_refreshOf_15 rfl ?_
    refine C.getS (k9 := 0) (fs := [.ref (S 1), .ref (S 2), .ref (S 3), .ref (S 4), .ref (S 5), .ref (S 6), .ref (S 7), .ref (S 8), .ref (S 9), .ref (S 10), .ref (S 11), .ref (S 12), .int (N 26), .int (N 27), .int (N 28), .int (N 25), .int (N 5), .int (N 6)]) dX11_refreshOf_16 fl_X11_64 rfl p_n rfl ?_
    refine C.callLS0 (k9 := 12) [] dX11_refreshOf_19 mdJx4a65c_size_8abf5 imJx4a65c_size_8abf5 seJx4a65c_size_8abf5 rfl p_t.2.1 lk_X11_123 rfl rfl rfl rfl (cCt.w0 (R := fun r => r = some (.int (nI (rv (A 12)).length))) fun σ9 h9 => c_list_size (h9.at (k := 12) rfl p_t.2.1)) ?_
    rintro _ G9 D9 ⟨rfl, e9, e8⟩
    have e9 := e9.symm; subst e9; have e8 := e8.symm; subst e8
    refine C.icmp_ge (tgt := 39) dX11_refreshOf_22 (by decide) (fun c_22 => absurd c_22 (by rw [rv_len, hl9]; exact fun q => absurd ((nI_leI (by omega) (by omega)).mp q) (by omega))) (fun c_22 => ?_)
    refine C.aload_nR dX11_refreshOf_25 rfl ?_
    refine C.getS (k9 := 0) (fs := [.ref (S 1), .ref (S 2), .ref (S 3), .ref (S 4), .ref (S 5), .ref (S 6), .ref (S 7), .ref (S 8), .ref (S 9), .ref (S 10), .ref (S 11), .ref (S 12), .int (N 26), .int (N 27), .int (N 28), .int (N 25), .int (N 5), .int (N 6)]) dX11_refreshOf_26 fl_X11_64 rfl p_n rfl ?_
    refine C.iload_n dX11_refreshOf_29 rfl ?_
    refine C.callLS0 (k9 := 12) [.int (nI (hfn (T 21) (T 30) v))] dX11_refreshOf_30 mdJx4a65c_get_915e3 imJx4a65c_get_915e3 seJx4a65c_get_915e3 rfl p_t.2.1 lk_X11_163 rfl rfl rfl rfl (cCt.w0 (R := fun r => r = some (.ref ((A 12).getD (hfn (T 21) (T 30) v) 0))) fun σ9 h9 => c_list_get (h9.at (k := 12) rfl p_t.2.1) (rv_at (by rw [hl9]; exact hk))) ?_
    rintro _ G9 D9 ⟨rfl, e9, e8⟩
    have e9 := e9.symm; subst e9; have e8 := e8.symm; subst e8
    refine C.castD dX11_refreshOf_33 cl_X11_318 cs_11 kc_11 u1 ?_
    refine C.goto (tgt := 40) dX11_refreshOf_36 (by decide) ?_
    refine C.aret (r := some ((A 12).getD (hfn (T 21) (T 30) v) 0)) dX11_refreshOf_40 rfl (by first | exact Or.inl ⟨_, rfl⟩ | exact Or.inr ⟨_, rfl⟩) ?_
    exact Or.inl ⟨hk, rfl, rfl, rfl⟩
  · rw [hv9]
    refine C.istore_n (L' := [some (.ref (S 0)), some (.ref tt), some (.int (-1))]) dX11_refreshOf_9 (by decide) rfl rfl ?_
    refine C.iload_n dX11_refreshOf_10 rfl ?_
    refine C.if_lt (tgt := 39) dX11_refreshOf_11 (by decide) (fun c_11 => ?_) (fun c_11 => absurd (by decide) c_11)
    refine C.aconst_null dX11_refreshOf_39 ?_
    refine C.aret (r := none) dX11_refreshOf_40 rfl (by first | exact Or.inl ⟨_, rfl⟩ | exact Or.inr ⟨_, rfl⟩) ?_
    exact Or.inr ⟨hk, rfl, rfl, rfl⟩

theorem k_canGiveT {Λ : kL} {S : Nat → Nat} {G : Nat → kc} {D : kh} (hS : cInj S) {A L : Nat → List Nat} {N : Nat → Int32} {B : Nat → List Int32} {T R : Nat → List (List Int32)} (hR : cR Λ S G D A L N B T R) (hW : wf N B T R) : cCt Λ mX11_canGiveTokens 0 0 S [.ref (S 0), .int 1] G D (fun r G' D' => r = some (.int (bI (gv (T 21) (T 20) (T 29).length (T 30).length true).isSome)) ∧ G' = G ∧ D' = D) := by
  refine cCt.of hS pn_X11 [some (.ref (S 0)), some (.int 1)] rfl (Nat.le_of_ble_eq_true rfl) fun X => ?_
  obtain ⟨p_a, p_b, p_n, p_k, p_f, p_h, p_w, p_c, p_r, p_q, p_o, p_m, p_t, p_d⟩ := hR
  obtain ⟨w_a, w_n, w_w, w_c, w_r, w_x, w_q, w_k, w_f, w_t, w_m, w_l⟩ := hW
  have p_a9 := p_a; obtain ⟨ft, a1, a2, a3, a4, a5, a6⟩ := p_a9
  have p_b9 := p_b; obtain ⟨fo9, b1, b2, b3, b4, b5, b6⟩ := p_b9
  have hb2 := w_t.1; have hb3 := w_t.2.2.2.2.1
  have hU8 : (T 21).length ≤ 800 := by have := w_x.2.2.2.2; have := w_k.1; omega
  refine C.aload_nR dX11_canGiveTokens_0 rfl ?_
  refine C.getS (k9 := 0) (fs := [.ref (S 1), .ref (S 2), .ref (S 3), .ref (S 4), .ref (S 5), .ref (S 6), .ref (S 7), .ref (S 8), .ref (S 9), .ref (S 10), .ref (S 11), .ref (S 12), .int (N 26), .int (N 27), .int (N 28), .int (N 25), .int (N 5), .int (N 6)]) dX11_canGiveTokens_1 fl_X11_61 rfl p_n rfl ?_
  refine C.callLS0 (k9 := 11) [] dX11_canGiveTokens_4 mdJx4a65c_size_8abf5 imJx4a65c_size_8abf5 seJx4a65c_size_8abf5 rfl p_t.1 lk_X11_123 rfl rfl rfl rfl (cCt.w0 (R := fun r => r = some (.int (nI (rv (A 11)).length))) fun σ9 h9 => c_list_size (h9.at (k := 11) rfl p_t.1)) ?_
  rintro _ G9 D9 ⟨rfl, e9, e8⟩
  have e9 := e9.symm; subst e9; have e8 := e8.symm; subst e8
  refine C.sipush (v := 300) dX11_canGiveTokens_7 (by decide) ?_
  refine C.icmp_ge (tgt := 30) dX11_canGiveTokens_10 (by decide) (fun c_10 => ?_) (fun c_10 => ?_)
  · skip
    have ha : (T 29).length = 300 := by have h9 := c_10; rw [rv_len, p_t.2.2.1] at h9; have := (nI_leI (a := 300) (by decide) (by omega)).mp h9; omega
    refine C.iconst (v := 0) dX11_canGiveTokens_30 (by decide) ?_
    refine C.zret dX11_canGiveTokens_31 rfl rfl ?_
    refine ⟨congrArg (fun z => some (Value.int z)) ?_, rfl, rfl⟩
    rw [gv, if_pos (by first | exact Or.inl ha | exact Or.inr ⟨rfl, hb⟩)]; rfl
  · skip
    have ha : ¬ (T 29).length = 300 := fun q => c_10 (by rw [rv_len, p_t.2.2.1, q]; decide)
    refine C.iload_n dX11_canGiveTokens_13 rfl ?_
    refine C.if_eq (tgt := 32) dX11_canGiveTokens_14 (by decide) (fun c_14 => absurd c_14 (by decide)) (fun c_14 => ?_)
    refine C.aload_nR dX11_canGiveTokens_17 rfl ?_
    refine C.getS (k9 := 0) (fs := [.ref (S 1), .ref (S 2), .ref (S 3), .ref (S 4), .ref (S 5), .ref (S 6), .ref (S 7), .ref (S 8), .ref (S 9), .ref (S 10), .ref (S 11), .ref (S 12), .int (N 26), .int (N 27), .int (N 28), .int (N 25), .int (N 5), .int (N 6)]) dX11_canGiveTokens_18 fl_X11_64 rfl p_n rfl ?_
    refine C.callLS0 (k9 := 12) [] dX11_canGiveTokens_21 mdJx4a65c_size_8abf5 imJx4a65c_size_8abf5 seJx4a65c_size_8abf5 rfl p_t.2.1 lk_X11_123 rfl rfl rfl rfl (cCt.w0 (R := fun r => r = some (.int (nI (rv (A 12)).length))) fun σ9 h9 => c_list_size (h9.at (k := 12) rfl p_t.2.1)) ?_
    rintro _ G9 D9 ⟨rfl, e9, e8⟩
    have e9 := e9.symm; subst e9; have e8 := e8.symm; subst e8
    refine C.sipush (v := 300) dX11_canGiveTokens_24 (by decide) ?_
    refine C.icmp_lt (tgt := 32) dX11_canGiveTokens_27 (by decide) (fun c_27 => ?_) (fun c_27 => ?_)
    · skip
      have hb : ¬ (T 30).length = 300 := by have h9 := c_27; rw [rv_len, p_t.2.2.2.1] at h9; have := (nI_ltI (b := 300) (by omega) (by decide)).mp h9; omega
      refine C.aload_nR dX11_canGiveTokens_32 rfl ?_
      refine C.getS (k9 := 0) (fs := [.ref (S 1), .ref (S 2), .ref (S 3), .ref (S 4), .ref (S 5), .ref (S 6), .ref (S 7), .ref (S 8), .ref (S 9), .ref (S 10), .ref (S 11), .ref (S 12), .int (N 26), .int (N 27), .int (N 28), .int (N 25), .int (N 5), .int (N 6)]) dX11_canGiveTokens_33 fl_X11_31 rfl p_n rfl ?_
      refine C.iload_n dX11_canGiveTokens_36 rfl ?_
      refine C.if_eq (tgt := 44) dX11_canGiveTokens_37 (by decide) (fun c_37 => absurd c_37 (by decide)) (fun c_37 => ?_)
      refine C.iconst (v := 2) dX11_canGiveTokens_40 (by decide) ?_
      refine C.goto (tgt := 45) dX11_canGiveTokens_41 (by decide) ?_
      refine C.callVS0 (k9 := 4) [.int 2] dX11_canGiveTokens_45 mdX6_canMake imX6_canMake seX6_canMake kc_7 rfl p_k.2.1 lk_X11_260 rfl rfl rfl rfl (k_canMake_2 hS p_k.2.1 p_d.1 p_d.2.1 p_d.2.2 w_x.1 (by omega)) ?_
      rintro _ G9 D9 ⟨rfl, e9, e8⟩
      have e9 := e9.symm; subst e9; have e8 := e8.symm; subst e8
      refine C.zret dX11_canGiveTokens_48 rfl (bI_nar _) ?_
      refine ⟨congrArg (fun z => some (Value.int z)) ?_, rfl, rfl⟩
      rw [gv, if_neg (fun q => q.elim ha (fun q => hb q.2))]
      show bI (match tk1 (T 21) (T 20) with | none => false | some (d, W1) => (tk1 (T 21 ++ [d]) W1).isSome) = _
      cases tk1 (T 21) (T 20) with
      | none => rfl
      | some p => obtain ⟨d, W1⟩ := p; show bI (tk1 (T 21 ++ [d]) W1).isSome = bI (Option.isSome (match tk1 (T 21 ++ [d]) W1 with | none => none | some (e, W2) => some ([d, e], W2))); cases tk1 (T 21 ++ [d]) W1 <;> rfl
    · skip
      have hb : (T 30).length = 300 := by have h9 := c_27; rw [rv_len, p_t.2.2.2.1] at h9; have := Nat.le_of_not_lt fun q => h9 ((nI_ltI (b := 300) (by omega) (by decide)).mpr q); omega
      refine C.iconst (v := 0) dX11_canGiveTokens_30 (by decide) ?_
      refine C.zret dX11_canGiveTokens_31 rfl rfl ?_
      refine ⟨congrArg (fun z => some (Value.int z)) ?_, rfl, rfl⟩
      rw [gv, if_pos (by first | exact Or.inl ha | exact Or.inr ⟨rfl, hb⟩)]; rfl

theorem k_canGiveF {Λ : kL} {S : Nat → Nat} {G : Nat → kc} {D : kh} (hS : cInj S) {A L : Nat → List Nat} {N : Nat → Int32} {B : Nat → List Int32} {T R : Nat → List (List Int32)} (hR : cR Λ S G D A L N B T R) (hW : wf N B T R) : cCt Λ mX11_canGiveTokens 0 0 S [.ref (S 0), .int 0] G D (fun r G' D' => r = some (.int (bI (gv (T 21) (T 20) (T 29).length (T 30).length false).isSome)) ∧ G' = G ∧ D' = D) := by
  refine cCt.of hS pn_X11 [some (.ref (S 0)), some (.int 0)] rfl (Nat.le_of_ble_eq_true rfl) fun X => ?_
  obtain ⟨p_a, p_b, p_n, p_k, p_f, p_h, p_w, p_c, p_r, p_q, p_o, p_m, p_t, p_d⟩ := hR
  obtain ⟨w_a, w_n, w_w, w_c, w_r, w_x, w_q, w_k, w_f, w_t, w_m, w_l⟩ := hW
  have p_a9 := p_a; obtain ⟨ft, a1, a2, a3, a4, a5, a6⟩ := p_a9
  have p_b9 := p_b; obtain ⟨fo9, b1, b2, b3, b4, b5, b6⟩ := p_b9
  have hb2 := w_t.1; have hb3 := w_t.2.2.2.2.1
  have hU8 : (T 21).length ≤ 800 := by have := w_x.2.2.2.2; have := w_k.1; omega
  refine C.aload_nR dX11_canGiveTokens_0 rfl ?_
  refine C.getS (k9 := 0) (fs := [.ref (S 1), .ref (S 2), .ref (S 3), .ref (S 4), .ref (S 5), .ref (S 6), .ref (S 7), .ref (S 8), .ref (S 9), .ref (S 10), .ref (S 11), .ref (S 12), .int (N 26), .int (N 27), .int (N 28), .int (N 25), .int (N 5), .int (N 6)]) dX11_canGiveTokens_1 fl_X11_61 rfl p_n rfl ?_
  refine C.callLS0 (k9 := 11) [] dX11_canGiveTokens_4 mdJx4a65c_size_8abf5 imJx4a65c_size_8abf5 seJx4a65c_size_8abf5 rfl p_t.1 lk_X11_123 rfl rfl rfl rfl (cCt.w0 (R := fun r => r = some (.int (nI (rv (A 11)).length))) fun σ9 h9 => c_list_size (h9.at (k := 11) rfl p_t.1)) ?_
  rintro _ G9 D9 ⟨rfl, e9, e8⟩
  have e9 := e9.symm; subst e9; have e8 := e8.symm; subst e8
  refine C.sipush (v := 300) dX11_canGiveTokens_7 (by decide) ?_
  refine C.icmp_ge (tgt := 30) dX11_canGiveTokens_10 (by decide) (fun c_10 => ?_) (fun c_10 => ?_)
  · skip
    have ha : (T 29).length = 300 := by have h9 := c_10; rw [rv_len, p_t.2.2.1] at h9; have := (nI_leI (a := 300) (by decide) (by omega)).mp h9; omega
    refine C.iconst (v := 0) dX11_canGiveTokens_30 (by decide) ?_
    refine C.zret dX11_canGiveTokens_31 rfl rfl ?_
    refine ⟨congrArg (fun z => some (Value.int z)) ?_, rfl, rfl⟩
    rw [gv, if_pos (by first | exact Or.inl ha | exact Or.inr ⟨rfl, hb⟩)]; rfl
  · skip
    have ha : ¬ (T 29).length = 300 := fun q => c_10 (by rw [rv_len, p_t.2.2.1, q]; decide)
    refine C.iload_n dX11_canGiveTokens_13 rfl ?_
    refine C.if_eq (tgt := 32) dX11_canGiveTokens_14 (by decide) (fun c_14 => ?_) (fun c_14 => absurd rfl c_14)
    refine C.aload_nR dX11_canGiveTokens_32 rfl ?_
    refine C.getS (k9 := 0) (fs := [.ref (S 1), .ref (S 2), .ref (S 3), .ref (S 4), .ref (S 5), .ref (S 6), .ref (S 7), .ref (S 8), .ref (S 9), .ref (S 10), .ref (S 11), .ref (S 12), .int (N 26), .int (N 27), .int (N 28), .int (N 25), .int (N 5), .int (N 6)]) dX11_canGiveTokens_33 fl_X11_31 rfl p_n rfl ?_
    refine C.iload_n dX11_canGiveTokens_36 rfl ?_
    refine C.if_eq (tgt := 44) dX11_canGiveTokens_37 (by decide) (fun c_37 => ?_) (fun c_37 => absurd rfl c_37)
    refine C.iconst (v := 1) dX11_canGiveTokens_44 (by decide) ?_
    refine C.callVS0 (k9 := 4) [.int 1] dX11_canGiveTokens_45 mdX6_canMake imX6_canMake seX6_canMake kc_7 rfl p_k.2.1 lk_X11_260 rfl rfl rfl rfl (k_canMake_1 hS p_k.2.1 p_d.1 p_d.2.1 p_d.2.2 w_x.1 (by omega)) ?_
    rintro _ G9 D9 ⟨rfl, e9, e8⟩
    have e9 := e9.symm; subst e9; have e8 := e8.symm; subst e8
    refine C.zret dX11_canGiveTokens_48 rfl (bI_nar _) ?_
    refine ⟨congrArg (fun z => some (Value.int z)) ?_, rfl, rfl⟩
    rw [gv, if_neg (fun q => q.elim ha (fun q => Bool.false_ne_true q.1))]
    show bI (tk1 (T 21) (T 20)).isSome = _
    cases tk1 (T 21) (T 20) with
    | none => rfl
    | some p => rfl

theorem k_canGiveTokens {Λ : kL} {S : Nat → Nat} {G : Nat → kc} {D : kh} (hS : cInj S) {A L : Nat → List Nat} {N : Nat → Int32} {B : Nat → List Int32} {T R : Nat → List (List Int32)} (hR : cR Λ S G D A L N B T R) (hW : wf N B T R) (b : Bool) : cCt Λ mX11_canGiveTokens 0 0 S [.ref (S 0), .int (bI b)] G D (fun r G' D' => r = some (.int (bI (gv (T 21) (T 20) (T 29).length (T 30).length b).isSome)) ∧ G' = G ∧ D' = D) := by
  cases b with
  | false => exact k_canGiveF hS hR hW
  | true => exact k_canGiveT hS hR hW
