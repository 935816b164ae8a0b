/-! the class: scope, redirect -/
theorem all_nany (v : List Int32) (c : Int32) : (v.all fun x => !decide (x = c)) = !(v.any fun x => decide (x = c)) := by
  induction v with
  | nil => rfl
  | cons a v ih => rw [List.all_cons, List.any_cons, ih, Bool.not_or]
theorem all_nany2 (v : List Int32) (c d : Int32) : (v.all fun x => !decide (x = c) && !decide (x = d)) = (!(v.any fun x => decide (x = c)) && !(v.any fun x => decide (x = d))) := by
  induction v with
  | nil => rfl
  | cons a v ih =>
    rw [List.all_cons, List.any_cons, List.any_cons, ih]
    cases decide (a = c) <;> cases decide (a = d) <;> cases (v.any fun x => decide (x = c)) <;> rfl
theorem dec_lt (n m : Nat) : decide (0 < n ∧ n < m + 1) = decide (1 ≤ n ∧ n ≤ m) := decide_eq_decide.mpr ⟨fun h => ⟨h.1, by omega⟩, fun h => ⟨h.1, by omega⟩⟩
theorem gdW_eq (v : List Int32) : gdW v = (decide (1 ≤ v.length ∧ v.length ≤ 12) && v.all visb && (!(v.any fun x => decide (x = 34)) && !(v.any fun x => decide (x = 92)))) := by
  rw [gdW, dec_lt, all_nany2]
theorem gdR_eq (v : List Int32) : gdR v = (decide (1 ≤ v.length ∧ v.length ≤ 80) && v.all visb && !(v.any fun x => decide (x = 35))) := by
  rw [gdR, dec_lt, all_nany]
theorem gdW_le {v : List Int32} (h : gdW v = true) : 1 ≤ v.length ∧ v.length ≤ 12 := by
  rw [gdW_eq] at h
  simp only [Bool.and_eq_true, decide_eq_true_eq] at h
  exact h.1.1
theorem gdR_le {v : List Int32} (h : gdR v = true) : 1 ≤ v.length ∧ v.length ≤ 80 := by
  rw [gdR_eq] at h
  simp only [Bool.and_eq_true, decide_eq_true_eq] at h
  exact h.1.1
theorem fnd_le (T : List (List Int32)) (v : List Int32) : fnd T v ≤ T.length := by
  have h := (fsti_ge (p := fun k => decide (v = T.getD k [])) (k := T.length) (i := 0)).2
  rw [Nat.zero_add] at h
  exact h
theorem setA_s (A : Nat → List Nat) (k : Nat) (l : List Nat) : setA A k l k = l := if_pos rfl
theorem setA_n (A : Nat → List Nat) {k j : Nat} (l : List Nat) (h : j ≠ k) : setA A k l j = A j := if_neg h
theorem cRd_add {D D2 : kh} {rl : List Nat} {A : Nat → List Nat} {R : Nat → List (List Int32)} (h : cRd D rl A R) (hd : dm D D2) {c : Nat} (hc : c < rl.length) {q : Nat} {v : List Int32} (hq : tx D2 q v) : cRd (kup D2 (rl.getD c 0) (kLi (rv (A c) ++ [Value.ref q]))) rl (setA A c (A c ++ [q])) (setT R c (R c ++ [v])) := by
  have hk : dk 100 D2 (kup D2 (rl.getD c 0) (kLi (rv (A c) ++ [Value.ref q]))) := dk.up (c0 := kLi (rv (A c))) (hd _ _ (h.2 c hc).1)
  refine ⟨h.1, fun j hj => ?_⟩
  by_cases e : j = c
  · subst e
    rw [setA_s, setT_s, kup_s, rv_app]
    exact ⟨rfl, ((h.2 j hj).2.app hd hq).dk (rv_app (A j) q ▸ hk) (by decide) (by decide)⟩
  · rw [setA_n _ _ e, setT_n e]
    exact ⟨kup_i (fun z => e (h.1 j c hj hc z)) (hd _ _ (h.2 j hj).1), ((h.2 j hj).2.mono hd).dk hk (by decide) (by decide)⟩
theorem cQs_red {D : kh} {l lc : List Nat} {Q H S C : List (List Int32)} {R : Nat → List (List Int32)} (h : cQs D l lc Q H S R) (hw : ∀ n, n < Q.length → ∃ c r, ro Q n 0 = nI c ∧ ro Q n 1 = nI r ∧ c < C.length ∧ r < (R c).length) (hC : C.length ≤ 2 ^ 31) (hR : ∀ c, (R c).length ≤ 3) {c : Nat} {v : List Int32} : cQs D l lc Q H S (setT R c (R c ++ [v])) := by
  refine ⟨h.1, h.2.1, fun n hn => ?_⟩
  obtain ⟨c1, r1, e1, e2, e3, e4⟩ := hw n hn
  have e : rdT Q (setT R c (R c ++ [v])) n = rdT Q R n := by
    have hr := hR c1
    rw [rdT, rdT, rn, rn, e1, e2, nI_clamp (by omega), nI_clamp (by omega)]
    by_cases z : c1 = c
    · subst z
      rw [setT_s, getD_appl e4]
    · rw [setT_n z]
  rw [e]
  exact h.2.2 n hn

theorem k_isScopeWord {Λ : kL} {S : Nat → Nat} {G : Nat → kc} {D : kh} (hS : cInj S) {v : List Int32} (hO : tO S G 1 13 2000 v) : cCt Λ mX11_isScopeWord 0 0 S [.ref (S 1)] G D (fun r G' D' => r = some (.int (bI (gdW v))) ∧ G' = G ∧ D' = D) := by
  refine cCt.of hS pn_X11 [some (.ref (S 1))] rfl (Nat.le_of_ble_eq_true rfl) fun X => ?_
  have hO9 := hO; obtain ⟨fo9, b1, b2, b3, b4, b5, b6⟩ := hO9
  refine C.aload_nR dX11_isScopeWord_0 rfl ?_
  refine C.bipush (v := 12) dX11_isScopeWord_1 (by decide) ?_
  refine C.callVS0 (k9 := 1) [.int 12] dX11_isScopeWord_3 mdX9_isVisible imX9_isVisible seX9_isVisible kc_10 rfl b1 lk_X11_390 rfl rfl rfl rfl (cCt.w0 (R := fun r => r = some (.int (bI (decide (1 ≤ v.length ∧ v.length ≤ 12) && v.all visb)))) fun σ9 h9 => v_isVisible ((show tO S G 1 13 2000 v from hO).s.tx h9 rfl rfl) (m := 12) (by decide)) ?_
  rintro _ G9 D9 ⟨rfl, e9, e8⟩
  have e9 := e9.symm; subst e9; have e8 := e8.symm; subst e8
  refine C.if_eq (tgt := 31) dX11_isScopeWord_6 (by decide) (fun c_6 => ?_) (fun c_6 => ?_)
  · skip
    refine C.iconst (v := 0) dX11_isScopeWord_31 (by decide) ?_
    refine C.zret dX11_isScopeWord_32 rfl rfl ?_
    refine ⟨congrArg (fun z => some (Value.int z)) ?_, rfl, rfl⟩
    rw [gdW_eq, (bI_eq0 _).mp c_6]
    rfl
  · skip
    refine C.aload_nR dX11_isScopeWord_9 rfl ?_
    refine C.bipush (v := 34) dX11_isScopeWord_10 (by decide) ?_
    refine C.callVS0 (k9 := 1) [.int 34] dX11_isScopeWord_12 mdX9_has imX9_has seX9_has kc_10 rfl b1 lk_X11_393 rfl rfl rfl rfl (cCt.w0 (R := fun r => r = some (.int (bI (v.any fun x => decide (x = 34))))) fun σ9 h9 => v_has ((show tO S G 1 13 2000 v from hO).s.tx h9 rfl rfl) (c := 34) (by decide)) ?_
    rintro _ G9 D9 ⟨rfl, e9, e8⟩
    have e9 := e9.symm; subst e9; have e8 := e8.symm; subst e8
    refine C.if_ne (tgt := 31) dX11_isScopeWord_15 (by decide) (fun c_15 => ?_) (fun c_15 => ?_)
    · skip
      refine C.iconst (v := 0) dX11_isScopeWord_31 (by decide) ?_
      refine C.zret dX11_isScopeWord_32 rfl rfl ?_
      refine ⟨congrArg (fun z => some (Value.int z)) ?_, rfl, rfl⟩
      rw [gdW_eq, bt1 c_15, Bool.not_true, Bool.false_and, Bool.and_false]
      rfl
    · skip
      refine C.aload_nR dX11_isScopeWord_18 rfl ?_
      refine C.bipush (v := 92) dX11_isScopeWord_19 (by decide) ?_
      refine C.callVS0 (k9 := 1) [.int 92] dX11_isScopeWord_21 mdX9_has imX9_has seX9_has kc_10 rfl b1 lk_X11_393 rfl rfl rfl rfl (cCt.w0 (R := fun r => r = some (.int (bI (v.any fun x => decide (x = 92))))) fun σ9 h9 => v_has ((show tO S G 1 13 2000 v from hO).s.tx h9 rfl rfl) (c := 92) (by decide)) ?_
      rintro _ G9 D9 ⟨rfl, e9, e8⟩
      have e9 := e9.symm; subst e9; have e8 := e8.symm; subst e8
      refine C.if_ne (tgt := 31) dX11_isScopeWord_24 (by decide) (fun c_24 => ?_) (fun c_24 => ?_)
      · skip
        refine C.iconst (v := 0) dX11_isScopeWord_31 (by decide) ?_
        refine C.zret dX11_isScopeWord_32 rfl rfl ?_
        refine ⟨congrArg (fun z => some (Value.int z)) ?_, rfl, rfl⟩
        rw [gdW_eq, bt1 c_24, Bool.not_true, Bool.and_false, Bool.and_false]
        rfl
      · skip
        refine C.iconst (v := 1) dX11_isScopeWord_27 (by decide) ?_
        refine C.goto (tgt := 32) dX11_isScopeWord_28 (by decide) ?_
        refine C.zret dX11_isScopeWord_32 rfl rfl ?_
        refine ⟨congrArg (fun z => some (Value.int z)) ?_, rfl, rfl⟩
        rw [gdW_eq, bt1 c_6, (bI_eq0 _).mp c_15, (bI_eq0 _).mp c_24]
        rfl

theorem k_isRedirect {Λ : kL} {S : Nat → Nat} {G : Nat → kc} {D : kh} (hS : cInj S) {v : List Int32} (hO : tO S G 1 13 2000 v) : cCt Λ mX11_isRedirect 0 0 S [.ref (S 1)] G D (fun r G' D' => r = some (.int (bI (gdR v))) ∧ G' = G ∧ D' = D) := by
  refine cCt.of hS pn_X11 [some (.ref (S 1))] rfl (Nat.le_of_ble_eq_true rfl) fun X => ?_
  have hO9 := hO; obtain ⟨fo9, b1, b2, b3, b4, b5, b6⟩ := hO9
  refine C.aload_nR dX11_isRedirect_0 rfl ?_
  refine C.bipush (v := 80) dX11_isRedirect_1 (by decide) ?_
  refine C.callVS0 (k9 := 1) [.int 80] dX11_isRedirect_3 mdX9_isVisible imX9_isVisible seX9_isVisible kc_10 rfl b1 lk_X11_390 rfl rfl rfl rfl (cCt.w0 (R := fun r => r = some (.int (bI (decide (1 ≤ v.length ∧ v.length ≤ 80) && v.all visb)))) fun σ9 h9 => v_isVisible ((show tO S G 1 13 2000 v from hO).s.tx h9 rfl rfl) (m := 80) (by decide)) ?_
  rintro _ G9 D9 ⟨rfl, e9, e8⟩
  have e9 := e9.symm; subst e9; have e8 := e8.symm; subst e8
  refine C.if_eq (tgt := 22) dX11_isRedirect_6 (by decide) (fun c_6 => ?_) (fun c_6 => ?_)
  · skip
    refine C.iconst (v := 0) dX11_isRedirect_22 (by decide) ?_
    refine C.zret dX11_isRedirect_23 rfl rfl ?_
    refine ⟨congrArg (fun z => some (Value.int z)) ?_, rfl, rfl⟩
    rw [gdR_eq, (bI_eq0 _).mp c_6]
    rfl
  · skip
    refine C.aload_nR dX11_isRedirect_9 rfl ?_
    refine C.bipush (v := 35) dX11_isRedirect_10 (by decide) ?_
    refine C.callVS0 (k9 := 1) [.int 35] dX11_isRedirect_12 mdX9_has imX9_has seX9_has kc_10 rfl b1 lk_X11_393 rfl rfl rfl rfl (cCt.w0 (R := fun r => r = some (.int (bI (v.any fun x => decide (x = 35))))) fun σ9 h9 => v_has ((show tO S G 1 13 2000 v from hO).s.tx h9 rfl rfl) (c := 35) (by decide)) ?_
    rintro _ G9 D9 ⟨rfl, e9, e8⟩
    have e9 := e9.symm; subst e9; have e8 := e8.symm; subst e8
    refine C.if_ne (tgt := 22) dX11_isRedirect_15 (by decide) (fun c_15 => ?_) (fun c_15 => ?_)
    · skip
      refine C.iconst (v := 0) dX11_isRedirect_22 (by decide) ?_
      refine C.zret dX11_isRedirect_23 rfl rfl ?_
      refine ⟨congrArg (fun z => some (Value.int z)) ?_, rfl, rfl⟩
      rw [gdR_eq, bt1 c_15, Bool.not_true, Bool.and_false]
      rfl
    · skip
      refine C.iconst (v := 1) dX11_isRedirect_18 (by decide) ?_
      refine C.goto (tgt := 23) dX11_isRedirect_19 (by decide) ?_
      refine C.zret dX11_isRedirect_23 rfl rfl ?_
      refine ⟨congrArg (fun z => some (Value.int z)) ?_, rfl, rfl⟩
      rw [gdR_eq, bt1 c_6, (bI_eq0 _).mp c_15]
      rfl

theorem q_scope {Λ : kL} {S : Nat → Nat} {G : Nat → kc} {D : kh} (hS : cInj S) (hX : kXo Λ) {A L : Nat → List Nat} {N : Nat → Int32} {B : Nat → List Int32} {T R : Nat → List (List Int32)} (hR : cR Λ S G D A L N B T R) (hW : wf N B T R) (hJ : kJd Λ) : eCt Λ mX11_scope 4 60 S [.ref (S 0)] G D (eP Λ S (opScope N B T R) xl_s) := by
  refine eCt.of hS pn_X11 [some (.ref (S 0)), none] rfl (Nat.le_of_ble_eq_true rfl) fun X hNo => ?_
  have hR0 := hR; have hW0 := hW
  obtain ⟨p_a, p_b, p_n, p_k, p_f, p_h, p_w, p_c, p_r, p_q, p_o, p_m, p_t, p_d⟩ := hR
  obtain ⟨w_a, w_n, w_w, w_c, w_r, w_x, w_q, w_k, w_f, w_t, w_m, w_l⟩ := hW
  have p_a9 := p_a; obtain ⟨ft, a1, a2, a3, a4, a5, a6⟩ := p_a9
  have p_b9 := p_b; obtain ⟨fo9, b1, b2, b3, b4, b5, b6⟩ := p_b9
  refine E.aload_nR dX11_scope_0 rfl ?_
  refine E.getS (k9 := 0) (fs := [.ref (S 1), .ref (S 2), .ref (S 3), .ref (S 4), .ref (S 5), .ref (S 6), .ref (S 7), .ref (S 8), .ref (S 9), .ref (S 10), .ref (S 11), .ref (S 12), .int (N 26), .int (N 27), .int (N 28), .int (N 25), .int (N 5), .int (N 6)]) dX11_scope_1 fl_X11_14 rfl p_n rfl ?_
  refine E.callS0 [.ref (S 1)] dX11_scope_4 mdX11_isScopeWord ssX11_isScopeWord lk_X11_101 rfl rfl rfl rfl (k_isScopeWord hS (show tO S G 1 13 2000 (B 0) from p_a)) ?_
  rintro _ G9 D9 ⟨rfl, e9, e8⟩
  have e9 := e9.symm; subst e9; have e8 := e8.symm; subst e8
  refine E.if_eq (tgt := 28) dX11_scope_7 (by decide) (fun c_7 => ?_) (fun c_7 => ?_)
  · skip
    have hg : gdW (B 0) = false := (bI_eq0 _).mp c_7
    refine E.aconst_null dX11_scope_28 ?_
    refine E.astore_nN (L' := [some (.ref (S 0)), some (.null)]) dX11_scope_29 (by decide) rfl rfl ?_
    refine E.aload_nR dX11_scope_30 rfl ?_
    refine E.getS (k9 := 0) (fs := [.ref (S 1), .ref (S 2), .ref (S 3), .ref (S 4), .ref (S 5), .ref (S 6), .ref (S 7), .ref (S 8), .ref (S 9), .ref (S 10), .ref (S 11), .ref (S 12), .int (N 26), .int (N 27), .int (N 28), .int (N 25), .int (N 5), .int (N 6)]) dX11_scope_31 fl_X11_14 rfl p_n rfl ?_
    refine E.callVS0 (k9 := 1) [] dX11_scope_34 mdX9_clear imX9_clear seX9_clear kc_10 rfl a1 lk_X11_109 rfl rfl rfl rfl (cCt.w1 (R := fun r => r = none) (i := 1) hS (by decide) fun σ9 h9 => c_Text_clear (h9.at (k := 1) rfl a1)) ?_
    rintro _ _ D9 ⟨rfl, rfl, e8⟩; have e8 := e8.symm; subst e8
    refine E.aload_nN dX11_scope_37 rfl ?_
    refine E.ifnullN (tgt := 55) dX11_scope_38 (by decide) ?_
    refine E.less (bc' := 3 + 1) (bs' := 54 + 6) (by omega) (by omega) ?_
    refine E.throw hX hNo tw_ia sr_X11_118 rfl rfl dX11_scope_55 dX11_scope_58 (Or.inl ⟨dX11_scope_59, dX11_scope_61, dX11_scope_64⟩) ?_
    rw [opScope, if_pos (by rw [hg]; rfl)]
    exact ⟨0, rfl, rfl, A, L, ⟨ft, rfl, a2, Nat.zero_le _, by decide, rfl, bts_nil⟩, p_b, p_n, p_k, p_f, p_h, p_w, p_c, p_r, p_q, p_o, p_m, p_t, p_d⟩
  · skip
    have hg : gdW (B 0) = true := bt1 c_7
    have hb12 := gdW_le hg
    refine E.aload_nR dX11_scope_10 rfl ?_
    refine E.getS (k9 := 0) (fs := [.ref (S 1), .ref (S 2), .ref (S 3), .ref (S 4), .ref (S 5), .ref (S 6), .ref (S 7), .ref (S 8), .ref (S 9), .ref (S 10), .ref (S 11), .ref (S 12), .int (N 26), .int (N 27), .int (N 28), .int (N 25), .int (N 5), .int (N 6)]) dX11_scope_11 fl_X11_14 rfl p_n rfl ?_
    refine E.iconst (v := 0) dX11_scope_14 (by decide) ?_
    refine E.aload_nR dX11_scope_15 rfl ?_
    refine E.getS (k9 := 0) (fs := [.ref (S 1), .ref (S 2), .ref (S 3), .ref (S 4), .ref (S 5), .ref (S 6), .ref (S 7), .ref (S 8), .ref (S 9), .ref (S 10), .ref (S 11), .ref (S 12), .int (N 26), .int (N 27), .int (N 28), .int (N 25), .int (N 5), .int (N 6)]) dX11_scope_16 fl_X11_14 rfl p_n rfl ?_
    refine E.callVS0 (k9 := 1) [] dX11_scope_19 mdX9_size imX9_size seX9_size kc_10 rfl a1 lk_X11_86 rfl rfl rfl rfl (cCt.w0 (R := fun r => r = some (.int (nI (B 0).length))) fun σ9 h9 => v_size ((show tO S G 1 13 2000 (B 0) from p_a).s.tx h9 rfl rfl)) ?_
    rintro _ G9 D9 ⟨rfl, e9, e8⟩
    have e9 := e9.symm; subst e9; have e8 := e8.symm; subst e8
    have hct := k_copyOf (Λ := Λ) (D := D) (fun σ9 h9 => ((show tO S G 1 13 2000 (B 0) from p_a).s.tx h9 rfl rfl)) a6 (by omega) (g := 0) (m := (B 0).length) (by omega)
    rw [List.drop_zero, List.take_length] at hct
    refine E.less (bc' := 2 + 2) (bs' := (60 - ((B 0).length + 3)) + ((B 0).length + 3)) (by omega) (by omega) ?_
    refine E.callVS (k9 := 1) [.int 0, .int (nI (B 0).length)] dX11_scope_22 mdX9_copyOfPart imX9_copyOfPart seX9_copyOfPart kc_10 rfl a1 lk_X11_105 rfl rfl rfl rfl hct ?_
    rintro _ G9 D2 ⟨q9, hq1, rfl, e9, hq2, hq3⟩; have e9 := e9.symm; subst e9
    have hq3o := hq3; obtain ⟨rq9, bq9, cq9, fq9, hqo, hqo2⟩ := hq3o
    refine E.goto (tgt := 29) dX11_scope_25 (by decide) ?_
    refine E.astore_n (L' := [some (.ref (S 0)), some (.ref q9)]) dX11_scope_29 (by decide) rfl rfl ?_
    refine E.aload_nR dX11_scope_30 rfl ?_
    refine E.getS (k9 := 0) (fs := [.ref (S 1), .ref (S 2), .ref (S 3), .ref (S 4), .ref (S 5), .ref (S 6), .ref (S 7), .ref (S 8), .ref (S 9), .ref (S 10), .ref (S 11), .ref (S 12), .int (N 26), .int (N 27), .int (N 28), .int (N 25), .int (N 5), .int (N 6)]) dX11_scope_31 fl_X11_14 rfl p_n rfl ?_
    refine E.callVS0 (k9 := 1) [] dX11_scope_34 mdX9_clear imX9_clear seX9_clear kc_10 rfl a1 lk_X11_109 rfl rfl rfl rfl (cCt.w1 (R := fun r => r = none) (i := 1) hS (by decide) fun σ9 h9 => c_Text_clear (h9.at (k := 1) rfl a1)) ?_
    rintro _ _ D9 ⟨rfl, rfl, e8⟩; have e8 := e8.symm; subst e8
    refine E.aload_nR dX11_scope_37 rfl ?_
    refine E.ifnullR dX11_scope_38 ?_
    refine E.aload_nR dX11_scope_41 rfl ?_
    refine E.aload_nR dX11_scope_42 rfl ?_
    refine E.iconst (v := 0) dX11_scope_43 (by decide) ?_
    refine E.aload_nR dX11_scope_44 rfl ?_
    refine E.callVD0 [] dX11_scope_45 mdX9_size imX9_size seX9_size kc_10 hqo lk_X11_86 rfl rfl rfl rfl (cCt.w0 (R := fun r => r = some (.int (nI (B 0).length))) fun σ9 h9 => v_size (hq3.mono h9.2.1)) ?_
    rintro _ G9 D9 ⟨rfl, e9, e8⟩
    have e9 := e9.symm; subst e9; have e8 := e8.symm; subst e8
    have hcs := k_scopeOf_D (Λ := Λ) hS (N := N) (show (updG G 1 (.inr (10, [.ref (S 13), .int (nI 0), .int 0]))) 0 = oGs S N from p_n) (show (updG G 1 (.inr (10, [.ref (S 13), .int (nI 0), .int 0]))) 6 = kLi (rv (A 6)) from p_w.1) (p_w.2.mono hq2) w_w.1 hq3 (a := 0) (m := (B 0).length) (by omega)
    rw [List.drop_zero, List.take_length] at hcs
    refine E.callVS0 (k9 := 0) [.ref q9, .int 0, .int (nI (B 0).length)] dX11_scope_48 mdX11_scopeOf imX11_scopeOf seX11_scopeOf kc_12 rfl p_n lk_X11_112 rfl rfl rfl rfl hcs ?_
    rintro _ G9 D9 ⟨rfl, e9, e8⟩
    have e9 := e9.symm; subst e9; have e8 := e8.symm; subst e8
    refine E.iconst (v := (-1)) dX11_scope_51 (by decide) ?_
    refine E.icmp_eq (tgt := 65) dX11_scope_52 (by decide) (fun c_52 => ?_) (fun c_52 => ?_)
    · skip
      have hnf : ¬ (fnd (T 2) (B 0)) < (T 2).length := fun q => by rw [if_pos q] at c_52; exact absurd (show (nI (fnd (T 2) (B 0))) < 0 by rw [c_52]; decide) (nI_pos (by have := w_w.1; omega))
      have hne : (fnd (T 2) (B 0)) = (T 2).length := Nat.le_antisymm (fnd_le _ _) (Nat.le_of_not_lt hnf)
      have hok : (gdW (B 0) && decide ((fnd (T 2) (B 0)) = (T 2).length)) = true := by rw [hg, decide_eq_true hne]; rfl
      have hrv := rv_len (A 6)
      have h62 := p_w.2.1
      have h8 := w_w.1
      refine E.aload_nR dX11_scope_65 rfl ?_
      refine E.getS (k9 := 0) (fs := [.ref (S 1), .ref (S 2), .ref (S 3), .ref (S 4), .ref (S 5), .ref (S 6), .ref (S 7), .ref (S 8), .ref (S 9), .ref (S 10), .ref (S 11), .ref (S 12), .int (N 26), .int (N 27), .int (N 28), .int (N 25), .int (N 5), .int (N 6)]) dX11_scope_66 fl_X11_45 rfl p_n rfl ?_
      refine E.callLS0 (k9 := 6) [] dX11_scope_69 mdJx4a65c_size_8abf5 imJx4a65c_size_8abf5 seJx4a65c_size_8abf5 rfl p_w.1 lk_X11_123 rfl rfl rfl rfl (cCt.w0 (R := fun r => r = some (.int (nI (rv (A 6)).length))) fun σ9 h9 => c_list_size (h9.at (k := 6) rfl p_w.1)) ?_
      rintro _ G9 D9 ⟨rfl, e9, e8⟩
      have e9 := e9.symm; subst e9; have e8 := e8.symm; subst e8
      refine E.bipush (v := 8) dX11_scope_72 (by decide) ?_
      refine E.icmp_lt (tgt := 87) dX11_scope_74 (by decide) (fun c_74 => ?_) (fun c_74 => ?_)
      · skip
        have h7 : (T 2).length < 8 := by have h9 := c_74; rw [hrv, h62] at h9; exact (nI_ltI (b := 8) (by omega) (by decide)).mp h9
        refine E.aload_nR dX11_scope_87 rfl ?_
        refine E.getS (k9 := 0) (fs := [.ref (S 1), .ref (S 2), .ref (S 3), .ref (S 4), .ref (S 5), .ref (S 6), .ref (S 7), .ref (S 8), .ref (S 9), .ref (S 10), .ref (S 11), .ref (S 12), .int (N 26), .int (N 27), .int (N 28), .int (N 25), .int (N 5), .int (N 6)]) dX11_scope_88 fl_X11_45 rfl p_n rfl ?_
        refine E.aload_nR dX11_scope_91 rfl ?_
        refine E.less (bc' := 1 + 1) (bs' := ((60 - ((B 0).length + 3)) - (2 * (rv (A 6)).length + 10)) + (2 * (rv (A 6)).length + 10)) (by omega) (by omega) ?_
        refine E.callLS (k9 := 6) [.ref q9] dX11_scope_92 mdJx4a65c_add_9ea2d imJx4a65c_add_9ea2d seJx4a65c_add_9ea2d rfl p_w.1 lk_X11_129 rfl rfl rfl rfl (cCt.w1 (R := fun r => r = some (.int 1)) (i := 6) hS (by decide) fun σ9 h9 => c_list_add (h9.at (k := 6) rfl p_w.1) kc_10 ca_10 hJ (((p_w.2.mono hq2).el).mono h9.2.1) (h9.2.1 _ _ hqo) (by omega)) ?_
        rintro _ _ D9 ⟨rfl, rfl, e8⟩
        have e8 := e8.symm; subst e8
        refine E.pop dX11_scope_95 rfl ?_
        refine E.aload_nR dX11_scope_96 rfl ?_
        refine E.getS (k9 := 0) (fs := [.ref (S 1), .ref (S 2), .ref (S 3), .ref (S 4), .ref (S 5), .ref (S 6), .ref (S 7), .ref (S 8), .ref (S 9), .ref (S 10), .ref (S 11), .ref (S 12), .int (N 26), .int (N 27), .int (N 28), .int (N 25), .int (N 5), .int (N 6)]) dX11_scope_97 fl_X11_45 rfl p_n rfl ?_
        refine E.callLS0 (k9 := 6) [] dX11_scope_100 mdJx4a65c_size_8abf5 imJx4a65c_size_8abf5 seJx4a65c_size_8abf5 rfl rfl lk_X11_123 rfl rfl rfl rfl (cCt.w0 (R := fun r => r = some (.int (nI ((rv (A 6)) ++ [Value.ref q9]).length))) fun σ9 h9 => c_list_size (h9.at (k := 6) rfl rfl)) ?_
        rintro _ G9 D9 ⟨rfl, e9, e8⟩
        have e9 := e9.symm; subst e9; have e8 := e8.symm; subst e8
        refine E.iconst (v := 1) dX11_scope_103 (by decide) ?_
        refine E.isub dX11_scope_104 ?_
        rw [show (nI ((rv (A 6)) ++ [Value.ref q9]).length) - 1 = nI (T 2).length from (by rw [List.length_append, hrv, h62]; exact pk_sub (a := (T 2).length + 1) (b := 1) (by omega))]
        refine E.iret dX11_scope_105 rfl ?_
        rw [opScope, if_neg (by rw [hok]; decide), if_neg (by omega)]
        exact ⟨rfl, rfl, setA A 6 (A 6 ++ [q9]), L, ⟨ft, rfl, a2, Nat.zero_le _, by decide, rfl, bts_nil⟩, p_b, p_n, p_k, p_f, p_h, ⟨congrArg kLi (rv_app _ _), p_w.2.app hq2 hq3⟩, ⟨p_c.1, p_c.2.mono hq2⟩, p_r.mono hq2, ⟨p_q.1, p_q.2.mono hq2⟩, ⟨p_o.1, p_o.2.mono hq2⟩, ⟨p_m.1, p_m.2.mono hq2⟩, ⟨p_t.1, p_t.2.1, p_t.2.2.mono hq2⟩, ⟨p_d.1, p_d.2.1, p_d.2.2.mono hq2⟩⟩
      · skip
        refine E.less (bc' := 1 + 1) (bs' := ((60 - ((B 0).length + 3)) - 6) + 6) (by omega) (by omega) ?_
        refine E.throw hX hNo tw_uo sr_X11_126 rfl rfl dX11_scope_77 dX11_scope_80 (Or.inl ⟨dX11_scope_81, dX11_scope_83, dX11_scope_86⟩) ?_
        have h88 : (T 2).length = 8 := by rw [hrv, h62] at c_74; have := (nI_leI (a := 8) (by decide) (by omega)).mp (Int32.not_lt.mp c_74); omega
        rw [opScope, if_neg (by rw [hok]; decide), if_pos h88]
        exact ⟨1, rfl, rfl, A, L, ⟨ft, rfl, a2, Nat.zero_le _, by decide, rfl, bts_nil⟩, p_b, p_n, p_k, p_f, p_h, ⟨p_w.1, p_w.2.mono hq2⟩, ⟨p_c.1, p_c.2.mono hq2⟩, p_r.mono hq2, ⟨p_q.1, p_q.2.mono hq2⟩, ⟨p_o.1, p_o.2.mono hq2⟩, ⟨p_m.1, p_m.2.mono hq2⟩, ⟨p_t.1, p_t.2.1, p_t.2.2.mono hq2⟩, ⟨p_d.1, p_d.2.1, p_d.2.2.mono hq2⟩⟩
    · skip
      have hfn : (fnd (T 2) (B 0)) < (T 2).length := Classical.byContradiction fun q => c_52 (by rw [if_neg q])
      refine E.less (bc' := 1 + 1) (bs' := ((60 - ((B 0).length + 3)) - 6) + 6) (by omega) (by omega) ?_
      refine E.throw hX hNo tw_ia sr_X11_118 rfl rfl dX11_scope_55 dX11_scope_58 (Or.inl ⟨dX11_scope_59, dX11_scope_61, dX11_scope_64⟩) ?_
      rw [opScope, if_pos (by rw [hg, decide_eq_false (by omega)]; rfl)]
      exact ⟨0, rfl, rfl, A, L, ⟨ft, rfl, a2, Nat.zero_le _, by decide, rfl, bts_nil⟩, p_b, p_n, p_k, p_f, p_h, ⟨p_w.1, p_w.2.mono hq2⟩, ⟨p_c.1, p_c.2.mono hq2⟩, p_r.mono hq2, ⟨p_q.1, p_q.2.mono hq2⟩, ⟨p_o.1, p_o.2.mono hq2⟩, ⟨p_m.1, p_m.2.mono hq2⟩, ⟨p_t.1, p_t.2.1, p_t.2.2.mono hq2⟩, ⟨p_d.1, p_d.2.1, p_d.2.2.mono hq2⟩⟩

theorem q_redirect {Λ : kL} {S : Nat → Nat} {G : Nat → kc} {D : kh} (hS : cInj S) (hX : kXo Λ) {A L : Nat → List Nat} {N : Nat → Int32} {B : Nat → List Int32} {T R : Nat → List (List Int32)} (hR : cR Λ S G D A L N B T R) (hW : wf N B T R) (hJ : kJd Λ) (x : Int32) : eCt Λ mX11_redirect 4 120 S [.ref (S 0), .int x] G D (eP Λ S (opRedirect N B T R x) xl_r) := by
  refine eCt.of hS pn_X11 [some (.ref (S 0)), some (.int x), none, none] rfl (Nat.le_of_ble_eq_true rfl) fun X hNo => ?_
  have hR0 := hR; have hW0 := hW
  obtain ⟨p_a, p_b, p_n, p_k, p_f, p_h, p_w, p_c, p_r, p_q, p_o, p_m, p_t, p_d⟩ := hR
  obtain ⟨w_a, w_n, w_w, w_c, w_r, w_x, w_q, w_k, w_f, w_t, w_m, w_l⟩ := hW
  have p_a9 := p_a; obtain ⟨ft, a1, a2, a3, a4, a5, a6⟩ := p_a9
  have p_b9 := p_b; obtain ⟨fo9, b1, b2, b3, b4, b5, b6⟩ := p_b9
  refine E.aload_nR dX11_redirect_0 rfl ?_
  refine E.getS (k9 := 0) (fs := [.ref (S 1), .ref (S 2), .ref (S 3), .ref (S 4), .ref (S 5), .ref (S 6), .ref (S 7), .ref (S 8), .ref (S 9), .ref (S 10), .ref (S 11), .ref (S 12), .int (N 26), .int (N 27), .int (N 28), .int (N 25), .int (N 5), .int (N 6)]) dX11_redirect_1 fl_X11_14 rfl p_n rfl ?_
  refine E.callS0 [.ref (S 1)] dX11_redirect_4 mdX11_isRedirect ssX11_isRedirect lk_X11_153 rfl rfl rfl rfl (k_isRedirect hS (show tO S G 1 13 2000 (B 0) from p_a)) ?_
  rintro _ G9 D9 ⟨rfl, e9, e8⟩
  have e9 := e9.symm; subst e9; have e8 := e8.symm; subst e8
  refine E.if_eq (tgt := 28) dX11_redirect_7 (by decide) (fun c_7 => ?_) (fun c_7 => ?_)
  · skip
    have hg : gdR (B 0) = false := (bI_eq0 _).mp c_7
    refine E.aconst_null dX11_redirect_28 ?_
    refine E.astore_nN (L' := [some (.ref (S 0)), some (.int x), some (.null), none]) dX11_redirect_29 (by decide) rfl rfl ?_
    refine E.aload_nR dX11_redirect_30 rfl ?_
    refine E.getS (k9 := 0) (fs := [.ref (S 1), .ref (S 2), .ref (S 3), .ref (S 4), .ref (S 5), .ref (S 6), .ref (S 7), .ref (S 8), .ref (S 9), .ref (S 10), .ref (S 11), .ref (S 12), .int (N 26), .int (N 27), .int (N 28), .int (N 25), .int (N 5), .int (N 6)]) dX11_redirect_31 fl_X11_14 rfl p_n rfl ?_
    refine E.callVS0 (k9 := 1) [] dX11_redirect_34 mdX9_clear imX9_clear seX9_clear kc_10 rfl a1 lk_X11_109 rfl rfl rfl rfl (cCt.w1 (R := fun r => r = none) (i := 1) hS (by decide) fun σ9 h9 => c_Text_clear (h9.at (k := 1) rfl a1)) ?_
    rintro _ _ D9 ⟨rfl, rfl, e8⟩; have e8 := e8.symm; subst e8
    refine E.iload_n dX11_redirect_37 rfl ?_
    refine E.if_lt (tgt := 52) dX11_redirect_38 (by decide) (fun c_38 => ?_) (fun c_38 => ?_)
    · skip
      refine E.less (bc' := 3 + 1) (bs' := 114 + 6) (by omega) (by omega) ?_
      refine E.throw hX hNo tw_io sr_X11_158 rfl rfl dX11_redirect_52 dX11_redirect_55 (Or.inl ⟨dX11_redirect_56, dX11_redirect_58, dX11_redirect_61⟩) ?_
      rw [opRedirect, if_pos (Or.inl c_38)]
      exact ⟨0, rfl, rfl, A, L, ⟨ft, rfl, a2, Nat.zero_le _, by decide, rfl, bts_nil⟩, p_b, p_n, p_k, p_f, p_h, p_w, p_c, p_r, p_q, p_o, p_m, p_t, p_d⟩
    · skip
      refine E.iload_n dX11_redirect_41 rfl ?_
      refine E.aload_nR dX11_redirect_42 rfl ?_
      refine E.getS (k9 := 0) (fs := [.ref (S 1), .ref (S 2), .ref (S 3), .ref (S 4), .ref (S 5), .ref (S 6), .ref (S 7), .ref (S 8), .ref (S 9), .ref (S 10), .ref (S 11), .ref (S 12), .int (N 26), .int (N 27), .int (N 28), .int (N 25), .int (N 5), .int (N 6)]) dX11_redirect_43 fl_X11_49 rfl p_n rfl ?_
      refine E.callLS0 (k9 := 7) [] dX11_redirect_46 mdJx4a65c_size_8abf5 imJx4a65c_size_8abf5 seJx4a65c_size_8abf5 rfl p_c.1 lk_X11_123 rfl rfl rfl rfl (cCt.w0 (R := fun r => r = some (.int (nI (rv (A 7)).length))) fun σ9 h9 => c_list_size (h9.at (k := 7) rfl p_c.1)) ?_
      rintro _ G9 D9 ⟨rfl, e9, e8⟩
      have e9 := e9.symm; subst e9; have e8 := e8.symm; subst e8
      refine E.icmp_lt (tgt := 62) dX11_redirect_49 (by decide) (fun c_49 => ?_) (fun c_49 => ?_)
      · skip
        rw [rv_len, p_c.2.1] at c_49
        have hno : ¬ (x < 0 ∨ nI (T 3).length ≤ x) := fun z => z.elim c_38 fun z => absurd z (Int32.not_le.mpr c_49)
        obtain ⟨k, hkx, hk⟩ : ∃ k, x = nI k ∧ k < (T 3).length := ⟨_, oix_eq c_38, oix_lt c_38 c_49 (by have := w_c.1; omega)⟩
        subst hkx
        rw [opRedirect, if_neg hno, nI_clamp (by have := w_c.1; omega)]
        refine E.aload_nN dX11_redirect_62 rfl ?_
        refine E.ifnonnullN dX11_redirect_63 ?_
        refine E.less (bc' := 3 + 1) (bs' := 114 + 6) (by omega) (by omega) ?_
        refine E.throw hX hNo tw_ia sr_X11_161 rfl rfl dX11_redirect_66 dX11_redirect_69 (Or.inl ⟨dX11_redirect_70, dX11_redirect_72, dX11_redirect_75⟩) ?_
        rw [if_pos hg]
        exact ⟨1, rfl, rfl, A, L, ⟨ft, rfl, a2, Nat.zero_le _, by decide, rfl, bts_nil⟩, p_b, p_n, p_k, p_f, p_h, p_w, p_c, p_r, p_q, p_o, p_m, p_t, p_d⟩
      · skip
        refine E.less (bc' := 3 + 1) (bs' := 114 + 6) (by omega) (by omega) ?_
        refine E.throw hX hNo tw_io sr_X11_158 rfl rfl dX11_redirect_52 dX11_redirect_55 (Or.inl ⟨dX11_redirect_56, dX11_redirect_58, dX11_redirect_61⟩) ?_
        rw [opRedirect, if_pos (Or.inr (by rw [rv_len, p_c.2.1] at c_49; exact Int32.not_lt.mp c_49))]
        exact ⟨0, rfl, rfl, A, L, ⟨ft, rfl, a2, Nat.zero_le _, by decide, rfl, bts_nil⟩, p_b, p_n, p_k, p_f, p_h, p_w, p_c, p_r, p_q, p_o, p_m, p_t, p_d⟩
  · skip
    have hg : gdR (B 0) = true := bt1 c_7
    have hb12 := gdR_le hg
    refine E.aload_nR dX11_redirect_10 rfl ?_
    refine E.getS (k9 := 0) (fs := [.ref (S 1), .ref (S 2), .ref (S 3), .ref (S 4), .ref (S 5), .ref (S 6), .ref (S 7), .ref (S 8), .ref (S 9), .ref (S 10), .ref (S 11), .ref (S 12), .int (N 26), .int (N 27), .int (N 28), .int (N 25), .int (N 5), .int (N 6)]) dX11_redirect_11 fl_X11_14 rfl p_n rfl ?_
    refine E.iconst (v := 0) dX11_redirect_14 (by decide) ?_
    refine E.aload_nR dX11_redirect_15 rfl ?_
    refine E.getS (k9 := 0) (fs := [.ref (S 1), .ref (S 2), .ref (S 3), .ref (S 4), .ref (S 5), .ref (S 6), .ref (S 7), .ref (S 8), .ref (S 9), .ref (S 10), .ref (S 11), .ref (S 12), .int (N 26), .int (N 27), .int (N 28), .int (N 25), .int (N 5), .int (N 6)]) dX11_redirect_16 fl_X11_14 rfl p_n rfl ?_
    refine E.callVS0 (k9 := 1) [] dX11_redirect_19 mdX9_size imX9_size seX9_size kc_10 rfl a1 lk_X11_86 rfl rfl rfl rfl (cCt.w0 (R := fun r => r = some (.int (nI (B 0).length))) fun σ9 h9 => v_size ((show tO S G 1 13 2000 (B 0) from p_a).s.tx h9 rfl rfl)) ?_
    rintro _ G9 D9 ⟨rfl, e9, e8⟩
    have e9 := e9.symm; subst e9; have e8 := e8.symm; subst e8
    have hct := k_copyOf (Λ := Λ) (D := D) (fun σ9 h9 => ((show tO S G 1 13 2000 (B 0) from p_a).s.tx h9 rfl rfl)) a6 (by omega) (g := 0) (m := (B 0).length) (by omega)
    rw [List.drop_zero, List.take_length] at hct
    refine E.less (bc' := 2 + 2) (bs' := (120 - ((B 0).length + 3)) + ((B 0).length + 3)) (by omega) (by omega) ?_
    refine E.callVS (k9 := 1) [.int 0, .int (nI (B 0).length)] dX11_redirect_22 mdX9_copyOfPart imX9_copyOfPart seX9_copyOfPart kc_10 rfl a1 lk_X11_105 rfl rfl rfl rfl hct ?_
    rintro _ G9 D2 ⟨q9, hq1, rfl, e9, hq2, hq3⟩; have e9 := e9.symm; subst e9
    have hq3o := hq3; obtain ⟨rq9, bq9, cq9, fq9, hqo, hqo2⟩ := hq3o
    refine E.goto (tgt := 29) dX11_redirect_25 (by decide) ?_
    refine E.astore_n (L' := [some (.ref (S 0)), some (.int x), some (.ref q9), none]) dX11_redirect_29 (by decide) rfl rfl ?_
    refine E.aload_nR dX11_redirect_30 rfl ?_
    refine E.getS (k9 := 0) (fs := [.ref (S 1), .ref (S 2), .ref (S 3), .ref (S 4), .ref (S 5), .ref (S 6), .ref (S 7), .ref (S 8), .ref (S 9), .ref (S 10), .ref (S 11), .ref (S 12), .int (N 26), .int (N 27), .int (N 28), .int (N 25), .int (N 5), .int (N 6)]) dX11_redirect_31 fl_X11_14 rfl p_n rfl ?_
    refine E.callVS0 (k9 := 1) [] dX11_redirect_34 mdX9_clear imX9_clear seX9_clear kc_10 rfl a1 lk_X11_109 rfl rfl rfl rfl (cCt.w1 (R := fun r => r = none) (i := 1) hS (by decide) fun σ9 h9 => c_Text_clear (h9.at (k := 1) rfl a1)) ?_
    rintro _ _ D9 ⟨rfl, rfl, e8⟩; have e8 := e8.symm; subst e8
    refine E.iload_n dX11_redirect_37 rfl ?_
    refine E.if_lt (tgt := 52) dX11_redirect_38 (by decide) (fun c_38 => ?_) (fun c_38 => ?_)
    · skip
      refine E.less (bc' := 1 + 1) (bs' := ((120 - ((B 0).length + 3)) - 6) + 6) (by omega) (by omega) ?_
      refine E.throw hX hNo tw_io sr_X11_158 rfl rfl dX11_redirect_52 dX11_redirect_55 (Or.inl ⟨dX11_redirect_56, dX11_redirect_58, dX11_redirect_61⟩) ?_
      rw [opRedirect, if_pos (Or.inl c_38)]
      exact ⟨0, rfl, rfl, A, L, ⟨ft, rfl, a2, Nat.zero_le _, by decide, rfl, bts_nil⟩, p_b, p_n, p_k, p_f, p_h, ⟨p_w.1, p_w.2.mono hq2⟩, ⟨p_c.1, p_c.2.mono hq2⟩, p_r.mono hq2, ⟨p_q.1, p_q.2.mono hq2⟩, ⟨p_o.1, p_o.2.mono hq2⟩, ⟨p_m.1, p_m.2.mono hq2⟩, ⟨p_t.1, p_t.2.1, p_t.2.2.mono hq2⟩, ⟨p_d.1, p_d.2.1, p_d.2.2.mono hq2⟩⟩
    · skip
      refine E.iload_n dX11_redirect_41 rfl ?_
      refine E.aload_nR dX11_redirect_42 rfl ?_
      refine E.getS (k9 := 0) (fs := [.ref (S 1), .ref (S 2), .ref (S 3), .ref (S 4), .ref (S 5), .ref (S 6), .ref (S 7), .ref (S 8), .ref (S 9), .ref (S 10), .ref (S 11), .ref (S 12), .int (N 26), .int (N 27), .int (N 28), .int (N 25), .int (N 5), .int (N 6)]) dX11_redirect_43 fl_X11_49 rfl p_n rfl ?_
      refine E.callLS0 (k9 := 7) [] dX11_redirect_46 mdJx4a65c_size_8abf5 imJx4a65c_size_8abf5 seJx4a65c_size_8abf5 rfl p_c.1 lk_X11_123 rfl rfl rfl rfl (cCt.w0 (R := fun r => r = some (.int (nI (rv (A 7)).length))) fun σ9 h9 => c_list_size (h9.at (k := 7) rfl p_c.1)) ?_
      rintro _ G9 D9 ⟨rfl, e9, e8⟩
      have e9 := e9.symm; subst e9; have e8 := e8.symm; subst e8
      refine E.icmp_lt (tgt := 62) dX11_redirect_49 (by decide) (fun c_49 => ?_) (fun c_49 => ?_)
      · skip
        rw [rv_len, p_c.2.1] at c_49
        have hno : ¬ (x < 0 ∨ nI (T 3).length ≤ x) := fun z => z.elim c_38 fun z => absurd z (Int32.not_le.mpr c_49)
        obtain ⟨k, hkx, hk⟩ : ∃ k, x = nI k ∧ k < (T 3).length := ⟨_, oix_eq c_38, oix_lt c_38 c_49 (by have := w_c.1; omega)⟩
        subst hkx
        rw [opRedirect, if_neg hno, nI_clamp (by have := w_c.1; omega)]
        obtain ⟨i9, s9, u1⟩ := (p_c.2.2.2 _ hk).cell
        have hrc := p_r.2 k (by rw [p_c.2.2.1]; exact hk)
        have hrl := rv_len (L k)
        have hrl2 := hrc.2.1
        have hr3 := (w_r k).1
        refine E.aload_nR dX11_redirect_62 rfl ?_
        refine E.ifnonnullR (tgt := 76) dX11_redirect_63 (by decide) ?_
        refine E.aload_nR dX11_redirect_76 rfl ?_
        refine E.getS (k9 := 0) (fs := [.ref (S 1), .ref (S 2), .ref (S 3), .ref (S 4), .ref (S 5), .ref (S 6), .ref (S 7), .ref (S 8), .ref (S 9), .ref (S 10), .ref (S 11), .ref (S 12), .int (N 26), .int (N 27), .int (N 28), .int (N 25), .int (N 5), .int (N 6)]) dX11_redirect_77 fl_X11_49 rfl p_n rfl ?_
        refine E.iload_n dX11_redirect_80 rfl ?_
        refine E.callLS0 (k9 := 7) [.int (nI k)] dX11_redirect_81 mdJx4a65c_get_915e3 imJx4a65c_get_915e3 seJx4a65c_get_915e3 rfl p_c.1 lk_X11_163 rfl rfl rfl rfl (cCt.w0 (R := fun r => r = some (.ref ((A 7).getD k 0))) fun σ9 h9 => c_list_get (h9.at (k := 7) rfl p_c.1) (rv_at (by rw [p_c.2.1]; exact hk))) ?_
        rintro _ G9 D9 ⟨rfl, e9, e8⟩
        have e9 := e9.symm; subst e9; have e8 := e8.symm; subst e8
        refine E.castD dX11_redirect_84 cl_X11_141 cs_1 kc_1 (hq2 _ _ u1) ?_
        refine E.astore_n (L' := [some (.ref (S 0)), some (.int (nI k)), some (.ref q9), some (.ref ((A 7).getD k 0))]) dX11_redirect_87 (by decide) rfl rfl ?_
        refine E.aload_nR dX11_redirect_88 rfl ?_
        refine E.getD dX11_redirect_89 fl_X11_167 (hq2 _ _ u1) rfl ?_
        refine E.callLD0  [] dX11_redirect_92 mdJx4a65c_size_8abf5 imJx4a65c_size_8abf5 seJx4a65c_size_8abf5 (hq2 _ _ hrc.1) lk_X11_123 rfl rfl rfl rfl (cCt.w0 (R := fun r => r = some (.int (nI (rv (L k)).length))) fun σ9 h9 => c_list_size (h9.2.1 _ _ (hq2 _ _ hrc.1))) ?_
        rintro _ G9 D9 ⟨rfl, e9, e8⟩
        have e9 := e9.symm; subst e9; have e8 := e8.symm; subst e8
        refine E.iconst (v := 3) dX11_redirect_95 (by decide) ?_
        refine E.icmp_lt (tgt := 109) dX11_redirect_96 (by decide) (fun c_96 => ?_) (fun c_96 => ?_)
        · skip
          have h2r : (R k).length < 3 := by have h9 := c_96; rw [hrl, hrl2] at h9; exact (nI_ltI (b := 3) (by omega) (by decide)).mp h9
          refine E.aload_nR dX11_redirect_109 rfl ?_
          refine E.getD dX11_redirect_110 fl_X11_167 (hq2 _ _ u1) rfl ?_
          refine E.aload_nR dX11_redirect_113 rfl ?_
          refine E.less (bc' := 1 + 1) (bs' := ((120 - ((B 0).length + 3)) - (2 * (rv (L k)).length + 10)) + (2 * (rv (L k)).length + 10)) (by omega) (by omega) ?_
          refine E.callLD  [.ref q9] dX11_redirect_114 mdJx4a65c_add_9ea2d imJx4a65c_add_9ea2d seJx4a65c_add_9ea2d (hq2 _ _ hrc.1) lk_X11_129 rfl rfl rfl rfl (cCt.d1 (R := fun r => r = some (.int 1)) (hq2 _ _ hrc.1) fun σ9 h9 => c_list_add (h9.2.1 _ _ (hq2 _ _ hrc.1)) kc_10 ca_10 hJ (((hrc.2.mono hq2).el).mono h9.2.1) (h9.2.1 _ _ hqo) (by omega)) ?_
          rintro _ G9 _ ⟨rfl, e9, rfl⟩
          have e9 := e9.symm; subst e9
          have h_1 : (kup D2 ((A 13).getD k 0) (kLi ((rv (L k)) ++ [Value.ref q9]))) q9 = some (.inr (10, [.ref rq9, .int (nI bq9), .int (nI (B 0).length)])) := kup_i (kne_oo hqo (hq2 _ _ hrc.1) (by decide)) hqo
          have h_2 : (kup D2 ((A 13).getD k 0) (kLi ((rv (L k)) ++ [Value.ref q9]))) ((A 7).getD k 0) = some (.inr (1, [.int (nI k), .ref i9, s9, .int (ro (T 5) k 1), .int (bI (decide (ro (T 5) k 2 = 1))), .ref ((A 13).getD k 0)])) := kup_i (kne_oo (hq2 _ _ u1) (hq2 _ _ hrc.1) (by decide)) (hq2 _ _ u1)
          have h_3 : (kup D2 ((A 13).getD k 0) (kLi ((rv (L k)) ++ [Value.ref q9]))) ((A 13).getD k 0) = some (kLi ((rv (L k)) ++ [Value.ref q9])) := kup_s _ _ _
          refine E.pop dX11_redirect_117 rfl ?_
          refine E.aload_nR dX11_redirect_118 rfl ?_
          refine E.getD dX11_redirect_119 fl_X11_167 h_2 rfl ?_
          refine E.callLD0  [] dX11_redirect_122 mdJx4a65c_size_8abf5 imJx4a65c_size_8abf5 seJx4a65c_size_8abf5 h_3 lk_X11_123 rfl rfl rfl rfl (cCt.w0 (R := fun r => r = some (.int (nI ((rv (L k)) ++ [Value.ref q9]).length))) fun σ9 h9 => c_list_size (h9.2.1 _ _ h_3)) ?_
          rintro _ G9 D9 ⟨rfl, e9, e8⟩
          have e9 := e9.symm; subst e9; have e8 := e8.symm; subst e8
          refine E.iret dX11_redirect_125 rfl ?_
          have dk9 : dk 100 D2 (kup D2 ((A 13).getD k 0) (kLi ((rv (L k)) ++ [Value.ref q9]))) := dk.up (hq2 _ _ hrc.1)
          rw [if_neg (by rw [hg]; decide), if_neg (by omega)]
          refine ⟨rfl, congrArg (fun z => some (Value.int z)) (by rw [List.length_append, hrl, hrl2]; rfl), A, setA L k (L k ++ [q9]), ?_⟩
          have hW9 := w_q.2.2.2.2.2.2
          exact ⟨⟨ft, rfl, a2, Nat.zero_le _, by decide, rfl, bts_nil⟩, p_b, p_n, p_k, p_f, p_h, ⟨p_w.1, (p_w.2.mono hq2).dk dk9 (by decide) (by decide)⟩, ⟨p_c.1, (p_c.2.mono hq2).dk dk9 (by decide) (by decide) (by decide)⟩, (cRd_add p_r hq2 (by rw [p_c.2.2.1]; exact hk) hq3), ⟨p_q.1, cQs_red ((p_q.2.mono hq2).dk dk9 (by decide) (by decide) (by decide)) hW9 (by have := w_c.1; omega) (fun c => (w_r c).1)⟩, ⟨p_o.1, (p_o.2.mono hq2).dk dk9 (by decide)⟩, ⟨p_m.1, (p_m.2.mono hq2).dk dk9 (by decide)⟩, ⟨p_t.1, p_t.2.1, (p_t.2.2.mono hq2).dk dk9 (by decide)⟩, ⟨p_d.1, p_d.2.1, (p_d.2.2.mono hq2).dk dk9 (by decide) (by decide) (by decide) (by decide)⟩⟩
        · skip
          refine E.less (bc' := 1 + 1) (bs' := ((120 - ((B 0).length + 3)) - 6) + 6) (by omega) (by omega) ?_
          refine E.throw hX hNo tw_uo sr_X11_170 rfl rfl dX11_redirect_99 dX11_redirect_102 (Or.inl ⟨dX11_redirect_103, dX11_redirect_105, dX11_redirect_108⟩) ?_
          have h33 : (R k).length = 3 := by rw [hrl, hrl2] at c_96; have := (nI_leI (a := 3) (by decide) (by omega)).mp (Int32.not_lt.mp c_96); omega
          rw [if_neg (by rw [hg]; decide), if_pos h33]
          exact ⟨2, rfl, rfl, A, L, ⟨ft, rfl, a2, Nat.zero_le _, by decide, rfl, bts_nil⟩, p_b, p_n, p_k, p_f, p_h, ⟨p_w.1, p_w.2.mono hq2⟩, ⟨p_c.1, p_c.2.mono hq2⟩, p_r.mono hq2, ⟨p_q.1, p_q.2.mono hq2⟩, ⟨p_o.1, p_o.2.mono hq2⟩, ⟨p_m.1, p_m.2.mono hq2⟩, ⟨p_t.1, p_t.2.1, p_t.2.2.mono hq2⟩, ⟨p_d.1, p_d.2.1, p_d.2.2.mono hq2⟩⟩
      · skip
        refine E.less (bc' := 1 + 1) (bs' := ((120 - ((B 0).length + 3)) - 6) + 6) (by omega) (by omega) ?_
        refine E.throw hX hNo tw_io sr_X11_158 rfl rfl dX11_redirect_52 dX11_redirect_55 (Or.inl ⟨dX11_redirect_56, dX11_redirect_58, dX11_redirect_61⟩) ?_
        rw [opRedirect, if_pos (Or.inr (by rw [rv_len, p_c.2.1] at c_49; exact Int32.not_lt.mp c_49))]
        exact ⟨0, rfl, rfl, A, L, ⟨ft, rfl, a2, Nat.zero_le _, by decide, rfl, bts_nil⟩, p_b, p_n, p_k, p_f, p_h, ⟨p_w.1, p_w.2.mono hq2⟩, ⟨p_c.1, p_c.2.mono hq2⟩, p_r.mono hq2, ⟨p_q.1, p_q.2.mono hq2⟩, ⟨p_o.1, p_o.2.mono hq2⟩, ⟨p_m.1, p_m.2.mono hq2⟩, ⟨p_t.1, p_t.2.1, p_t.2.2.mono hq2⟩, ⟨p_d.1, p_d.2.1, p_d.2.2.mono hq2⟩⟩
