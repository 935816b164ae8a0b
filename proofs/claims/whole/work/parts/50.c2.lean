/-! the class: who asks -/
theorem cF.keep {Λ : kL} {S : Nat → Nat} {G G' : Nat → kc} (h : cF Λ S G) (he : ∀ k, 15 ≤ k → k < 44 → G' k = G k) : cF Λ S G' := by
  have e : ∀ k j nm, 15 ≤ k → k < 44 → 15 ≤ j → j < 44 → cf1 S G k j nm → cf1 S G' k j nm := fun k j nm a b c d ⟨to, x, n, q1, q2, q3⟩ => ⟨to, x, n, (he k a b).trans q1, (he j c d).trans q2, q3⟩
  obtain ⟨⟨f, h1⟩, ⟨n, h2, h3⟩, ⟨b, n2, h4, h5⟩, f0, f1, f2, f3, f4, f5, f6, f7, f8, f9, f10, f11, f12⟩ := h
  exact ⟨⟨f, (he _ (by decide) (by decide)).trans h1⟩, ⟨n, h2, (he _ (by decide) (by decide)).trans h3⟩, ⟨b, n2, h4, (he _ (by decide) (by decide)).trans h5⟩, e _ _ _ (by decide) (by decide) (by decide) (by decide) f0, e _ _ _ (by decide) (by decide) (by decide) (by decide) f1, e _ _ _ (by decide) (by decide) (by decide) (by decide) f2, e _ _ _ (by decide) (by decide) (by decide) (by decide) f3, e _ _ _ (by decide) (by decide) (by decide) (by decide) f4, e _ _ _ (by decide) (by decide) (by decide) (by decide) f5, e _ _ _ (by decide) (by decide) (by decide) (by decide) f6, e _ _ _ (by decide) (by decide) (by decide) (by decide) f7, e _ _ _ (by decide) (by decide) (by decide) (by decide) f8, e _ _ _ (by decide) (by decide) (by decide) (by decide) f9, e _ _ _ (by decide) (by decide) (by decide) (by decide) f10, e _ _ _ (by decide) (by decide) (by decide) (by decide) f11, e _ _ _ (by decide) (by decide) (by decide) (by decide) f12⟩
theorem cR_form {Λ : kL} {S : Nat → Nat} {G G' : Nat → kc} {D : kh} {A L : Nat → List Nat} {N : Nat → Int32} {B : Nat → List Int32} {T R : Nat → List (List Int32)} (h : cR Λ S G D A L N B T R) (hf : fFr G G') (hF : cF Λ S G') : cR Λ S G' D A L N B T R := by
  obtain ⟨p_a, p_b, p_n, p_k, p_f, p_h, p_w, p_c, p_r, p_q, p_o, p_m, p_t, p_d⟩ := h
  obtain ⟨fa, a1, a2, a3⟩ := p_a
  obtain ⟨fb, b1, b2, b3⟩ := p_b
  obtain ⟨⟨h1, h2⟩, ⟨h3, h4⟩, n5, f5, h5, h6, h7⟩ := p_h
  have e : ∀ k, ¬ (15 ≤ k ∧ k < 44) → G' k = G k := hf
  exact ⟨⟨fa, (e 1 (by decide)).trans a1, (e 13 (by decide)).trans a2, a3⟩, ⟨fb, (e 2 (by decide)).trans b1, (e 14 (by decide)).trans b2, b3⟩, (e 0 (by decide)).trans p_n, ⟨(e 3 (by decide)).trans p_k.1, (e 4 (by decide)).trans p_k.2.1, (e 5 (by decide)).trans p_k.2.2.1, (e 44 (by decide)).trans p_k.2.2.2⟩, hF, ⟨⟨h1, (e 47 (by decide)).trans h2⟩, ⟨h3, (e 48 (by decide)).trans h4⟩, n5, f5, h5, (e 49 (by decide)).trans h6, (e 50 (by decide)).trans h7⟩, ⟨(e 6 (by decide)).trans p_w.1, p_w.2⟩, ⟨(e 7 (by decide)).trans p_c.1, p_c.2⟩, p_r, ⟨(e 8 (by decide)).trans p_q.1, p_q.2⟩, ⟨(e 9 (by decide)).trans p_o.1, p_o.2⟩, ⟨(e 10 (by decide)).trans p_m.1, p_m.2⟩, ⟨(e 11 (by decide)).trans p_t.1, (e 12 (by decide)).trans p_t.2.1, p_t.2.2⟩, ⟨(e 45 (by decide)).trans p_d.1, (e 46 (by decide)).trans p_d.2.1, p_d.2.2⟩⟩
theorem fnd_hit {T : List (List Int32)} {v : List Int32} {i : Nat} (hi : i < T.length) (h : fnd T v = fsti (fun k => decide (v = T.getD k [])) (T.length - i) i) (hy : v = T.getD i []) : fnd T v = i := h.trans (fsti_hit hi (decide_eq_true hy))
theorem fnd_st {T : List (List Int32)} {v : List Int32} {i : Nat} (hi : i < T.length) (h : fnd T v = fsti (fun k => decide (v = T.getD k [])) (T.length - i) i) (hn : ¬ v = T.getD i []) : fnd T v = fsti (fun k => decide (v = T.getD k [])) (T.length - (i + 1)) (i + 1) := h.trans (fsti_st hi (decide_eq_false hn))
theorem fnd_end {T : List (List Int32)} {v : List Int32} {i : Nat} (hi : T.length ≤ i) (h : fnd T v = fsti (fun k => decide (v = T.getD k [])) (T.length - i) i) : ¬ fnd T v < T.length := by
  rw [h, show T.length - i = 0 by omega]
  show ¬ i < T.length
  omega

theorem k_readForm {Λ : kL} {S : Nat → Nat} {G : Nat → kc} {D : kh} (hS : cInj S) {A L : Nat → List Nat} {N : Nat → Int32} {B : Nat → List Int32} {T R : Nat → List (List Int32)} (hR : cR Λ S G D A L N B T R) (hW : wf N B T R) (hSt : kSt Λ) : cCt Λ mX11_readForm 0 0 S [.ref (S 0)] G D (fun r G' D' => D' = D ∧ cR Λ S G' D A L N (setB B 0 []) T R ∧ ((∃ g, fmS (B 0) = some g ∧ r = some (.int 1) ∧ cG Λ S G' g) ∨ (fmS (B 0) = none ∧ r = some (.int 0)))) := by
  refine cCt.of hS pn_X11 [some (.ref (S 0)), none] rfl (Nat.le_of_ble_eq_true rfl) fun X => ?_
  obtain ⟨p_a, p_b, p_n, p_k, p_f, p_h, p_w, p_c, p_r, p_q, p_o, p_m, p_t, p_d⟩ := hR
  obtain ⟨w_a, w_n, w_w, w_c, w_r, w_x, w_q, w_k, w_f, w_t, w_m, w_l⟩ := hW
  have p_a9 := p_a; obtain ⟨ft, a1, a2, a3, a4, a5, a6⟩ := p_a9
  have p_b9 := p_b; obtain ⟨fo9, b1, b2, b3, b4, b5, b6⟩ := p_b9
  refine C.aload_nR dX11_readForm_0 rfl ?_
  refine C.getS (k9 := 0) (fs := [.ref (S 1), .ref (S 2), .ref (S 3), .ref (S 4), .ref (S 5), .ref (S 6), .ref (S 7), .ref (S 8), .ref (S 9), .ref (S 10), .ref (S 11), .ref (S 12), .int (N 26), .int (N 27), .int (N 28), .int (N 25), .int (N 5), .int (N 6)]) dX11_readForm_1 fl_X11_24 rfl p_n rfl ?_
  refine C.aload_nR dX11_readForm_4 rfl ?_
  refine C.getS (k9 := 0) (fs := [.ref (S 1), .ref (S 2), .ref (S 3), .ref (S 4), .ref (S 5), .ref (S 6), .ref (S 7), .ref (S 8), .ref (S 9), .ref (S 10), .ref (S 11), .ref (S 12), .int (N 26), .int (N 27), .int (N 28), .int (N 25), .int (N 5), .int (N 6)]) dX11_readForm_5 fl_X11_14 rfl p_n rfl ?_
  refine C.callVS0 (k9 := 3) [.ref (S 1)] dX11_readForm_8 mdX4_read imX4_read seX4_read kc_5 rfl p_k.1 lk_X11_387 rfl rfl rfl rfl (k_read hS hSt p_k p_f p_a) ?_
  rintro _ G1 D9 ⟨hfr, e8, hres⟩; have e8 := e8.symm; subst e8
  have hcf : cF Λ S G1 := by rcases hres with ⟨g, _, _, h⟩ | ⟨_, _, h⟩; exact h.1; exact h
  have hR1 := cR_form (show cR Λ S G D A L N B T R from ⟨p_a, p_b, p_n, p_k, p_f, p_h, p_w, p_c, p_r, p_q, p_o, p_m, p_t, p_d⟩) hfr hcf
  obtain ⟨z_a, z_b, z_n, z_k, z_f, z_h, z_w, z_c, z_r, z_q, z_o, z_m, z_t, z_d⟩ := hR1
  have z_a9 := z_a; obtain ⟨fz, za1, za2, za3, za4, za5, za6⟩ := z_a9
  rcases hres with ⟨g, hfm, rfl, hcg⟩ | ⟨hfm, rfl, _⟩
  · skip
    refine C.istore_n (L' := [some (.ref (S 0)), some (.int 1)]) dX11_readForm_11 (by decide) rfl rfl ?_
    refine C.aload_nR dX11_readForm_12 rfl ?_
    refine C.getS (k9 := 0) (fs := [.ref (S 1), .ref (S 2), .ref (S 3), .ref (S 4), .ref (S 5), .ref (S 6), .ref (S 7), .ref (S 8), .ref (S 9), .ref (S 10), .ref (S 11), .ref (S 12), .int (N 26), .int (N 27), .int (N 28), .int (N 25), .int (N 5), .int (N 6)]) dX11_readForm_13 fl_X11_14 rfl z_n rfl ?_
    refine C.callVS0 (k9 := 1) [] dX11_readForm_16 mdX9_clear imX9_clear seX9_clear kc_10 rfl za1 lk_X11_109 rfl rfl rfl rfl (cCt.w1 (R := fun r => r = none) (i := 1) hS (by decide) fun σ9 h9 => c_Text_clear (h9.at (k := 1) rfl za1)) ?_
    rintro _ _ D9 ⟨rfl, rfl, e8⟩; have e8 := e8.symm; subst e8
    refine C.iload_n dX11_readForm_19 rfl ?_
    refine C.zret dX11_readForm_20 rfl rfl ?_
    exact ⟨rfl, ⟨⟨fz, rfl, za2, Nat.zero_le _, by decide, rfl, bts_nil⟩, z_b, z_n, z_k, z_f, z_h, z_w, z_c, z_r, z_q, z_o, z_m, z_t, z_d⟩, Or.inl ⟨g, hfm, rfl, hcg⟩⟩
  · skip
    refine C.istore_n (L' := [some (.ref (S 0)), some (.int 0)]) dX11_readForm_11 (by decide) rfl rfl ?_
    refine C.aload_nR dX11_readForm_12 rfl ?_
    refine C.getS (k9 := 0) (fs := [.ref (S 1), .ref (S 2), .ref (S 3), .ref (S 4), .ref (S 5), .ref (S 6), .ref (S 7), .ref (S 8), .ref (S 9), .ref (S 10), .ref (S 11), .ref (S 12), .int (N 26), .int (N 27), .int (N 28), .int (N 25), .int (N 5), .int (N 6)]) dX11_readForm_13 fl_X11_14 rfl z_n rfl ?_
    refine C.callVS0 (k9 := 1) [] dX11_readForm_16 mdX9_clear imX9_clear seX9_clear kc_10 rfl za1 lk_X11_109 rfl rfl rfl rfl (cCt.w1 (R := fun r => r = none) (i := 1) hS (by decide) fun σ9 h9 => c_Text_clear (h9.at (k := 1) rfl za1)) ?_
    rintro _ _ D9 ⟨rfl, rfl, e8⟩; have e8 := e8.symm; subst e8
    refine C.iload_n dX11_readForm_19 rfl ?_
    refine C.zret dX11_readForm_20 rfl rfl ?_
    exact ⟨rfl, ⟨⟨fz, rfl, za2, Nat.zero_le _, by decide, rfl, bts_nil⟩, z_b, z_n, z_k, z_f, z_h, z_w, z_c, z_r, z_q, z_o, z_m, z_t, z_d⟩, Or.inr ⟨hfm, rfl⟩⟩

theorem k_scopeOf_S {Λ : kL} {S : Nat → Nat} {G : Nat → kc} {D : kh} (hS : cInj S) {N : Nat → Int32} (hP : G 0 = oGs S N) {l : List Nat} (h6 : G 6 = kLi (rv l)) {W : List (List Int32)} (hw : txs D l W) (hW8 : W.length ≤ 8) {v : List Int32} (hT : tS S G 34 16 2000 v) {a m : Nat} (ham : a + m ≤ v.length) : cCt Λ mX11_scopeOf 0 0 S [.ref (S 0), .ref (S 34), .int (nI a), .int (nI m)] G D (fun r G' D' => r = some (.int (if fnd W ((v.drop a).take m) < W.length then nI (fnd W ((v.drop a).take m)) else -1)) ∧ G' = G ∧ D' = D) := by
  refine cCt.of hS pn_X11 [some (.ref (S 0)), some (.ref (S 34)), some (.int (nI a)), some (.int (nI m)), none] rfl (Nat.le_of_ble_eq_true rfl) fun X => ?_
  have hT9 := hT; obtain ⟨bt, gt, t1, t2⟩ := hT9
  refine C.iconst (v := 0) dX11_scopeOf_0 (by decide) ?_
  refine C.istore (L' := [some (.ref (S 0)), some (.ref (S 34)), some (.int (nI a)), some (.int (nI m)), some (.int 0)]) dX11_scopeOf_1 (by decide) rfl rfl ?_
  have cut_3 : ∀ (k_3 : Nat) (i : Nat), (i ≤ W.length) → (W.length + 1 ≤ i + k_3) → (fnd W ((v.drop a).take m) = fsti (fun k => decide (((v.drop a).take m) = W.getD k [])) (W.length - i) i) → C Λ X mX11_scopeOf 0 0 S (fun r G' D' => r = some (.int (if fnd W ((v.drop a).take m) < W.length then nI (fnd W ((v.drop a).take m)) else -1)) ∧ G' = G ∧ D' = D) 0 0 G D 3 [some (.ref (S 0)), some (.ref (S 34)), some (.int (nI a)), some (.int (nI m)), some (.int (nI i))] [] := by
    intro k_3
    induction k_3 with
    | zero => intro i h1 h2 hz; exact absurd h2 (by omega)
    | succ k_3 ih_3 =>
      intro i h1 h2 hz
      refine C.iload dX11_scopeOf_3 rfl ?_
      refine C.aload_nR dX11_scopeOf_5 rfl ?_
      refine C.getS (k9 := 0) (fs := [.ref (S 1), .ref (S 2), .ref (S 3), .ref (S 4), .ref (S 5), .ref (S 6), .ref (S 7), .ref (S 8), .ref (S 9), .ref (S 10), .ref (S 11), .ref (S 12), .int (N 26), .int (N 27), .int (N 28), .int (N 25), .int (N 5), .int (N 6)]) dX11_scopeOf_6 fl_X11_45 rfl hP rfl ?_
      refine C.callLS0 (k9 := 6) [] dX11_scopeOf_9 mdJx4a65c_size_8abf5 imJx4a65c_size_8abf5 seJx4a65c_size_8abf5 rfl h6 lk_X11_123 rfl rfl rfl rfl (cCt.w0 (R := fun r => r = some (.int (nI (rv l).length))) fun σ9 h9 => c_list_size (h9.at (k := 6) rfl h6)) ?_
      rintro _ G9 D9 ⟨rfl, e9, e8⟩
      have e9 := e9.symm; subst e9; have e8 := e8.symm; subst e8
      refine C.icmp_ge (tgt := 45) dX11_scopeOf_12 (by decide) (fun c_12 => ?_) (fun c_12 => ?_)
      · skip
        have hend : W.length ≤ i := by have h9 := c_12; rw [rv_len, hw.1] at h9; exact (nI_leI (by omega) (by omega)).mp h9
        refine C.iconst (v := (-1)) dX11_scopeOf_45 (by decide) ?_
        refine C.iret dX11_scopeOf_46 rfl ?_
        exact ⟨congrArg (fun z => some (Value.int z)) (if_neg (fnd_end hend hz)).symm, rfl, rfl⟩
      · skip
        have lt_i : i < W.length := by have h9 := c_12; rw [rv_len, hw.1] at h9; exact nI_ltn h9 (by omega) (by omega)
        have hu := hw.2 i lt_i
        have hu9 := hu; obtain ⟨r9, b9, c9, f9, u1, u2⟩ := hu9
        refine C.aload_nR dX11_scopeOf_15 rfl ?_
        refine C.iload_n dX11_scopeOf_16 rfl ?_
        refine C.iload_n dX11_scopeOf_17 rfl ?_
        refine C.aload_nR dX11_scopeOf_18 rfl ?_
        refine C.getS (k9 := 0) (fs := [.ref (S 1), .ref (S 2), .ref (S 3), .ref (S 4), .ref (S 5), .ref (S 6), .ref (S 7), .ref (S 8), .ref (S 9), .ref (S 10), .ref (S 11), .ref (S 12), .int (N 26), .int (N 27), .int (N 28), .int (N 25), .int (N 5), .int (N 6)]) dX11_scopeOf_19 fl_X11_45 rfl hP rfl ?_
        refine C.iload dX11_scopeOf_22 rfl ?_
        refine C.callLS0 (k9 := 6) [.int (nI i)] dX11_scopeOf_24 mdJx4a65c_get_915e3 imJx4a65c_get_915e3 seJx4a65c_get_915e3 rfl h6 lk_X11_163 rfl rfl rfl rfl (cCt.w0 (R := fun r => r = some (.ref (l.getD i 0))) fun σ9 h9 => c_list_get (h9.at (k := 6) rfl h6) (rv_at (by rw [hw.1]; exact lt_i))) ?_
        rintro _ G9 D9 ⟨rfl, e9, e8⟩
        have e9 := e9.symm; subst e9; have e8 := e8.symm; subst e8
        refine C.castD dX11_scopeOf_27 cl_X11_7 cs_10 kc_10 u1 ?_
        refine C.callVS0 (k9 := 34) [.int (nI a), .int (nI m), .ref (l.getD i 0)] dX11_scopeOf_30 mdX9_isPart imX9_isPart seX9_isPart kc_10 rfl t1 lk_X11_397 rfl rfl rfl rfl (cCt.w0 (R := fun r => r = some (.int (bI (decide (((v.drop a).take m) = W.getD i []))))) fun σ9 h9 => v_isPart (hT.tx h9 rfl rfl) (hu.mono h9.2.1) ham) ?_
        rintro _ G9 D9 ⟨rfl, e9, e8⟩
        have e9 := e9.symm; subst e9; have e8 := e8.symm; subst e8
        refine C.if_eq (tgt := 39) dX11_scopeOf_33 (by decide) (fun c_33 => ?_) (fun c_33 => ?_)
        · skip
          refine C.iinc (v := nI (i + 1)) (L' := [some (.ref (S 0)), some (.ref (S 34)), some (.int (nI a)), some (.int (nI m)), some (.int (nI (i + 1)))]) dX11_scopeOf_39 rfl (nI_1 i) (by decide) rfl rfl ?_
          refine C.goto (tgt := 3) dX11_scopeOf_42 (by decide) ?_
          exact ih_3 (i + 1) (by omega) (by omega) (fnd_st lt_i hz (of_decide_eq_false ((bI_eq0 _).mp c_33)))
        · skip
          refine C.iload dX11_scopeOf_36 rfl ?_
          refine C.iret dX11_scopeOf_38 rfl ?_
          have hf := fnd_hit lt_i hz (of_decide_eq_true (bt1 c_33))
          exact ⟨congrArg (fun z => some (Value.int z)) ((if_pos (by rw [hf]; exact lt_i)).trans (by rw [hf])).symm, rfl, rfl⟩
  exact cut_3 (W.length + 1) 0 (by omega) (by omega) rfl

theorem k_scopeOf_D {Λ : kL} {S : Nat → Nat} {G : Nat → kc} {D : kh} (hS : cInj S) {N : Nat → Int32} (hP : G 0 = oGs S N) {l : List Nat} (h6 : G 6 = kLi (rv l)) {W : List (List Int32)} (hw : txs D l W) (hW8 : W.length ≤ 8) {tt : Nat} {v : List Int32} (hT : tx D tt v) {a m : Nat} (ham : a + m ≤ v.length) : cCt Λ mX11_scopeOf 0 0 S [.ref (S 0), .ref tt, .int (nI a), .int (nI m)] G D (fun r G' D' => r = some (.int (if fnd W ((v.drop a).take m) < W.length then nI (fnd W ((v.drop a).take m)) else -1)) ∧ G' = G ∧ D' = D) := by
  refine cCt.of hS pn_X11 [some (.ref (S 0)), some (.ref tt), some (.int (nI a)), some (.int (nI m)), none] rfl (Nat.le_of_ble_eq_true rfl) fun X => ?_
  have hT9 := hT; obtain ⟨rt, bt, ct, gt, t1, t2⟩ := hT9
  refine C.iconst (v := 0) dX11_scopeOf_0 (by decide) ?_
  refine C.istore (L' := [some (.ref (S 0)), some (.ref tt), some (.int (nI a)), some (.int (nI m)), some (.int 0)]) dX11_scopeOf_1 (by decide) rfl rfl ?_
  have cut_3 : ∀ (k_3 : Nat) (i : Nat), (i ≤ W.length) → (W.length + 1 ≤ i + k_3) → (fnd W ((v.drop a).take m) = fsti (fun k => decide (((v.drop a).take m) = W.getD k [])) (W.length - i) i) → C Λ X mX11_scopeOf 0 0 S (fun r G' D' => r = some (.int (if fnd W ((v.drop a).take m) < W.length then nI (fnd W ((v.drop a).take m)) else -1)) ∧ G' = G ∧ D' = D) 0 0 G D 3 [some (.ref (S 0)), some (.ref tt), some (.int (nI a)), some (.int (nI m)), some (.int (nI i))] [] := by
    intro k_3
    induction k_3 with
    | zero => intro i h1 h2 hz; exact absurd h2 (by omega)
    | succ k_3 ih_3 =>
      intro i h1 h2 hz
      refine C.iload dX11_scopeOf_3 rfl ?_
      refine C.aload_nR dX11_scopeOf_5 rfl ?_
      refine C.getS (k9 := 0) (fs := [.ref (S 1), .ref (S 2), .ref (S 3), .ref (S 4), .ref (S 5), .ref (S 6), .ref (S 7), .ref (S 8), .ref (S 9), .ref (S 10), .ref (S 11), .ref (S 12), .int (N 26), .int (N 27), .int (N 28), .int (N 25), .int (N 5), .int (N 6)]) dX11_scopeOf_6 fl_X11_45 rfl hP rfl ?_
      refine C.callLS0 (k9 := 6) [] dX11_scopeOf_9 mdJx4a65c_size_8abf5 imJx4a65c_size_8abf5 seJx4a65c_size_8abf5 rfl h6 lk_X11_123 rfl rfl rfl rfl (cCt.w0 (R := fun r => r = some (.int (nI (rv l).length))) fun σ9 h9 => c_list_size (h9.at (k := 6) rfl h6)) ?_
      rintro _ G9 D9 ⟨rfl, e9, e8⟩
      have e9 := e9.symm; subst e9; have e8 := e8.symm; subst e8
      refine C.icmp_ge (tgt := 45) dX11_scopeOf_12 (by decide) (fun c_12 => ?_) (fun c_12 => ?_)
      · skip
        have hend : W.length ≤ i := by have h9 := c_12; rw [rv_len, hw.1] at h9; exact (nI_leI (by omega) (by omega)).mp h9
        refine C.iconst (v := (-1)) dX11_scopeOf_45 (by decide) ?_
        refine C.iret dX11_scopeOf_46 rfl ?_
        exact ⟨congrArg (fun z => some (Value.int z)) (if_neg (fnd_end hend hz)).symm, rfl, rfl⟩
      · skip
        have lt_i : i < W.length := by have h9 := c_12; rw [rv_len, hw.1] at h9; exact nI_ltn h9 (by omega) (by omega)
        have hu := hw.2 i lt_i
        have hu9 := hu; obtain ⟨r9, b9, c9, f9, u1, u2⟩ := hu9
        refine C.aload_nR dX11_scopeOf_15 rfl ?_
        refine C.iload_n dX11_scopeOf_16 rfl ?_
        refine C.iload_n dX11_scopeOf_17 rfl ?_
        refine C.aload_nR dX11_scopeOf_18 rfl ?_
        refine C.getS (k9 := 0) (fs := [.ref (S 1), .ref (S 2), .ref (S 3), .ref (S 4), .ref (S 5), .ref (S 6), .ref (S 7), .ref (S 8), .ref (S 9), .ref (S 10), .ref (S 11), .ref (S 12), .int (N 26), .int (N 27), .int (N 28), .int (N 25), .int (N 5), .int (N 6)]) dX11_scopeOf_19 fl_X11_45 rfl hP rfl ?_
        refine C.iload dX11_scopeOf_22 rfl ?_
        refine C.callLS0 (k9 := 6) [.int (nI i)] dX11_scopeOf_24 mdJx4a65c_get_915e3 imJx4a65c_get_915e3 seJx4a65c_get_915e3 rfl h6 lk_X11_163 rfl rfl rfl rfl (cCt.w0 (R := fun r => r = some (.ref (l.getD i 0))) fun σ9 h9 => c_list_get (h9.at (k := 6) rfl h6) (rv_at (by rw [hw.1]; exact lt_i))) ?_
        rintro _ G9 D9 ⟨rfl, e9, e8⟩
        have e9 := e9.symm; subst e9; have e8 := e8.symm; subst e8
        refine C.castD dX11_scopeOf_27 cl_X11_7 cs_10 kc_10 u1 ?_
        refine C.callVD0 [.int (nI a), .int (nI m), .ref (l.getD i 0)] dX11_scopeOf_30 mdX9_isPart imX9_isPart seX9_isPart kc_10 t1 lk_X11_397 rfl rfl rfl rfl (cCt.w0 (R := fun r => r = some (.int (bI (decide (((v.drop a).take m) = W.getD i []))))) fun σ9 h9 => v_isPart (hT.mono h9.2.1) (hu.mono h9.2.1) ham) ?_
        rintro _ G9 D9 ⟨rfl, e9, e8⟩
        have e9 := e9.symm; subst e9; have e8 := e8.symm; subst e8
        refine C.if_eq (tgt := 39) dX11_scopeOf_33 (by decide) (fun c_33 => ?_) (fun c_33 => ?_)
        · skip
          refine C.iinc (v := nI (i + 1)) (L' := [some (.ref (S 0)), some (.ref tt), some (.int (nI a)), some (.int (nI m)), some (.int (nI (i + 1)))]) dX11_scopeOf_39 rfl (nI_1 i) (by decide) rfl rfl ?_
          refine C.goto (tgt := 3) dX11_scopeOf_42 (by decide) ?_
          exact ih_3 (i + 1) (by omega) (by omega) (fnd_st lt_i hz (of_decide_eq_false ((bI_eq0 _).mp c_33)))
        · skip
          refine C.iload dX11_scopeOf_36 rfl ?_
          refine C.iret dX11_scopeOf_38 rfl ?_
          have hf := fnd_hit lt_i hz (of_decide_eq_true (bt1 c_33))
          exact ⟨congrArg (fun z => some (Value.int z)) ((if_pos (by rw [hf]; exact lt_i)).trans (by rw [hf])).symm, rfl, rfl⟩
  exact cut_3 (W.length + 1) 0 (by omega) (by omega) rfl

theorem k_clientOf_S {Λ : kL} {S : Nat → Nat} {G : Nat → kc} {D : kh} (hS : cInj S) {N : Nat → Int32} (hP : G 0 = oGs S N) {l rl : List Nat} (h7 : G 7 = kLi (rv l)) {T3 T4 T5 : List (List Int32)} (hC : cC D l rl T3 T4 T5) (hT8 : T3.length ≤ 8) {v : List Int32} (hT : tS S G 32 16 2000 v) : cCt Λ mX11_clientOf 0 0 S [.ref (S 0), .ref (S 32)] G D (fun r G' D' => (fnd T3 v < T3.length ∧ r = some (.ref (l.getD (fnd T3 v) 0)) ∧ G' = G ∧ D' = D) ∨ (¬ fnd T3 v < T3.length ∧ r = some .null ∧ G' = G ∧ D' = D)) := by
  refine cCt.of hS pn_X11 [some (.ref (S 0)), some (.ref (S 32)), none] rfl (Nat.le_of_ble_eq_true rfl) fun X => ?_
  have hT9 := hT; obtain ⟨bt, gt, t1, t2⟩ := hT9
  refine C.iconst (v := 0) dX11_clientOf_0 (by decide) ?_
  refine C.istore_n (L' := [some (.ref (S 0)), some (.ref (S 32)), some (.int 0)]) dX11_clientOf_1 (by decide) rfl rfl ?_
  have cut_2 : ∀ (k_2 : Nat) (i : Nat), (i ≤ T3.length) → (T3.length + 1 ≤ i + k_2) → (fnd T3 v = fsti (fun k => decide (v = T3.getD k [])) (T3.length - i) i) → C Λ X mX11_clientOf 0 0 S (fun r G' D' => (fnd T3 v < T3.length ∧ r = some (.ref (l.getD (fnd T3 v) 0)) ∧ G' = G ∧ D' = D) ∨ (¬ fnd T3 v < T3.length ∧ r = some .null ∧ G' = G ∧ D' = D)) 0 0 G D 2 [some (.ref (S 0)), some (.ref (S 32)), some (.int (nI i))] [] := by
    intro k_2
    induction k_2 with
    | zero => intro i h1 h2 hz; exact absurd h2 (by omega)
    | succ k_2 ih_2 =>
      intro i h1 h2 hz
      refine C.iload_n dX11_clientOf_2 rfl ?_
      refine C.aload_nR dX11_clientOf_3 rfl ?_
      refine C.getS (k9 := 0) (fs := [.ref (S 1), .ref (S 2), .ref (S 3), .ref (S 4), .ref (S 5), .ref (S 6), .ref (S 7), .ref (S 8), .ref (S 9), .ref (S 10), .ref (S 11), .ref (S 12), .int (N 26), .int (N 27), .int (N 28), .int (N 25), .int (N 5), .int (N 6)]) dX11_clientOf_4 fl_X11_49 rfl hP rfl ?_
      refine C.callLS0 (k9 := 7) [] dX11_clientOf_7 mdJx4a65c_size_8abf5 imJx4a65c_size_8abf5 seJx4a65c_size_8abf5 rfl h7 lk_X11_123 rfl rfl rfl rfl (cCt.w0 (R := fun r => r = some (.int (nI (rv l).length))) fun σ9 h9 => c_list_size (h9.at (k := 7) rfl h7)) ?_
      rintro _ G9 D9 ⟨rfl, e9, e8⟩
      have e9 := e9.symm; subst e9; have e8 := e8.symm; subst e8
      refine C.icmp_ge (tgt := 52) dX11_clientOf_10 (by decide) (fun c_10 => ?_) (fun c_10 => ?_)
      · skip
        have hend : T3.length ≤ i := by have h9 := c_10; rw [rv_len, hC.1] at h9; exact (nI_leI (by omega) (by omega)).mp h9
        refine C.aconst_null dX11_clientOf_52 ?_
        refine C.aret (r := none) dX11_clientOf_53 rfl (by first | exact Or.inl ⟨_, rfl⟩ | exact Or.inr ⟨_, rfl⟩) ?_
        exact Or.inr ⟨fnd_end hend hz, rfl, rfl, rfl⟩
      · skip
        have lt_i : i < T3.length := by have h9 := c_10; rw [rv_len, hC.1] at h9; exact nI_ltn h9 (by omega) (by omega)
        obtain ⟨ci, cs, u1, u2, u3⟩ := hC.2.2 i lt_i
        refine C.aload_nR dX11_clientOf_13 rfl ?_
        refine C.aload_nR dX11_clientOf_14 rfl ?_
        refine C.getS (k9 := 0) (fs := [.ref (S 1), .ref (S 2), .ref (S 3), .ref (S 4), .ref (S 5), .ref (S 6), .ref (S 7), .ref (S 8), .ref (S 9), .ref (S 10), .ref (S 11), .ref (S 12), .int (N 26), .int (N 27), .int (N 28), .int (N 25), .int (N 5), .int (N 6)]) dX11_clientOf_15 fl_X11_49 rfl hP rfl ?_
        refine C.iload_n dX11_clientOf_18 rfl ?_
        refine C.callLS0 (k9 := 7) [.int (nI i)] dX11_clientOf_19 mdJx4a65c_get_915e3 imJx4a65c_get_915e3 seJx4a65c_get_915e3 rfl h7 lk_X11_163 rfl rfl rfl rfl (cCt.w0 (R := fun r => r = some (.ref (l.getD i 0))) fun σ9 h9 => c_list_get (h9.at (k := 7) rfl h7) (rv_at (by rw [hC.1]; exact lt_i))) ?_
        rintro _ G9 D9 ⟨rfl, e9, e8⟩
        have e9 := e9.symm; subst e9; have e8 := e8.symm; subst e8
        refine C.castD dX11_clientOf_22 cl_X11_141 cs_1 kc_1 u1 ?_
        refine C.getD dX11_clientOf_25 fl_X11_140 u1 rfl ?_
        refine C.callVS0 (k9 := 32) [.ref ci] dX11_clientOf_28 mdX9_same imX9_same seX9_same kc_10 rfl t1 lk_X11_411 rfl rfl rfl rfl (cCt.w0 (R := fun r => r = some (.int (bI (decide (v = T3.getD i []))))) fun σ9 h9 => v_same (hT.tx h9 rfl rfl) (u2.mono h9.2.1)) ?_
        rintro _ G9 D9 ⟨rfl, e9, e8⟩
        have e9 := e9.symm; subst e9; have e8 := e8.symm; subst e8
        refine C.if_eq (tgt := 46) dX11_clientOf_31 (by decide) (fun c_31 => ?_) (fun c_31 => ?_)
        · skip
          refine C.iinc (v := nI (i + 1)) (L' := [some (.ref (S 0)), some (.ref (S 32)), some (.int (nI (i + 1)))]) dX11_clientOf_46 rfl (nI_1 i) (by decide) rfl rfl ?_
          refine C.goto (tgt := 2) dX11_clientOf_49 (by decide) ?_
          exact ih_2 (i + 1) (by omega) (by omega) (fnd_st lt_i hz (of_decide_eq_false ((bI_eq0 _).mp c_31)))
        · skip
          refine C.aload_nR dX11_clientOf_34 rfl ?_
          refine C.getS (k9 := 0) (fs := [.ref (S 1), .ref (S 2), .ref (S 3), .ref (S 4), .ref (S 5), .ref (S 6), .ref (S 7), .ref (S 8), .ref (S 9), .ref (S 10), .ref (S 11), .ref (S 12), .int (N 26), .int (N 27), .int (N 28), .int (N 25), .int (N 5), .int (N 6)]) dX11_clientOf_35 fl_X11_49 rfl hP rfl ?_
          refine C.iload_n dX11_clientOf_38 rfl ?_
          refine C.callLS0 (k9 := 7) [.int (nI i)] dX11_clientOf_39 mdJx4a65c_get_915e3 imJx4a65c_get_915e3 seJx4a65c_get_915e3 rfl h7 lk_X11_163 rfl rfl rfl rfl (cCt.w0 (R := fun r => r = some (.ref (l.getD i 0))) fun σ9 h9 => c_list_get (h9.at (k := 7) rfl h7) (rv_at (by rw [hC.1]; exact lt_i))) ?_
          rintro _ G9 D9 ⟨rfl, e9, e8⟩
          have e9 := e9.symm; subst e9; have e8 := e8.symm; subst e8
          refine C.castD dX11_clientOf_42 cl_X11_141 cs_1 kc_1 u1 ?_
          refine C.aret (r := some (l.getD i 0)) dX11_clientOf_45 rfl (by first | exact Or.inl ⟨_, rfl⟩ | exact Or.inr ⟨_, rfl⟩) ?_
          have hf := fnd_hit lt_i hz (of_decide_eq_true (bt1 c_31))
          exact Or.inl ⟨by rw [hf]; exact lt_i, by rw [hf]; rfl, rfl, rfl⟩
  exact cut_2 (T3.length + 1) 0 (by omega) (by omega) rfl

theorem k_clientOf_D {Λ : kL} {S : Nat → Nat} {G : Nat → kc} {D : kh} (hS : cInj S) {N : Nat → Int32} (hP : G 0 = oGs S N) {l rl : List Nat} (h7 : G 7 = kLi (rv l)) {T3 T4 T5 : List (List Int32)} (hC : cC D l rl T3 T4 T5) (hT8 : T3.length ≤ 8) {tt : Nat} {v : List Int32} (hT : tx D tt v) : cCt Λ mX11_clientOf 0 0 S [.ref (S 0), .ref tt] G D (fun r G' D' => (fnd T3 v < T3.length ∧ r = some (.ref (l.getD (fnd T3 v) 0)) ∧ G' = G ∧ D' = D) ∨ (¬ fnd T3 v < T3.length ∧ r = some .null ∧ G' = G ∧ D' = D)) := by
  refine cCt.of hS pn_X11 [some (.ref (S 0)), some (.ref tt), none] rfl (Nat.le_of_ble_eq_true rfl) fun X => ?_
  have hT9 := hT; obtain ⟨rt, bt, ct, gt, t1, t2⟩ := hT9
  refine C.iconst (v := 0) dX11_clientOf_0 (by decide) ?_
  refine C.istore_n (L' := [some (.ref (S 0)), some (.ref tt), some (.int 0)]) dX11_clientOf_1 (by decide) rfl rfl ?_
  have cut_2 : ∀ (k_2 : Nat) (i : Nat), (i ≤ T3.length) → (T3.length + 1 ≤ i + k_2) → (fnd T3 v = fsti (fun k => decide (v = T3.getD k [])) (T3.length - i) i) → C Λ X mX11_clientOf 0 0 S (fun r G' D' => (fnd T3 v < T3.length ∧ r = some (.ref (l.getD (fnd T3 v) 0)) ∧ G' = G ∧ D' = D) ∨ (¬ fnd T3 v < T3.length ∧ r = some .null ∧ G' = G ∧ D' = D)) 0 0 G D 2 [some (.ref (S 0)), some (.ref tt), some (.int (nI i))] [] := by
    intro k_2
    induction k_2 with
    | zero => intro i h1 h2 hz; exact absurd h2 (by omega)
    | succ k_2 ih_2 =>
      intro i h1 h2 hz
      refine C.iload_n dX11_clientOf_2 rfl ?_
      refine C.aload_nR dX11_clientOf_3 rfl ?_
      refine C.getS (k9 := 0) (fs := [.ref (S 1), .ref (S 2), .ref (S 3), .ref (S 4), .ref (S 5), .ref (S 6), .ref (S 7), .ref (S 8), .ref (S 9), .ref (S 10), .ref (S 11), .ref (S 12), .int (N 26), .int (N 27), .int (N 28), .int (N 25), .int (N 5), .int (N 6)]) dX11_clientOf_4 fl_X11_49 rfl hP rfl ?_
      refine C.callLS0 (k9 := 7) [] dX11_clientOf_7 mdJx4a65c_size_8abf5 imJx4a65c_size_8abf5 seJx4a65c_size_8abf5 rfl h7 lk_X11_123 rfl rfl rfl rfl (cCt.w0 (R := fun r => r = some (.int (nI (rv l).length))) fun σ9 h9 => c_list_size (h9.at (k := 7) rfl h7)) ?_
      rintro _ G9 D9 ⟨rfl, e9, e8⟩
      have e9 := e9.symm; subst e9; have e8 := e8.symm; subst e8
      refine C.icmp_ge (tgt := 52) dX11_clientOf_10 (by decide) (fun c_10 => ?_) (fun c_10 => ?_)
      · skip
        have hend : T3.length ≤ i := by have h9 := c_10; rw [rv_len, hC.1] at h9; exact (nI_leI (by omega) (by omega)).mp h9
        refine C.aconst_null dX11_clientOf_52 ?_
        refine C.aret (r := none) dX11_clientOf_53 rfl (by first | exact Or.inl ⟨_, rfl⟩ | exact Or.inr ⟨_, rfl⟩) ?_
        exact Or.inr ⟨fnd_end hend hz, rfl, rfl, rfl⟩
      · skip
        have lt_i : i < T3.length := by have h9 := c_10; rw [rv_len, hC.1] at h9; exact nI_ltn h9 (by omega) (by omega)
        obtain ⟨ci, cs, u1, u2, u3⟩ := hC.2.2 i lt_i
        refine C.aload_nR dX11_clientOf_13 rfl ?_
        refine C.aload_nR dX11_clientOf_14 rfl ?_
        refine C.getS (k9 := 0) (fs := [.ref (S 1), .ref (S 2), .ref (S 3), .ref (S 4), .ref (S 5), .ref (S 6), .ref (S 7), .ref (S 8), .ref (S 9), .ref (S 10), .ref (S 11), .ref (S 12), .int (N 26), .int (N 27), .int (N 28), .int (N 25), .int (N 5), .int (N 6)]) dX11_clientOf_15 fl_X11_49 rfl hP rfl ?_
        refine C.iload_n dX11_clientOf_18 rfl ?_
        refine C.callLS0 (k9 := 7) [.int (nI i)] dX11_clientOf_19 mdJx4a65c_get_915e3 imJx4a65c_get_915e3 seJx4a65c_get_915e3 rfl h7 lk_X11_163 rfl rfl rfl rfl (cCt.w0 (R := fun r => r = some (.ref (l.getD i 0))) fun σ9 h9 => c_list_get (h9.at (k := 7) rfl h7) (rv_at (by rw [hC.1]; exact lt_i))) ?_
        rintro _ G9 D9 ⟨rfl, e9, e8⟩
        have e9 := e9.symm; subst e9; have e8 := e8.symm; subst e8
        refine C.castD dX11_clientOf_22 cl_X11_141 cs_1 kc_1 u1 ?_
        refine C.getD dX11_clientOf_25 fl_X11_140 u1 rfl ?_
        refine C.callVD0 [.ref ci] dX11_clientOf_28 mdX9_same imX9_same seX9_same kc_10 t1 lk_X11_411 rfl rfl rfl rfl (cCt.w0 (R := fun r => r = some (.int (bI (decide (v = T3.getD i []))))) fun σ9 h9 => v_same (hT.mono h9.2.1) (u2.mono h9.2.1)) ?_
        rintro _ G9 D9 ⟨rfl, e9, e8⟩
        have e9 := e9.symm; subst e9; have e8 := e8.symm; subst e8
        refine C.if_eq (tgt := 46) dX11_clientOf_31 (by decide) (fun c_31 => ?_) (fun c_31 => ?_)
        · skip
          refine C.iinc (v := nI (i + 1)) (L' := [some (.ref (S 0)), some (.ref tt), some (.int (nI (i + 1)))]) dX11_clientOf_46 rfl (nI_1 i) (by decide) rfl rfl ?_
          refine C.goto (tgt := 2) dX11_clientOf_49 (by decide) ?_
          exact ih_2 (i + 1) (by omega) (by omega) (fnd_st lt_i hz (of_decide_eq_false ((bI_eq0 _).mp c_31)))
        · skip
          refine C.aload_nR dX11_clientOf_34 rfl ?_
          refine C.getS (k9 := 0) (fs := [.ref (S 1), .ref (S 2), .ref (S 3), .ref (S 4), .ref (S 5), .ref (S 6), .ref (S 7), .ref (S 8), .ref (S 9), .ref (S 10), .ref (S 11), .ref (S 12), .int (N 26), .int (N 27), .int (N 28), .int (N 25), .int (N 5), .int (N 6)]) dX11_clientOf_35 fl_X11_49 rfl hP rfl ?_
          refine C.iload_n dX11_clientOf_38 rfl ?_
          refine C.callLS0 (k9 := 7) [.int (nI i)] dX11_clientOf_39 mdJx4a65c_get_915e3 imJx4a65c_get_915e3 seJx4a65c_get_915e3 rfl h7 lk_X11_163 rfl rfl rfl rfl (cCt.w0 (R := fun r => r = some (.ref (l.getD i 0))) fun σ9 h9 => c_list_get (h9.at (k := 7) rfl h7) (rv_at (by rw [hC.1]; exact lt_i))) ?_
          rintro _ G9 D9 ⟨rfl, e9, e8⟩
          have e9 := e9.symm; subst e9; have e8 := e8.symm; subst e8
          refine C.castD dX11_clientOf_42 cl_X11_141 cs_1 kc_1 u1 ?_
          refine C.aret (r := some (l.getD i 0)) dX11_clientOf_45 rfl (by first | exact Or.inl ⟨_, rfl⟩ | exact Or.inr ⟨_, rfl⟩) ?_
          have hf := fnd_hit lt_i hz (of_decide_eq_true (bt1 c_31))
          exact Or.inl ⟨by rw [hf]; exact lt_i, by rw [hf]; rfl, rfl, rfl⟩
  exact cut_2 (T3.length + 1) 0 (by omega) (by omega) rfl
