/-! the class: authorize -/
theorem k_copy_4 {Λ : kL} {S : Nat → Nat} {G : Nat → kc} {D : kh} (hS : cInj S) {nm : Nat} {told : Bool} (hf : G 22 = oFi nm (S 35) told) {v : List Int32} (hv : tS S G 35 16 2000 v) : cCt Λ mX3_copy 2 (v.length + 3) S [.ref (S 22)] G D (cpQ G D v) := by
  refine cCt.of hS pn_X3 [some (.ref (S 22))] rfl (Nat.le_of_ble_eq_true rfl) fun X => ?_
  have hv9 := hv; obtain ⟨bv, fw, v1, v2, v3, v4, v5, hvb⟩ := hv9
  refine C.aload_nR dX3_copy_0 rfl ?_
  refine C.getS (k9 := 22) (fs := [.ref nm, .ref (S 35), .int (bI told)]) dX3_copy_1 fl_X3_22 rfl hf rfl ?_
  refine C.iconst (v := 0) dX3_copy_4 (by decide) ?_
  refine C.aload_nR dX3_copy_5 rfl ?_
  refine C.getS (k9 := 22) (fs := [.ref nm, .ref (S 35), .int (bI told)]) dX3_copy_6 fl_X3_22 rfl hf rfl ?_
  refine C.callVX0 [] dX3_copy_9 mdX9_size imX9_size seX9_size kc_10 (show tV S G D (S 35) v from tS.v hv (by decide) (by decide)).ob lk_X3_26 rfl rfl rfl rfl (cCt.w0 (R := fun r => r = some (.int (nI v.length))) fun σ9 h9 => v_size ((show tV S G D (S 35) v from tS.v hv (by decide) (by decide)).tx h9)) ?_
  rintro _ G9 D9 ⟨rfl, e9, e8⟩
  have e9 := e9.symm; subst e9; have e8 := e8.symm; subst e8
  have hct := k_copyOf (Λ := Λ) (fun σ9 (h9 : cHas σ9 S G D) => hv.tx h9 rfl rfl) hvb (by omega) (g := 0) (m := v.length) (by omega)
  rw [List.drop_zero, List.take_length] at hct
  refine C.less (bc' := 0 + 2) (bs' := 0 + (v.length + 3)) (by omega) (by omega) ?_
  refine C.callVX [.int 0, .int (nI v.length)] dX3_copy_12 mdX9_copyOfPart imX9_copyOfPart seX9_copyOfPart kc_10 (show tV S G D (S 35) v from tS.v hv (by decide) (by decide)).ob lk_X3_30 rfl rfl rfl rfl hct ?_
  rintro _ G9 D2 ⟨q9, hq1, rfl, e9, hq2, hq3⟩; have e9 := e9.symm; subst e9
  refine C.aret (r := some q9) dX3_copy_15 rfl (by first | exact Or.inl ⟨_, rfl⟩ | exact Or.inr ⟨_, rfl⟩) ?_
  exact ⟨q9, hq1, rfl, rfl, hq2, hq3⟩

theorem k_copy_5 {Λ : kL} {S : Nat → Nat} {G : Nat → kc} {D : kh} (hS : cInj S) {nm : Nat} {told : Bool} (hf : G 23 = oFi nm (S 36) told) {v : List Int32} (hv : tS S G 36 16 2000 v) : cCt Λ mX3_copy 2 (v.length + 3) S [.ref (S 23)] G D (cpQ G D v) := by
  refine cCt.of hS pn_X3 [some (.ref (S 23))] rfl (Nat.le_of_ble_eq_true rfl) fun X => ?_
  have hv9 := hv; obtain ⟨bv, fw, v1, v2, v3, v4, v5, hvb⟩ := hv9
  refine C.aload_nR dX3_copy_0 rfl ?_
  refine C.getS (k9 := 23) (fs := [.ref nm, .ref (S 36), .int (bI told)]) dX3_copy_1 fl_X3_22 rfl hf rfl ?_
  refine C.iconst (v := 0) dX3_copy_4 (by decide) ?_
  refine C.aload_nR dX3_copy_5 rfl ?_
  refine C.getS (k9 := 23) (fs := [.ref nm, .ref (S 36), .int (bI told)]) dX3_copy_6 fl_X3_22 rfl hf rfl ?_
  refine C.callVX0 [] dX3_copy_9 mdX9_size imX9_size seX9_size kc_10 (show tV S G D (S 36) v from tS.v hv (by decide) (by decide)).ob lk_X3_26 rfl rfl rfl rfl (cCt.w0 (R := fun r => r = some (.int (nI v.length))) fun σ9 h9 => v_size ((show tV S G D (S 36) v from tS.v hv (by decide) (by decide)).tx h9)) ?_
  rintro _ G9 D9 ⟨rfl, e9, e8⟩
  have e9 := e9.symm; subst e9; have e8 := e8.symm; subst e8
  have hct := k_copyOf (Λ := Λ) (fun σ9 (h9 : cHas σ9 S G D) => hv.tx h9 rfl rfl) hvb (by omega) (g := 0) (m := v.length) (by omega)
  rw [List.drop_zero, List.take_length] at hct
  refine C.less (bc' := 0 + 2) (bs' := 0 + (v.length + 3)) (by omega) (by omega) ?_
  refine C.callVX [.int 0, .int (nI v.length)] dX3_copy_12 mdX9_copyOfPart imX9_copyOfPart seX9_copyOfPart kc_10 (show tV S G D (S 36) v from tS.v hv (by decide) (by decide)).ob lk_X3_30 rfl rfl rfl rfl hct ?_
  rintro _ G9 D2 ⟨q9, hq1, rfl, e9, hq2, hq3⟩; have e9 := e9.symm; subst e9
  refine C.aret (r := some q9) dX3_copy_15 rfl (by first | exact Or.inl ⟨_, rfl⟩ | exact Or.inr ⟨_, rfl⟩) ?_
  exact ⟨q9, hq1, rfl, rfl, hq2, hq3⟩

theorem q_authorize {Λ : kL} {S : Nat → Nat} {G : Nat → kc} {D : kh} (hS : cInj S) {A L : Nat → List Nat} {N : Nat → Int32} {B : Nat → List Int32} {T R : Nat → List (List Int32)} (hR : cR Λ S G D A L N B T R) (hW : wf N B T R) (hSt : kSt Λ) (hJ : kJd Λ) : cCt Λ mX11_authorize 6 2500 S [.ref (S 0)] G D (cP Λ S (opAuth N B T R)) := by
  refine cCt.of hS pn_X11 [some (.ref (S 0)), none, none, none, none] rfl (Nat.le_of_ble_eq_true rfl) fun X => ?_
  have hR0 := hR; have hW0 := hW
  obtain ⟨p_a, p_b, p_n, p_k, p_f, p_h, p_w, p_c, p_r, p_q, p_o, p_m, p_t, p_d⟩ := hR
  obtain ⟨w_a, w_n, w_w, w_c, w_r, w_x, w_q, w_k, w_f, w_t, w_m, w_l⟩ := hW
  have p_a9 := p_a; obtain ⟨ft, a1, a2, a3, a4, a5, a6⟩ := p_a9
  have p_b9 := p_b; obtain ⟨fo9, b1, b2, b3, b4, b5, b6⟩ := p_b9
  refine C.aload_nR dX11_authorize_0 rfl ?_
  refine C.callVS0 (k9 := 0) [] dX11_authorize_1 mdX11_readForm imX11_readForm seX11_readForm kc_12 rfl p_n lk_X11_187 rfl rfl rfl rfl (k_readForm hS hR0 hW0 hSt) ?_
  rintro _ G1 D9 ⟨e8, hR1, hres⟩; have e8 := e8.symm; subst e8
  obtain ⟨B1, hB1⟩ : ∃ B1, B1 = setB B 0 [] := ⟨_, rfl⟩
  rw [← hB1] at hR1
  have hW1 : wf N B1 T R := by rw [hB1]; exact ⟨⟨Nat.zero_le _, bts_nil, hW0.1.2.2⟩, hW0.2⟩
  clear a1 a2 a3 a4 a5 a6 b1 b2 b3 b4 b5 b6 p_a p_b p_n p_k p_f p_h p_w p_c p_r p_q p_o p_m p_t p_d
  have hR2 := hR1; obtain ⟨p_a, p_b, p_n, p_k, p_f, p_h, p_w, p_c, p_r, p_q, p_o, p_m, p_t, p_d⟩ := hR2
  have p_a9 := p_a; obtain ⟨ft, a1, a2, a3, a4, a5, a6⟩ := p_a9
  have p_b9 := p_b; obtain ⟨fo9, b1, b2, b3, b4, b5, b6⟩ := p_b9
  rcases hres with ⟨g, hfm, rfl, hG⟩ | ⟨hfm, rfl⟩
  · skip
    have hf9_0 := hG.1.2.2.2.1; obtain ⟨to_0, bq_0, nq_0, fq_0, _, _⟩ := hf9_0
    have ht9_0 := hG.2.1; obtain ⟨bt_0, ff_0, gt_0, gr_0, _⟩ := ht9_0
    have hf9_1 := hG.1.2.2.2.2.1; obtain ⟨to_1, bq_1, nq_1, fq_1, _, _⟩ := hf9_1
    have ht9_1 := hG.2.2.1; obtain ⟨bt_1, ff_1, gt_1, gr_1, _⟩ := ht9_1
    have hf9_2 := hG.1.2.2.2.2.2.1; obtain ⟨to_2, bq_2, nq_2, fq_2, _, _⟩ := hf9_2
    have ht9_2 := hG.2.2.2.1; obtain ⟨bt_2, ff_2, gt_2, gr_2, _⟩ := ht9_2
    have hf9_3 := hG.1.2.2.2.2.2.2.1; obtain ⟨to_3, bq_3, nq_3, fq_3, _, _⟩ := hf9_3
    have ht9_3 := hG.2.2.2.2.1; obtain ⟨bt_3, ff_3, gt_3, gr_3, _⟩ := ht9_3
    have hf9_4 := hG.1.2.2.2.2.2.2.2.1; obtain ⟨to_4, bq_4, nq_4, fq_4, _, _⟩ := hf9_4
    have ht9_4 := hG.2.2.2.2.2.1; obtain ⟨bt_4, ff_4, gt_4, gr_4, _⟩ := ht9_4
    have hf9_5 := hG.1.2.2.2.2.2.2.2.2.1; obtain ⟨to_5, bq_5, nq_5, fq_5, _, _⟩ := hf9_5
    have ht9_5 := hG.2.2.2.2.2.2.1; obtain ⟨bt_5, ff_5, gt_5, gr_5, _⟩ := ht9_5
    have hf9_6 := hG.1.2.2.2.2.2.2.2.2.2.1; obtain ⟨to_6, bq_6, nq_6, fq_6, _, _⟩ := hf9_6
    have ht9_6 := hG.2.2.2.2.2.2.2.1; obtain ⟨bt_6, ff_6, gt_6, gr_6, _⟩ := ht9_6
    refine C.if_ne (tgt := 13) dX11_authorize_4 (by decide) (fun c_4 => ?_) (fun c_4 => absurd c_4 (by decide))
    have hy2 : (fv g 4).length ≤ 2000 := by obtain ⟨_, _, _, _, h9, _⟩ := hG.2.2.2.2.2.1; omega
    refine C.aload_nR dX11_authorize_13 rfl ?_
    refine C.aload_nR dX11_authorize_14 rfl ?_
    refine C.getS (k9 := 0) (fs := [.ref (S 1), .ref (S 2), .ref (S 3), .ref (S 4), .ref (S 5), .ref (S 6), .ref (S 7), .ref (S 8), .ref (S 9), .ref (S 10), .ref (S 11), .ref (S 12), .int (N 26), .int (N 27), .int (N 28), .int (N 25), .int (N 5), .int (N 6)]) dX11_authorize_15 fl_X11_24 rfl p_n rfl ?_
    refine C.getS (k9 := 3) (fs := [.ref (S 15), .ref (S 17), .ref (S 18), .ref (S 19), .ref (S 20), .ref (S 21), .ref (S 22), .ref (S 23), .ref (S 24), .ref (S 25), .ref (S 26), .ref (S 27), .ref (S 28), .ref (S 29), .ref (S 30), .ref (S 44)]) dX11_authorize_18 fl_X11_195 rfl p_k.1 rfl ?_
    refine C.getS (k9 := 19) (fs := [.ref (kSa Λ RX4 37), .ref (S 32), .int (bI to_1)]) dX11_authorize_21 fl_X11_199 rfl fq_1 rfl ?_
    refine C.callVS0 (k9 := 0) [.ref (S 32)] dX11_authorize_24 mdX11_clientOf imX11_clientOf seX11_clientOf kc_12 rfl p_n lk_X11_145 rfl rfl rfl rfl (k_clientOf_S hS (N := N) (show G1 0 = oGs S N from p_n) p_c.1 p_c.2 w_c.1 hG.2.2.1) ?_
    rintro _ _ _ (⟨hlt, rfl, e9, e8⟩ | ⟨hlt, rfl, e9, e8⟩)
    · have e9 := e9.symm; subst e9; have e8 := e8.symm; subst e8
      have hCc := p_c.2.2.2 _ hlt
      obtain ⟨i9, s9, u1⟩ := hCc.cell
      have h0c : 0 < (fv g 1).length := by have h9 := (w_c.2.2.2.2.1 _ hlt).1; rw [← fnd_yes hlt] at h9; exact h9
      refine C.astore_n (L' := [some (.ref (S 0)), some (.ref ((A 7).getD (fnd (T 3) (fv g 1)) 0)), none, none, none]) dX11_authorize_27 (by decide) rfl rfl ?_
      refine C.aload_nR dX11_authorize_28 rfl ?_
      refine C.ifnonnullR (tgt := 39) dX11_authorize_29 (by decide) ?_
      refine C.aload_nR dX11_authorize_39 rfl ?_
      refine C.aload_nR dX11_authorize_40 rfl ?_
      refine C.getS (k9 := 0) (fs := [.ref (S 1), .ref (S 2), .ref (S 3), .ref (S 4), .ref (S 5), .ref (S 6), .ref (S 7), .ref (S 8), .ref (S 9), .ref (S 10), .ref (S 11), .ref (S 12), .int (N 26), .int (N 27), .int (N 28), .int (N 25), .int (N 5), .int (N 6)]) dX11_authorize_41 fl_X11_24 rfl p_n rfl ?_
      refine C.getS (k9 := 3) (fs := [.ref (S 15), .ref (S 17), .ref (S 18), .ref (S 19), .ref (S 20), .ref (S 21), .ref (S 22), .ref (S 23), .ref (S 24), .ref (S 25), .ref (S 26), .ref (S 27), .ref (S 28), .ref (S 29), .ref (S 30), .ref (S 44)]) dX11_authorize_44 fl_X11_204 rfl p_k.1 rfl ?_
      refine C.getS (k9 := 20) (fs := [.ref (kSa Λ RX4 42), .ref (S 33), .int (bI to_2)]) dX11_authorize_47 fl_X11_199 rfl fq_2 rfl ?_
      have hrc := p_r.2 (fnd (T 3) (fv g 1)) (by rw [p_c.2.2.1]; exact hlt)
      refine C.callVD0 [.ref (S 33)] dX11_authorize_50 mdX0_redirectFor imX0_redirectFor seX0_redirectFor kc_1 u1 lk_X11_207 rfl rfl rfl rfl (k_redirectFor hS u1 hrc.1 hrc.2 (w_r (fnd (T 3) (fv g 1))).1 hG.2.2.2.1) ?_
      rintro _ _ _ (⟨hrd, rfl, e9, e8⟩ | ⟨hrd, rfl, e9, e8⟩)
      · have e9 := e9.symm; subst e9; have e8 := e8.symm; subst e8
        have hrl : (rdS (R (fnd (T 3) (fv g 1))) (fv g 2)).toNatClampNeg < (R (fnd (T 3) (fv g 1))).length := by obtain ⟨r, hr, e⟩ := rdS_pos hrd; rw [e, nI_clamp (by have := (w_r (fnd (T 3) (fv g 1))).1; omega)]; exact hr
        have htx := hrc.2.2 _ hrl
        have hx80 := ((w_r (fnd (T 3) (fv g 1))).2.2 _ hrl).2.1
        refine C.astore_n (L' := [some (.ref (S 0)), some (.ref ((A 7).getD (fnd (T 3) (fv g 1)) 0)), some (.ref ((L (fnd (T 3) (fv g 1))).getD (rdS (R (fnd (T 3) (fv g 1))) (fv g 2)).toNatClampNeg 0)), none, none]) dX11_authorize_53 (by decide) rfl rfl ?_
        refine C.aload_nR dX11_authorize_54 rfl ?_
        refine C.ifnonnullR (tgt := 64) dX11_authorize_55 (by decide) ?_
        refine C.aload_nR dX11_authorize_64 rfl ?_
        refine C.aload_nR dX11_authorize_65 rfl ?_
        refine C.getD dX11_authorize_66 fl_X11_211 u1 rfl ?_
        refine C.callVS0 (k9 := 0) [.int (ro (T 5) (fnd (T 3) (fv g 1)) 1)] dX11_authorize_69 mdX11_scopesTold imX11_scopesTold seX11_scopesTold kc_12 rfl p_n lk_X11_214 rfl rfl rfl rfl (k_scopesTold hS hR1 hW1 hG _) ?_
        rintro _ G9 D9 ⟨rfl, e9, e8⟩
        have e9 := e9.symm; subst e9; have e8 := e8.symm; subst e8
        refine C.istore_n (L' := [some (.ref (S 0)), some (.ref ((A 7).getD (fnd (T 3) (fv g 1)) 0)), some (.ref ((L (fnd (T 3) (fv g 1))).getD (rdS (R (fnd (T 3) (fv g 1))) (fv g 2)).toNatClampNeg 0)), some (.int (tld (T 2) (fv g 3) (ro (T 5) (fnd (T 3) (fv g 1)) 1))), none]) dX11_authorize_72 (by decide) rfl rfl ?_
        refine C.aload_nR dX11_authorize_73 rfl ?_
        refine C.aload_nR dX11_authorize_74 rfl ?_
        refine C.iload_n dX11_authorize_75 rfl ?_
        refine C.callVS0 (k9 := 0) [.ref ((A 7).getD (fnd (T 3) (fv g 1)) 0), .int (tld (T 2) (fv g 3) (ro (T 5) (fnd (T 3) (fv g 1)) 1))] dX11_authorize_76 mdX11_faultOfRequest imX11_faultOfRequest seX11_faultOfRequest kc_12 rfl p_n lk_X11_217 rfl rfl rfl rfl (k_faultOfRequest hS hR1 hW1 hG hSt hlt rfl) ?_
        rintro _ G9 D9 ⟨rfl, e9, e8⟩
        have e9 := e9.symm; subst e9; have e8 := e8.symm; subst e8
        rcases aut_any T g (fnd (T 3) (fv g 1)) with he | he | he | he | he
        · rw [he]
          refine C.istore (L' := [some (.ref (S 0)), some (.ref ((A 7).getD (fnd (T 3) (fv g 1)) 0)), some (.ref ((L (fnd (T 3) (fv g 1))).getD (rdS (R (fnd (T 3) (fv g 1))) (fv g 2)).toNatClampNeg 0)), some (.int (tld (T 2) (fv g 3) (ro (T 5) (fnd (T 3) (fv g 1)) 1))), some (.int 1)]) dX11_authorize_79 (by decide) rfl rfl ?_
          refine C.iload dX11_authorize_81 rfl ?_
          refine C.if_eq (tgt := 104) dX11_authorize_83 (by decide) (fun c_83 => absurd c_83 (by decide)) (fun c_83 => ?_)
          refine C.aload_nR dX11_authorize_86 rfl ?_
          refine C.iload dX11_authorize_87 rfl ?_
          refine C.aload_nR dX11_authorize_89 rfl ?_
          refine C.aload_nR dX11_authorize_90 rfl ?_
          refine C.getS (k9 := 0) (fs := [.ref (S 1), .ref (S 2), .ref (S 3), .ref (S 4), .ref (S 5), .ref (S 6), .ref (S 7), .ref (S 8), .ref (S 9), .ref (S 10), .ref (S 11), .ref (S 12), .int (N 26), .int (N 27), .int (N 28), .int (N 25), .int (N 5), .int (N 6)]) dX11_authorize_91 fl_X11_24 rfl p_n rfl ?_
          refine C.getS (k9 := 3) (fs := [.ref (S 15), .ref (S 17), .ref (S 18), .ref (S 19), .ref (S 20), .ref (S 21), .ref (S 22), .ref (S 23), .ref (S 24), .ref (S 25), .ref (S 26), .ref (S 27), .ref (S 28), .ref (S 29), .ref (S 30), .ref (S 44)]) dX11_authorize_94 fl_X11_221 rfl p_k.1 rfl ?_
          refine C.getS (k9 := 22) (fs := [.ref (kSa Λ RX4 51), .ref (S 35), .int (bI to_4)]) dX11_authorize_97 fl_X11_199 rfl fq_4 rfl ?_
          refine C.callVS0 (k9 := 0) [.int 1, .ref ((L (fnd (T 3) (fv g 1))).getD (rdS (R (fnd (T 3) (fv g 1))) (fv g 2)).toNatClampNeg 0), .ref (S 35)] dX11_authorize_100 mdX11_sendError imX11_sendError seX11_sendError kc_12 rfl p_n lk_X11_224 rfl rfl rfl rfl (k_sendError_1 hS hSt (N := N) (show G1 0 = oGs S N from p_n) (show tO S G1 2 14 6200 (B1 1) from p_b) (Or.inl htx) (show tV S G1 D (S 35) (fv g 4) from tS.v hG.2.2.2.2.2.1 (by decide) (by decide)) hx80 hy2) ?_
          rintro _ _ D9 ⟨f9, hf1, hf2, rfl, rfl, e8⟩; have e8 := e8.symm; subst e8
          refine C.iret dX11_authorize_103 rfl ?_
          rw [opAuth, hfm]
          show cP Λ S (opAuth1 N (setB B 0 []) T R g) _ _ _
          rw [← hB1, auth_1 h0c hlt w_c.1, if_neg hrd, opAuth2, if_pos (show 0 < autE T g (fnd (T 3) (fv g 1)) by rw [he]; decide), he, show errW 1 = sb_invalid_request from rfl]
          exact ⟨rfl, A, L, p_a, (tO.gW (by decide) (by simp only [List.length_append, List.length_singleton]; have := st_len (fv g 4); exact (show ((R (fnd (T 3) (fv g 1))).getD (rdS (R (fnd (T 3) (fv g 1))) (fv g 2)).toNatClampNeg []).length + 1 + 6 + 15 + (stS (fv g 4)).length ≤ 6200 by omega)) (by decide) hf1 hf2), rfl, p_k, p_f, p_h, p_w, p_c, p_r, p_q, p_o, p_m, p_t, p_d⟩
        · rw [he]
          refine C.istore (L' := [some (.ref (S 0)), some (.ref ((A 7).getD (fnd (T 3) (fv g 1)) 0)), some (.ref ((L (fnd (T 3) (fv g 1))).getD (rdS (R (fnd (T 3) (fv g 1))) (fv g 2)).toNatClampNeg 0)), some (.int (tld (T 2) (fv g 3) (ro (T 5) (fnd (T 3) (fv g 1)) 1))), some (.int 4)]) dX11_authorize_79 (by decide) rfl rfl ?_
          refine C.iload dX11_authorize_81 rfl ?_
          refine C.if_eq (tgt := 104) dX11_authorize_83 (by decide) (fun c_83 => absurd c_83 (by decide)) (fun c_83 => ?_)
          refine C.aload_nR dX11_authorize_86 rfl ?_
          refine C.iload dX11_authorize_87 rfl ?_
          refine C.aload_nR dX11_authorize_89 rfl ?_
          refine C.aload_nR dX11_authorize_90 rfl ?_
          refine C.getS (k9 := 0) (fs := [.ref (S 1), .ref (S 2), .ref (S 3), .ref (S 4), .ref (S 5), .ref (S 6), .ref (S 7), .ref (S 8), .ref (S 9), .ref (S 10), .ref (S 11), .ref (S 12), .int (N 26), .int (N 27), .int (N 28), .int (N 25), .int (N 5), .int (N 6)]) dX11_authorize_91 fl_X11_24 rfl p_n rfl ?_
          refine C.getS (k9 := 3) (fs := [.ref (S 15), .ref (S 17), .ref (S 18), .ref (S 19), .ref (S 20), .ref (S 21), .ref (S 22), .ref (S 23), .ref (S 24), .ref (S 25), .ref (S 26), .ref (S 27), .ref (S 28), .ref (S 29), .ref (S 30), .ref (S 44)]) dX11_authorize_94 fl_X11_221 rfl p_k.1 rfl ?_
          refine C.getS (k9 := 22) (fs := [.ref (kSa Λ RX4 51), .ref (S 35), .int (bI to_4)]) dX11_authorize_97 fl_X11_199 rfl fq_4 rfl ?_
          refine C.callVS0 (k9 := 0) [.int 4, .ref ((L (fnd (T 3) (fv g 1))).getD (rdS (R (fnd (T 3) (fv g 1))) (fv g 2)).toNatClampNeg 0), .ref (S 35)] dX11_authorize_100 mdX11_sendError imX11_sendError seX11_sendError kc_12 rfl p_n lk_X11_224 rfl rfl rfl rfl (k_sendError_4 hS hSt (N := N) (show G1 0 = oGs S N from p_n) (show tO S G1 2 14 6200 (B1 1) from p_b) (Or.inl htx) (show tV S G1 D (S 35) (fv g 4) from tS.v hG.2.2.2.2.2.1 (by decide) (by decide)) hx80 hy2) ?_
          rintro _ _ D9 ⟨f9, hf1, hf2, rfl, rfl, e8⟩; have e8 := e8.symm; subst e8
          refine C.iret dX11_authorize_103 rfl ?_
          rw [opAuth, hfm]
          show cP Λ S (opAuth1 N (setB B 0 []) T R g) _ _ _
          rw [← hB1, auth_1 h0c hlt w_c.1, if_neg hrd, opAuth2, if_pos (show 0 < autE T g (fnd (T 3) (fv g 1)) by rw [he]; decide), he, show errW 4 = sb_unsupported_response_type from rfl]
          exact ⟨rfl, A, L, p_a, (tO.gW (by decide) (by simp only [List.length_append, List.length_singleton]; have := st_len (fv g 4); exact (show ((R (fnd (T 3) (fv g 1))).getD (rdS (R (fnd (T 3) (fv g 1))) (fv g 2)).toNatClampNeg []).length + 1 + 6 + 25 + (stS (fv g 4)).length ≤ 6200 by omega)) (by decide) hf1 hf2), rfl, p_k, p_f, p_h, p_w, p_c, p_r, p_q, p_o, p_m, p_t, p_d⟩
        · rw [he]
          refine C.istore (L' := [some (.ref (S 0)), some (.ref ((A 7).getD (fnd (T 3) (fv g 1)) 0)), some (.ref ((L (fnd (T 3) (fv g 1))).getD (rdS (R (fnd (T 3) (fv g 1))) (fv g 2)).toNatClampNeg 0)), some (.int (tld (T 2) (fv g 3) (ro (T 5) (fnd (T 3) (fv g 1)) 1))), some (.int 5)]) dX11_authorize_79 (by decide) rfl rfl ?_
          refine C.iload dX11_authorize_81 rfl ?_
          refine C.if_eq (tgt := 104) dX11_authorize_83 (by decide) (fun c_83 => absurd c_83 (by decide)) (fun c_83 => ?_)
          refine C.aload_nR dX11_authorize_86 rfl ?_
          refine C.iload dX11_authorize_87 rfl ?_
          refine C.aload_nR dX11_authorize_89 rfl ?_
          refine C.aload_nR dX11_authorize_90 rfl ?_
          refine C.getS (k9 := 0) (fs := [.ref (S 1), .ref (S 2), .ref (S 3), .ref (S 4), .ref (S 5), .ref (S 6), .ref (S 7), .ref (S 8), .ref (S 9), .ref (S 10), .ref (S 11), .ref (S 12), .int (N 26), .int (N 27), .int (N 28), .int (N 25), .int (N 5), .int (N 6)]) dX11_authorize_91 fl_X11_24 rfl p_n rfl ?_
          refine C.getS (k9 := 3) (fs := [.ref (S 15), .ref (S 17), .ref (S 18), .ref (S 19), .ref (S 20), .ref (S 21), .ref (S 22), .ref (S 23), .ref (S 24), .ref (S 25), .ref (S 26), .ref (S 27), .ref (S 28), .ref (S 29), .ref (S 30), .ref (S 44)]) dX11_authorize_94 fl_X11_221 rfl p_k.1 rfl ?_
          refine C.getS (k9 := 22) (fs := [.ref (kSa Λ RX4 51), .ref (S 35), .int (bI to_4)]) dX11_authorize_97 fl_X11_199 rfl fq_4 rfl ?_
          refine C.callVS0 (k9 := 0) [.int 5, .ref ((L (fnd (T 3) (fv g 1))).getD (rdS (R (fnd (T 3) (fv g 1))) (fv g 2)).toNatClampNeg 0), .ref (S 35)] dX11_authorize_100 mdX11_sendError imX11_sendError seX11_sendError kc_12 rfl p_n lk_X11_224 rfl rfl rfl rfl (k_sendError_5 hS hSt (N := N) (show G1 0 = oGs S N from p_n) (show tO S G1 2 14 6200 (B1 1) from p_b) (Or.inl htx) (show tV S G1 D (S 35) (fv g 4) from tS.v hG.2.2.2.2.2.1 (by decide) (by decide)) hx80 hy2) ?_
          rintro _ _ D9 ⟨f9, hf1, hf2, rfl, rfl, e8⟩; have e8 := e8.symm; subst e8
          refine C.iret dX11_authorize_103 rfl ?_
          rw [opAuth, hfm]
          show cP Λ S (opAuth1 N (setB B 0 []) T R g) _ _ _
          rw [← hB1, auth_1 h0c hlt w_c.1, if_neg hrd, opAuth2, if_pos (show 0 < autE T g (fnd (T 3) (fv g 1)) by rw [he]; decide), he, show errW 5 = sb_invalid_scope from rfl]
          exact ⟨rfl, A, L, p_a, (tO.gW (by decide) (by simp only [List.length_append, List.length_singleton]; have := st_len (fv g 4); exact (show ((R (fnd (T 3) (fv g 1))).getD (rdS (R (fnd (T 3) (fv g 1))) (fv g 2)).toNatClampNeg []).length + 1 + 6 + 13 + (stS (fv g 4)).length ≤ 6200 by omega)) (by decide) hf1 hf2), rfl, p_k, p_f, p_h, p_w, p_c, p_r, p_q, p_o, p_m, p_t, p_d⟩
        · rw [he]
          refine C.istore (L' := [some (.ref (S 0)), some (.ref ((A 7).getD (fnd (T 3) (fv g 1)) 0)), some (.ref ((L (fnd (T 3) (fv g 1))).getD (rdS (R (fnd (T 3) (fv g 1))) (fv g 2)).toNatClampNeg 0)), some (.int (tld (T 2) (fv g 3) (ro (T 5) (fnd (T 3) (fv g 1)) 1))), some (.int 11)]) dX11_authorize_79 (by decide) rfl rfl ?_
          refine C.iload dX11_authorize_81 rfl ?_
          refine C.if_eq (tgt := 104) dX11_authorize_83 (by decide) (fun c_83 => absurd c_83 (by decide)) (fun c_83 => ?_)
          refine C.aload_nR dX11_authorize_86 rfl ?_
          refine C.iload dX11_authorize_87 rfl ?_
          refine C.aload_nR dX11_authorize_89 rfl ?_
          refine C.aload_nR dX11_authorize_90 rfl ?_
          refine C.getS (k9 := 0) (fs := [.ref (S 1), .ref (S 2), .ref (S 3), .ref (S 4), .ref (S 5), .ref (S 6), .ref (S 7), .ref (S 8), .ref (S 9), .ref (S 10), .ref (S 11), .ref (S 12), .int (N 26), .int (N 27), .int (N 28), .int (N 25), .int (N 5), .int (N 6)]) dX11_authorize_91 fl_X11_24 rfl p_n rfl ?_
          refine C.getS (k9 := 3) (fs := [.ref (S 15), .ref (S 17), .ref (S 18), .ref (S 19), .ref (S 20), .ref (S 21), .ref (S 22), .ref (S 23), .ref (S 24), .ref (S 25), .ref (S 26), .ref (S 27), .ref (S 28), .ref (S 29), .ref (S 30), .ref (S 44)]) dX11_authorize_94 fl_X11_221 rfl p_k.1 rfl ?_
          refine C.getS (k9 := 22) (fs := [.ref (kSa Λ RX4 51), .ref (S 35), .int (bI to_4)]) dX11_authorize_97 fl_X11_199 rfl fq_4 rfl ?_
          refine C.callVS0 (k9 := 0) [.int 11, .ref ((L (fnd (T 3) (fv g 1))).getD (rdS (R (fnd (T 3) (fv g 1))) (fv g 2)).toNatClampNeg 0), .ref (S 35)] dX11_authorize_100 mdX11_sendError imX11_sendError seX11_sendError kc_12 rfl p_n lk_X11_224 rfl rfl rfl rfl (k_sendError_11 hS hSt (N := N) (show G1 0 = oGs S N from p_n) (show tO S G1 2 14 6200 (B1 1) from p_b) (Or.inl htx) (show tV S G1 D (S 35) (fv g 4) from tS.v hG.2.2.2.2.2.1 (by decide) (by decide)) hx80 hy2) ?_
          rintro _ _ D9 ⟨f9, hf1, hf2, rfl, rfl, e8⟩; have e8 := e8.symm; subst e8
          refine C.iret dX11_authorize_103 rfl ?_
          rw [opAuth, hfm]
          show cP Λ S (opAuth1 N (setB B 0 []) T R g) _ _ _
          rw [← hB1, auth_1 h0c hlt w_c.1, if_neg hrd, opAuth2, if_pos (show 0 < autE T g (fnd (T 3) (fv g 1)) by rw [he]; decide), he, show errW 11 = sb_temporarily_unavailable from rfl]
          exact ⟨rfl, A, L, p_a, (tO.gW (by decide) (by simp only [List.length_append, List.length_singleton]; have := st_len (fv g 4); exact (show ((R (fnd (T 3) (fv g 1))).getD (rdS (R (fnd (T 3) (fv g 1))) (fv g 2)).toNatClampNeg []).length + 1 + 6 + 23 + (stS (fv g 4)).length ≤ 6200 by omega)) (by decide) hf1 hf2), rfl, p_k, p_f, p_h, p_w, p_c, p_r, p_q, p_o, p_m, p_t, p_d⟩
        · rw [he]
          refine C.istore (L' := [some (.ref (S 0)), some (.ref ((A 7).getD (fnd (T 3) (fv g 1)) 0)), some (.ref ((L (fnd (T 3) (fv g 1))).getD (rdS (R (fnd (T 3) (fv g 1))) (fv g 2)).toNatClampNeg 0)), some (.int (tld (T 2) (fv g 3) (ro (T 5) (fnd (T 3) (fv g 1)) 1))), some (.int 0)]) dX11_authorize_79 (by decide) rfl rfl ?_
          refine C.iload dX11_authorize_81 rfl ?_
          refine C.if_eq (tgt := 104) dX11_authorize_83 (by decide) (fun c_83 => ?_) (fun c_83 => absurd rfl c_83)
          obtain ⟨h43, hna, h200⟩ := aut_0 he
          have hql := p_q.2.1
          have hq200 := w_q.1
          have hrv := rv_len (A 8)
          refine C.aload_nR dX11_authorize_104 rfl ?_
          refine C.getS (k9 := 0) (fs := [.ref (S 1), .ref (S 2), .ref (S 3), .ref (S 4), .ref (S 5), .ref (S 6), .ref (S 7), .ref (S 8), .ref (S 9), .ref (S 10), .ref (S 11), .ref (S 12), .int (N 26), .int (N 27), .int (N 28), .int (N 25), .int (N 5), .int (N 6)]) dX11_authorize_105 fl_X11_52 rfl p_n rfl ?_
          refine C.less (bc' := 5 + 1) (bs' := 2494 + 6) (by omega) (by omega) ?_
          refine C.new dX11_authorize_108 nw_X11_228 (fun q_1 hb_2 hl_3 => ?_)
          have h_4 : (kup D q_1 (.inr (8, [.null, .null, .int 0, .null, .null, .int 0]))) ((A 7).getD (fnd (T 3) (fv g 1)) 0) = some (.inr (1, [.int (nI (fnd (T 3) (fv g 1))), .ref i9, s9, .int (ro (T 5) (fnd (T 3) (fv g 1)) 1), .int (bI (decide (ro (T 5) (fnd (T 3) (fv g 1)) 2 = 1))), .ref ((A 13).getD (fnd (T 3) (fv g 1)) 0)])) := kup_i (Nat.ne_of_lt (hl_3 _ _ u1)) u1
          have h_5 : (kup D q_1 (.inr (8, [.null, .null, .int 0, .null, .null, .int 0]))) q_1 = some (.inr (8, [.null, .null, .int 0, .null, .null, .int 0])) := kup_s _ _ _
          refine C.dup dX11_authorize_111 rfl ?_
          refine C.aload_nR dX11_authorize_112 rfl ?_
          refine C.aload_nR dX11_authorize_113 rfl ?_
          refine C.iload_n dX11_authorize_114 rfl ?_
          refine C.aload_nR dX11_authorize_115 rfl ?_
          refine C.getS (k9 := 0) (fs := [.ref (S 1), .ref (S 2), .ref (S 3), .ref (S 4), .ref (S 5), .ref (S 6), .ref (S 7), .ref (S 8), .ref (S 9), .ref (S 10), .ref (S 11), .ref (S 12), .int (N 26), .int (N 27), .int (N 28), .int (N 25), .int (N 5), .int (N 6)]) dX11_authorize_116 fl_X11_24 rfl p_n rfl ?_
          refine C.getS (k9 := 3) (fs := [.ref (S 15), .ref (S 17), .ref (S 18), .ref (S 19), .ref (S 20), .ref (S 21), .ref (S 22), .ref (S 23), .ref (S 24), .ref (S 25), .ref (S 26), .ref (S 27), .ref (S 28), .ref (S 29), .ref (S 30), .ref (S 44)]) dX11_authorize_119 fl_X11_230 rfl p_k.1 rfl ?_
          refine C.less (bc' := 3 + 2) (bs' := (2494 - ((fv g 5).length + 3)) + ((fv g 5).length + 3)) (by omega) (by omega) ?_
          refine C.callVS (k9 := 23) [] dX11_authorize_122 mdX3_copy imX3_copy seX3_copy kc_4 rfl fq_5 lk_X11_233 rfl rfl rfl rfl (k_copy_5 hS fq_5 hG.2.2.2.2.2.2.1) ?_
          rintro _ G9 D_6 ⟨qc_7, hq_qc_7, rfl, e9, dm_D_6, tx_qc_7⟩; have e9 := e9.symm; subst e9
          refine C.aload_nR dX11_authorize_125 rfl ?_
          refine C.getS (k9 := 0) (fs := [.ref (S 1), .ref (S 2), .ref (S 3), .ref (S 4), .ref (S 5), .ref (S 6), .ref (S 7), .ref (S 8), .ref (S 9), .ref (S 10), .ref (S 11), .ref (S 12), .int (N 26), .int (N 27), .int (N 28), .int (N 25), .int (N 5), .int (N 6)]) dX11_authorize_126 fl_X11_24 rfl p_n rfl ?_
          refine C.getS (k9 := 3) (fs := [.ref (S 15), .ref (S 17), .ref (S 18), .ref (S 19), .ref (S 20), .ref (S 21), .ref (S 22), .ref (S 23), .ref (S 24), .ref (S 25), .ref (S 26), .ref (S 27), .ref (S 28), .ref (S 29), .ref (S 30), .ref (S 44)]) dX11_authorize_129 fl_X11_221 rfl p_k.1 rfl ?_
          refine C.less (bc' := 1 + 2) (bs' := ((2494 - ((fv g 5).length + 3)) - ((fv g 4).length + 3)) + ((fv g 4).length + 3)) (by omega) (by omega) ?_
          refine C.callVS (k9 := 22) [] dX11_authorize_132 mdX3_copy imX3_copy seX3_copy kc_4 rfl fq_4 lk_X11_233 rfl rfl rfl rfl (k_copy_4 hS fq_4 hG.2.2.2.2.2.1) ?_
          rintro _ G9 D_8 ⟨qc_9, hq_qc_9, rfl, e9, dm_D_8, tx_qc_9⟩; have e9 := e9.symm; subst e9
          refine C.callI0 [.ref ((A 7).getD (fnd (T 3) (fv g 1)) 0), .ref ((L (fnd (T 3) (fv g 1))).getD (rdS (R (fnd (T 3) (fv g 1))) (fv g 2)).toNatClampNeg 0), .int (tld (T 2) (fv g 3) (ro (T 5) (fnd (T 3) (fv g 1)) 1)), .ref qc_7, .ref qc_9] dX11_authorize_135 mdX7_init ⟨rfl, rfl⟩ imX7_init lk_X11_237 rfl rfl rfl rfl (cCt.d1 (R := fun r => r = none) (dm_D_8 _ _ (dm_D_6 _ _ h_5)) fun σ9 h9 => c_Request_init _ _ _ _ _ (h9.2.1 _ _ (dm_D_8 _ _ (dm_D_6 _ _ h_5)))) ?_
          rintro _ G9 _ ⟨rfl, e9, rfl⟩; have e9 := e9.symm; subst e9
          have h_10 : (kup D_8 q_1 (.inr (8, [.ref ((A 7).getD (fnd (T 3) (fv g 1)) 0), .ref ((L (fnd (T 3) (fv g 1))).getD (rdS (R (fnd (T 3) (fv g 1))) (fv g 2)).toNatClampNeg 0), .int (tld (T 2) (fv g 3) (ro (T 5) (fnd (T 3) (fv g 1)) 1)), .ref qc_7, .ref qc_9, .int (bI true)]))) q_1 = some (.inr (8, [.ref ((A 7).getD (fnd (T 3) (fv g 1)) 0), .ref ((L (fnd (T 3) (fv g 1))).getD (rdS (R (fnd (T 3) (fv g 1))) (fv g 2)).toNatClampNeg 0), .int (tld (T 2) (fv g 3) (ro (T 5) (fnd (T 3) (fv g 1)) 1)), .ref qc_7, .ref qc_9, .int (bI true)])) := kup_s _ _ _
          have dk4 : dk 8 D_8 (kup D_8 q_1 (.inr (8, [.ref ((A 7).getD (fnd (T 3) (fv g 1)) 0), .ref ((L (fnd (T 3) (fv g 1))).getD (rdS (R (fnd (T 3) (fv g 1))) (fv g 2)).toNatClampNeg 0), .int (tld (T 2) (fv g 3) (ro (T 5) (fnd (T 3) (fv g 1)) 1)), .ref qc_7, .ref qc_9, .int (bI true)]))) := dk.up (dm_D_8 _ _ (dm_D_6 _ _ h_5))
          have hdm3 : dm D D_8 := fun a c ha => dm_D_8 _ _ (dm_D_6 _ _ (kup_i (Nat.ne_of_lt (hl_3 _ _ ha)) ha))
          have hdm4 : dm D (kup D_8 q_1 (.inr (8, [.ref ((A 7).getD (fnd (T 3) (fv g 1)) 0), .ref ((L (fnd (T 3) (fv g 1))).getD (rdS (R (fnd (T 3) (fv g 1))) (fv g 2)).toNatClampNeg 0), .int (tld (T 2) (fv g 3) (ro (T 5) (fnd (T 3) (fv g 1)) 1)), .ref qc_7, .ref qc_9, .int (bI true)]))) := fun a c ha => kup_i (Nat.ne_of_lt (hl_3 _ _ ha)) (hdm3 a c ha)
          have hq4 : cQ1 (kup D_8 q_1 (.inr (8, [.ref ((A 7).getD (fnd (T 3) (fv g 1)) 0), .ref ((L (fnd (T 3) (fv g 1))).getD (rdS (R (fnd (T 3) (fv g 1))) (fv g 2)).toNatClampNeg 0), .int (tld (T 2) (fv g 3) (ro (T 5) (fnd (T 3) (fv g 1)) 1)), .ref qc_7, .ref qc_9, .int (bI true)]))) q_1 ((A 7).getD (fnd (T 3) (fv g 1)) 0) ((R (fnd (T 3) (fv g 1))).getD (rdS (R (fnd (T 3) (fv g 1))) (fv g 2)).toNatClampNeg []) (fv g 5) (fv g 4) (tld (T 2) (fv g 3) (ro (T 5) (fnd (T 3) (fv g 1)) 1)) true := ⟨_, _, _, h_10, (htx.mono hdm4), (tx_qc_7.mono dm_D_8).dk dk4 (by decide) (by decide), tx_qc_9.dk dk4 (by decide) (by decide)⟩
          refine C.less (bc' := 0 + 1) (bs' := (((2494 - ((fv g 5).length + 3)) - ((fv g 4).length + 3)) - (2 * (rv (A 8)).length + 10)) + (2 * (rv (A 8)).length + 10)) (by omega) (by omega) ?_
          refine C.callLS (k9 := 8) [.ref q_1] dX11_authorize_138 mdJx4a65c_add_9ea2d imJx4a65c_add_9ea2d seJx4a65c_add_9ea2d rfl p_q.1 lk_X11_129 rfl rfl rfl rfl (cCt.w1 (R := fun r => r = some (.int 1)) (i := 8) hS (by decide) fun σ9 h9 => c_list_add (h9.at (k := 8) rfl p_q.1) kc_8 ca_8 hJ ((p_q.2.el.mono hdm4).mono h9.2.1) (h9.2.1 _ _ h_10) (by rw [rv_len]; omega)) ?_
          rintro _ _ D9 ⟨rfl, rfl, e8⟩
          have e8 := e8.symm; subst e8
          refine C.pop dX11_authorize_141 rfl ?_
          refine C.aload_nR dX11_authorize_142 rfl ?_
          refine C.sipush (v := 200) dX11_authorize_143 (by decide) ?_
          refine C.iconst (v := 0) dX11_authorize_146 (by decide) ?_
          refine C.callVS0 (k9 := 0) [.int 200, .int 0] dX11_authorize_147 mdX11_answer imX11_answer seX11_answer kc_12 rfl p_n lk_X11_240 rfl rfl rfl rfl (k_answer hS (N := N) (show (updG G1 8 (kLi ((rv (A 8)) ++ [Value.ref q_1]))) 0 = oGs S N from p_n) (show tO S (updG G1 8 (kLi ((rv (A 8)) ++ [Value.ref q_1]))) 2 14 6200 (B1 1) from p_b) 200 0) ?_
          rintro _ _ D9 ⟨rfl, rfl, e8⟩; have e8 := e8.symm; subst e8
          refine C.pop dX11_authorize_150 rfl ?_
          refine C.aload_nR dX11_authorize_151 rfl ?_
          refine C.getS (k9 := 0) (fs := [.ref (S 1), .ref (S 2), .ref (S 3), .ref (S 4), .ref (S 5), .ref (S 6), .ref (S 7), .ref (S 8), .ref (S 9), .ref (S 10), .ref (S 11), .ref (S 12), .int (N 26), .int (N 27), .int (N 28), .int (N 25), .int 200, .int 0]) dX11_authorize_152 fl_X11_52 rfl rfl rfl ?_
          refine C.callLS0 (k9 := 8) [] dX11_authorize_155 mdJx4a65c_size_8abf5 imJx4a65c_size_8abf5 seJx4a65c_size_8abf5 rfl rfl lk_X11_123 rfl rfl rfl rfl (cCt.w0 (R := fun r => r = some (.int (nI ((rv (A 8)) ++ [Value.ref q_1]).length))) fun σ9 h9 => c_list_size (h9.at (k := 8) rfl rfl)) ?_
          rintro _ G9 D9 ⟨rfl, e9, e8⟩
          have e9 := e9.symm; subst e9; have e8 := e8.symm; subst e8
          refine C.iconst (v := 1) dX11_authorize_158 (by decide) ?_
          refine C.isub dX11_authorize_159 ?_
          rw [show (nI ((rv (A 8)) ++ [Value.ref q_1]).length) - 1 = nI (T 23).length from (by rw [List.length_append, rv_len, hql]; exact pk_sub (a := (T 23).length + 1) (b := 1) (by omega))]
          refine C.iret dX11_authorize_160 rfl ?_
          rw [opAuth, hfm]
          show cP Λ S (opAuth1 N (setB B 0 []) T R g) _ _ _
          rw [← hB1, auth_1 h0c hlt w_c.1, if_neg hrd, opAuth2, if_neg (show ¬ 0 < autE T g (fnd (T 3) (fv g 1)) by rw [he]; decide), ask_tld hna]
          have hco := (p_o.2.lq (fun n hn => by rw [hql]; exact (w_k.2.2.1).rn hn (by omega)) q_1).mono hdm4
          have hqq := p_q.2.app hdm4 w_q.2.1 w_q.2.2.1 hl_3 (by have := w_c.1; omega) (by have := (w_r (fnd (T 3) (fv g 1))).1; omega) hq4
          exact ⟨rfl, setA A 8 (A 8 ++ [q_1]), L, p_a, ⟨fo9, rfl, b2, Nat.zero_le _, by decide, rfl, bts_nil⟩, rfl, p_k, p_f, p_h, ⟨p_w.1, p_w.2.mono hdm4⟩, ⟨p_c.1, p_c.2.mono hdm4⟩, p_r.mono hdm4, ⟨congrArg kLi (rv_app _ _), hqq⟩, ⟨p_o.1, hco⟩, ⟨p_m.1, p_m.2.mono hdm4⟩, ⟨p_t.1, p_t.2.1, p_t.2.2.mono hdm4⟩, ⟨p_d.1, p_d.2.1, p_d.2.2.mono hdm4⟩⟩
      · have e9 := e9.symm; subst e9; have e8 := e8.symm; subst e8
        refine C.astore_nN (L' := [some (.ref (S 0)), some (.ref ((A 7).getD (fnd (T 3) (fv g 1)) 0)), some (.null), none, none]) dX11_authorize_53 (by decide) rfl rfl ?_
        refine C.aload_nN dX11_authorize_54 rfl ?_
        refine C.ifnonnullN dX11_authorize_55 ?_
        refine C.aload_nR dX11_authorize_58 rfl ?_
        refine C.iconst (v := 1) dX11_authorize_59 (by decide) ?_
        refine C.callVS0 (k9 := 0) [.int 1] dX11_authorize_60 mdX11_refuse imX11_refuse seX11_refuse kc_12 rfl p_n lk_X11_191 rfl rfl rfl rfl (k_refuse hS (N := N) (show G1 0 = oGs S N from p_n) (show tO S G1 2 14 6200 (B1 1) from p_b) 1) ?_
        rintro _ _ D9 ⟨rfl, rfl, e8⟩; have e8 := e8.symm; subst e8
        refine C.iret dX11_authorize_63 rfl ?_
        rw [opAuth, hfm]
        show cP Λ S (opAuth1 N (setB B 0 []) T R g) _ _ _
        rw [← hB1, auth_1 h0c hlt w_c.1, if_pos hrd]
        exact ⟨rfl, A, L, p_a, ⟨fo9, rfl, b2, Nat.zero_le _, by decide, rfl, bts_nil⟩, rfl, p_k, p_f, p_h, p_w, p_c, p_r, p_q, p_o, p_m, p_t, p_d⟩
    · have e9 := e9.symm; subst e9; have e8 := e8.symm; subst e8
      refine C.astore_nN (L' := [some (.ref (S 0)), some (.null), none, none, none]) dX11_authorize_27 (by decide) rfl rfl ?_
      refine C.aload_nN dX11_authorize_28 rfl ?_
      refine C.ifnonnullN dX11_authorize_29 ?_
      refine C.aload_nR dX11_authorize_32 rfl ?_
      refine C.bipush (v := 6) dX11_authorize_33 (by decide) ?_
      refine C.callVS0 (k9 := 0) [.int 6] dX11_authorize_35 mdX11_refuse imX11_refuse seX11_refuse kc_12 rfl p_n lk_X11_191 rfl rfl rfl rfl (k_refuse hS (N := N) (show G1 0 = oGs S N from p_n) (show tO S G1 2 14 6200 (B1 1) from p_b) 6) ?_
      rintro _ _ D9 ⟨rfl, rfl, e8⟩; have e8 := e8.symm; subst e8
      refine C.iret dX11_authorize_38 rfl ?_
      rw [opAuth, hfm]
      show cP Λ S (opAuth1 N (setB B 0 []) T R g) _ _ _
      rw [← hB1, opAuth1, if_pos (show clS (T 3) (fv g 1) < 0 by rw [clS, if_neg (fun q => hlt q.2)]; decide)]
      exact ⟨rfl, A, L, p_a, ⟨fo9, rfl, b2, Nat.zero_le _, by decide, rfl, bts_nil⟩, rfl, p_k, p_f, p_h, p_w, p_c, p_r, p_q, p_o, p_m, p_t, p_d⟩
  · skip
    refine C.if_ne (tgt := 13) dX11_authorize_4 (by decide) (fun c_4 => absurd c_4 (fun z => z rfl)) (fun c_4 => ?_)
    refine C.aload_nR dX11_authorize_7 rfl ?_
    refine C.iconst (v := 1) dX11_authorize_8 (by decide) ?_
    refine C.callVS0 (k9 := 0) [.int 1] dX11_authorize_9 mdX11_refuse imX11_refuse seX11_refuse kc_12 rfl p_n lk_X11_191 rfl rfl rfl rfl (k_refuse hS (N := N) (show G1 0 = oGs S N from p_n) (show tO S G1 2 14 6200 (B1 1) from p_b) 1) ?_
    rintro _ _ D9 ⟨rfl, rfl, e8⟩; have e8 := e8.symm; subst e8
    refine C.iret dX11_authorize_12 rfl ?_
    rw [opAuth, hfm]
    show cP Λ S (-1, 0, ans N 400 1, setB (setB B 0 []) 1 [], T, R) _ _ _
    rw [← hB1]
    exact ⟨rfl, A, L, p_a, ⟨fo9, rfl, b2, Nat.zero_le _, by decide, rfl, bts_nil⟩, rfl, p_k, p_f, p_h, p_w, p_c, p_r, p_q, p_o, p_m, p_t, p_d⟩
