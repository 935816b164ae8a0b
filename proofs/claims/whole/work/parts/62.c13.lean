/-! the class: token -/
/-- the scopes that are kept -/
def scs (C : List (List Int32)) (c : Nat) : Prop := ∀ k, k < C.length → ∃ i, i < 256 ∧ ro C k c = nI i
def wfs (T : Nat → List (List Int32)) : Prop := scs (T 23) 2 ∧ scs (T 27) 3 ∧ scs (T 28) 2

theorem q_token {Λ : kL} {S : Nat → Nat} {G : Nat → kc} {D : kh} (hS : cInj S) {A L : Nat → List Nat} {N : Nat → Int32} {B : Nat → List Int32} {T R : Nat → List (List Int32)} (hR : cR Λ S G D A L N B T R) (hW : wf N B T R) (hSt : kSt Λ) (hSh : kSh Λ) (hJ : kJd Λ) (hfs : scs (T 28) 2) : cCt Λ mX11_token 8 5200 S [.ref (S 0)] G D (cP Λ S (opTok N B T R)) := by
  refine cCt.of hS pn_X11 [some (.ref (S 0)), none] rfl (Nat.le_of_ble_eq_true rfl) fun X => ?_
  have hR0 := hR; have hW0 := hW
  obtain ⟨p_a, p_b, p_n, p_k, p_f, p_h, p_w, p_c, p_r, p_q, p_o, p_m, p_t, p_d⟩ := hR
  obtain ⟨w_a, w_n, w_w, w_c, w_r, w_x, w_q, w_k, w_f, w_t, w_m, w_l⟩ := hW
  have p_a9 := p_a; obtain ⟨ft, a1, a2, a3, a4, a5, a6⟩ := p_a9
  have p_b9 := p_b; obtain ⟨fo9, b1, b2, b3, b4, b5, b6⟩ := p_b9
  refine C.aload_nR dX11_token_0 rfl ?_
  refine C.callVS0 (k9 := 0) [] dX11_token_1 mdX11_readForm imX11_readForm seX11_readForm kc_12 rfl p_n lk_X11_187 rfl rfl rfl rfl (k_readForm hS hR0 hW0 hSt) ?_
  rintro _ G1 D9 ⟨e8, hR1, hres⟩; have e8 := e8.symm; subst e8
  obtain ⟨B1, hB1⟩ : ∃ B1, B1 = setB B 0 [] := ⟨_, rfl⟩
  rw [← hB1] at hR1
  have hW1 : wf N B1 T R := by rw [hB1]; exact ⟨⟨Nat.zero_le _, bts_nil, hW0.1.2.2⟩, hW0.2⟩
  clear a1 a2 a3 a4 a5 a6 b1 b2 b3 b4 b5 b6 p_a p_b p_n p_k p_f p_h p_w p_c p_r p_q p_o p_m p_t p_d
  have hR2 := hR1; obtain ⟨p_a, p_b, p_n, p_k, p_f, p_h, p_w, p_c, p_r, p_q, p_o, p_m, p_t, p_d⟩ := hR2
  have p_a9 := p_a; obtain ⟨ft, a1, a2, a3, a4, a5, a6⟩ := p_a9
  have p_b9 := p_b; obtain ⟨fo9, b1, b2, b3, b4, b5, b6⟩ := p_b9
  rcases hres with ⟨g, hfm, rfl, hG⟩ | ⟨hfm, rfl⟩
  · skip
    have hf9_1 := hG.1.2.2.2.2.1; obtain ⟨to_1, bq_1, nq_1, fq_1, _, _⟩ := hf9_1
    have ht9_1 := hG.2.2.1; obtain ⟨bt_1, ff_1, gt_1, gr_1, _⟩ := ht9_1
    have hf9_2 := hG.1.2.2.2.2.2.1; obtain ⟨to_2, bq_2, nq_2, fq_2, _, _⟩ := hf9_2
    have ht9_2 := hG.2.2.2.1; obtain ⟨bt_2, ff_2, gt_2, gr_2, _⟩ := ht9_2
    have hf9_3 := hG.1.2.2.2.2.2.2.1; obtain ⟨to_3, bq_3, nq_3, fq_3, _, _⟩ := hf9_3
    have ht9_3 := hG.2.2.2.2.1; obtain ⟨bt_3, ff_3, gt_3, gr_3, _⟩ := ht9_3
    have hf9_7 := hG.1.2.2.2.2.2.2.2.2.2.2.1; obtain ⟨to_7, bq_7, nq_7, fq_7, _, _⟩ := hf9_7
    have ht9_7 := hG.2.2.2.2.2.2.2.2.1; obtain ⟨bt_7, ff_7, gt_7, gr_7, _⟩ := ht9_7
    have hf9_8 := hG.1.2.2.2.2.2.2.2.2.2.2.2.1; obtain ⟨to_8, bq_8, nq_8, fq_8, _, _⟩ := hf9_8
    have ht9_8 := hG.2.2.2.2.2.2.2.2.2.1; obtain ⟨bt_8, ff_8, gt_8, gr_8, _⟩ := ht9_8
    have hf9_9 := hG.1.2.2.2.2.2.2.2.2.2.2.2.2.1; obtain ⟨to_9, bq_9, nq_9, fq_9, _, _⟩ := hf9_9
    have ht9_9 := hG.2.2.2.2.2.2.2.2.2.2.1; obtain ⟨bt_9, ff_9, gt_9, gr_9, _⟩ := ht9_9
    have hf9_10 := hG.1.2.2.2.2.2.2.2.2.2.2.2.2.2.1; obtain ⟨to_10, bq_10, nq_10, fq_10, _, _⟩ := hf9_10
    have ht9_10 := hG.2.2.2.2.2.2.2.2.2.2.2.1; obtain ⟨bt_10, ff_10, gt_10, gr_10, _⟩ := ht9_10
    have hf9_11 := hG.1.2.2.2.2.2.2.2.2.2.2.2.2.2.2.1; obtain ⟨to_11, bq_11, nq_11, fq_11, _, _⟩ := hf9_11
    have ht9_11 := hG.2.2.2.2.2.2.2.2.2.2.2.2.1; obtain ⟨bt_11, ff_11, gt_11, gr_11, _⟩ := ht9_11
    refine C.if_eq (tgt := 20) dX11_token_4 (by decide) (fun c_4 => absurd c_4 (fun z => absurd z (by decide))) (fun c_4 => ?_)
    refine C.aload_nR dX11_token_7 rfl ?_
    refine C.getS (k9 := 0) (fs := [.ref (S 1), .ref (S 2), .ref (S 3), .ref (S 4), .ref (S 5), .ref (S 6), .ref (S 7), .ref (S 8), .ref (S 9), .ref (S 10), .ref (S 11), .ref (S 12), .int (N 26), .int (N 27), .int (N 28), .int (N 25), .int (N 5), .int (N 6)]) dX11_token_8 fl_X11_24 rfl p_n rfl ?_
    refine C.getS (k9 := 3) (fs := [.ref (S 15), .ref (S 17), .ref (S 18), .ref (S 19), .ref (S 20), .ref (S 21), .ref (S 22), .ref (S 23), .ref (S 24), .ref (S 25), .ref (S 26), .ref (S 27), .ref (S 28), .ref (S 29), .ref (S 30), .ref (S 44)]) dX11_token_11 fl_X11_282 rfl p_k.1 rfl ?_
    refine C.callVS0 (k9 := 25) [] dX11_token_14 mdX3_isThere imX3_isThere seX3_isThere kc_4 rfl fq_7 lk_X11_285 rfl rfl rfl rfl (cCt.w0 (R := fun r => r = some (.int (bI (decide (0 < (fv g 7).length))))) fun σ9 h9 => c_Field_isThere (h9.at (k := 25) rfl fq_7) (h9.at (k := 38) rfl gt_7) (show (fv g 7).length ≤ 100000 from (show tV S G1 D (S 38) (fv g 7) from tS.v hG.2.2.2.2.2.2.2.2.1 (by decide) (by decide)).le)) ?_
    rintro _ G9 D9 ⟨rfl, e9, e8⟩
    have e9 := e9.symm; subst e9; have e8 := e8.symm; subst e8
    refine C.if_ne (tgt := 29) dX11_token_17 (by decide) (fun c_17 => ?_) (fun c_17 => ?_)
    · skip
      have h7 : 0 < (fv g 7).length := of_decide_eq_true (bt1 c_17)
      refine C.aload_nR dX11_token_29 rfl ?_
      refine C.callVS0 (k9 := 0) [] dX11_token_30 mdX11_whoAsks imX11_whoAsks seX11_whoAsks kc_12 rfl p_n lk_X11_291 rfl rfl rfl rfl (k_whoAsks hS hR1 hW1 hG) ?_
      rintro _ _ _ (⟨hwh, hlt, rfl, e9, e8⟩ | ⟨hwh, rfl, e9, e8⟩)
      · have e9 := e9.symm; subst e9; have e8 := e8.symm; subst e8
        have hCc := p_c.2.2.2 _ hlt
        obtain ⟨i9, s9, u1⟩ := hCc.cell
        have hwc : (whoT T g).toNatClampNeg = (fnd (T 3) (fv g 1)) := by rw [whoT, (whoS_pos hwh).1, nI_clamp (by have := w_c.1; omega)]
        refine C.astore_n (L' := [some (.ref (S 0)), some (.ref ((A 7).getD (fnd (T 3) (fv g 1)) 0))]) dX11_token_33 (by decide) rfl rfl ?_
        refine C.aload_nR dX11_token_34 rfl ?_
        refine C.ifnonnullR (tgt := 48) dX11_token_35 (by decide) ?_
        refine C.aload_nR dX11_token_48 rfl ?_
        refine C.getS (k9 := 0) (fs := [.ref (S 1), .ref (S 2), .ref (S 3), .ref (S 4), .ref (S 5), .ref (S 6), .ref (S 7), .ref (S 8), .ref (S 9), .ref (S 10), .ref (S 11), .ref (S 12), .int (N 26), .int (N 27), .int (N 28), .int (N 25), .int (N 5), .int (N 6)]) dX11_token_49 fl_X11_24 rfl p_n rfl ?_
        refine C.getS (k9 := 3) (fs := [.ref (S 15), .ref (S 17), .ref (S 18), .ref (S 19), .ref (S 20), .ref (S 21), .ref (S 22), .ref (S 23), .ref (S 24), .ref (S 25), .ref (S 26), .ref (S 27), .ref (S 28), .ref (S 29), .ref (S 30), .ref (S 44)]) dX11_token_52 fl_X11_282 rfl p_k.1 rfl ?_
        refine C.getS (k9 := 25) (fs := [.ref (kSa Λ RX4 65), .ref (S 38), .int (bI to_7)]) dX11_token_55 fl_X11_199 rfl fq_7 rfl ?_
        refine C.ldcwS dX11_token_58 sr_X11_295 ?_
        refine C.callVX0 [.ref (kSa Λ RX11 295)] dX11_token_61 mdX9_spells imX9_spells seX9_spells kc_10 (show tV S G1 D (S 38) (fv g 7) from tS.v hG.2.2.2.2.2.2.2.2.1 (by decide) (by decide)).ob lk_X11_297 rfl rfl rfl rfl (cCt.w0 (R := fun r => r = some (.int (bI (decide (fv g 7 = sb_authorization_code))))) fun σ9 h9 => v_spells ((show tV S G1 D (S 38) (fv g 7) from tS.v hG.2.2.2.2.2.2.2.2.1 (by decide) (by decide)).tx h9) (st_X11_295 hSt) sb_authorization_code_b) ?_
        rintro _ G9 D9 ⟨rfl, e9, e8⟩
        have e9 := e9.symm; subst e9; have e8 := e8.symm; subst e8
        refine C.if_eq (tgt := 73) dX11_token_64 (by decide) (fun c_64 => ?_) (fun c_64 => ?_)
        · skip
          have h7a : ¬ fv g 7 = sb_authorization_code := of_decide_eq_false ((bI_eq0 _).mp c_64)
          refine C.aload_nR dX11_token_73 rfl ?_
          refine C.getS (k9 := 0) (fs := [.ref (S 1), .ref (S 2), .ref (S 3), .ref (S 4), .ref (S 5), .ref (S 6), .ref (S 7), .ref (S 8), .ref (S 9), .ref (S 10), .ref (S 11), .ref (S 12), .int (N 26), .int (N 27), .int (N 28), .int (N 25), .int (N 5), .int (N 6)]) dX11_token_74 fl_X11_24 rfl p_n rfl ?_
          refine C.getS (k9 := 3) (fs := [.ref (S 15), .ref (S 17), .ref (S 18), .ref (S 19), .ref (S 20), .ref (S 21), .ref (S 22), .ref (S 23), .ref (S 24), .ref (S 25), .ref (S 26), .ref (S 27), .ref (S 28), .ref (S 29), .ref (S 30), .ref (S 44)]) dX11_token_77 fl_X11_282 rfl p_k.1 rfl ?_
          refine C.getS (k9 := 25) (fs := [.ref (kSa Λ RX4 65), .ref (S 38), .int (bI to_7)]) dX11_token_80 fl_X11_199 rfl fq_7 rfl ?_
          refine C.ldcwS dX11_token_83 sr_X11_305 ?_
          refine C.callVX0 [.ref (kSa Λ RX11 305)] dX11_token_86 mdX9_spells imX9_spells seX9_spells kc_10 (show tV S G1 D (S 38) (fv g 7) from tS.v hG.2.2.2.2.2.2.2.2.1 (by decide) (by decide)).ob lk_X11_297 rfl rfl rfl rfl (cCt.w0 (R := fun r => r = some (.int (bI (decide (fv g 7 = sb_refresh_token))))) fun σ9 h9 => v_spells ((show tV S G1 D (S 38) (fv g 7) from tS.v hG.2.2.2.2.2.2.2.2.1 (by decide) (by decide)).tx h9) (st_X11_305 hSt) sb_refresh_token_b) ?_
          rintro _ G9 D9 ⟨rfl, e9, e8⟩
          have e9 := e9.symm; subst e9; have e8 := e8.symm; subst e8
          refine C.if_eq (tgt := 98) dX11_token_89 (by decide) (fun c_89 => ?_) (fun c_89 => ?_)
          · skip
            have h7b : ¬ fv g 7 = sb_refresh_token := of_decide_eq_false ((bI_eq0 _).mp c_89)
            refine C.aload_nR dX11_token_98 rfl ?_
            refine C.sipush (v := 400) dX11_token_99 (by decide) ?_
            refine C.bipush (v := 8) dX11_token_102 (by decide) ?_
            refine C.callVS0 (k9 := 0) [.int 400, .int 8] dX11_token_104 mdX11_deny imX11_deny seX11_deny kc_12 rfl p_n lk_X11_288 rfl rfl rfl rfl (k_deny_8 hS hSt (N := N) (show G1 0 = oGs S N from p_n) (show tO S G1 2 14 6200 (B1 1) from p_b) 400) ?_
            rintro _ _ D9 ⟨f9, hf1, hf2, rfl, rfl, e8⟩; have e8 := e8.symm; subst e8
            refine C.iret dX11_token_107 rfl ?_
            rw [opTok, hfm]
            show cP Λ S (opTok1 N (setB B 0 []) T R g) _ _ _
            rw [← hB1, opTok1, if_neg (fun q => q h7), if_neg hwh, if_neg h7a, if_neg h7b]
            exact ⟨rfl, A, L, p_a, (tO.gW (by decide) (by decide) (by decide) hf1 hf2), rfl, p_k, p_f, p_h, p_w, p_c, p_r, p_q, p_o, p_m, p_t, p_d⟩
          · skip
            have h7b : fv g 7 = sb_refresh_token := of_decide_eq_true (bt1 c_89)
            refine C.aload_nR dX11_token_92 rfl ?_
            refine C.aload_nR dX11_token_93 rfl ?_
            have hct := k_turn hS hR1 hW1 hG hSt hJ hfs (c := (fnd (T 3) (fv g 1))) hlt
            refine C.less (bc' := 2 + 6) (bs' := 500 + 4700) (by omega) (by omega) ?_
            refine C.callVS (k9 := 0) [.ref ((A 7).getD (fnd (T 3) (fv g 1)) 0)] dX11_token_94 mdX11_turn imX11_turn seX11_turn kc_12 rfl p_n lk_X11_307 rfl rfl rfl rfl hct ?_
            rintro r9 G9 D9 hq9; obtain ⟨w9, rfl⟩ : ∃ w9, r9 = some w9 := ⟨_, hq9.1⟩
            have hw9 := hq9.1; injection hw9 with hw9; subst hw9
            refine C.iret dX11_token_97 rfl ?_
            rw [opTok, hfm]
            show cP Λ S (opTok1 N (setB B 0 []) T R g) _ _ _
            rw [← hB1, opTok1, if_neg (fun q => q h7), if_neg hwh, if_neg h7a, if_pos h7b, hwc]
            exact hq9
        · skip
          have h7a : fv g 7 = sb_authorization_code := of_decide_eq_true (bt1 c_64)
          refine C.aload_nR dX11_token_67 rfl ?_
          refine C.aload_nR dX11_token_68 rfl ?_
          have hct := k_redeem hS hR1 hW1 hG hSt hSh hJ (c := (fnd (T 3) (fv g 1))) hlt
          refine C.less (bc' := 0 + 8) (bs' := 0 + 5200) (by omega) (by omega) ?_
          refine C.callVS (k9 := 0) [.ref ((A 7).getD (fnd (T 3) (fv g 1)) 0)] dX11_token_69 mdX11_redeem imX11_redeem seX11_redeem kc_12 rfl p_n lk_X11_301 rfl rfl rfl rfl hct ?_
          rintro r9 G9 D9 hq9; obtain ⟨w9, rfl⟩ : ∃ w9, r9 = some w9 := ⟨_, hq9.1⟩
          have hw9 := hq9.1; injection hw9 with hw9; subst hw9
          refine C.iret dX11_token_72 rfl ?_
          rw [opTok, hfm]
          show cP Λ S (opTok1 N (setB B 0 []) T R g) _ _ _
          rw [← hB1, opTok1, if_neg (fun q => q h7), if_neg hwh, if_pos h7a, hwc]
          exact hq9
      · have e9 := e9.symm; subst e9; have e8 := e8.symm; subst e8
        refine C.astore_nN (L' := [some (.ref (S 0)), some (.null)]) dX11_token_33 (by decide) rfl rfl ?_
        refine C.aload_nN dX11_token_34 rfl ?_
        refine C.ifnonnullN dX11_token_35 ?_
        refine C.aload_nR dX11_token_38 rfl ?_
        refine C.sipush (v := 401) dX11_token_39 (by decide) ?_
        refine C.bipush (v := 6) dX11_token_42 (by decide) ?_
        refine C.callVS0 (k9 := 0) [.int 401, .int 6] dX11_token_44 mdX11_deny imX11_deny seX11_deny kc_12 rfl p_n lk_X11_288 rfl rfl rfl rfl (k_deny_6 hS hSt (N := N) (show G1 0 = oGs S N from p_n) (show tO S G1 2 14 6200 (B1 1) from p_b) 401) ?_
        rintro _ _ D9 ⟨f9, hf1, hf2, rfl, rfl, e8⟩; have e8 := e8.symm; subst e8
        refine C.iret dX11_token_47 rfl ?_
        rw [opTok, hfm]
        show cP Λ S (opTok1 N (setB B 0 []) T R g) _ _ _
        rw [← hB1, opTok1, if_neg (fun q => q h7), if_pos hwh]
        exact ⟨rfl, A, L, p_a, (tO.gW (by decide) (by decide) (by decide) hf1 hf2), rfl, p_k, p_f, p_h, p_w, p_c, p_r, p_q, p_o, p_m, p_t, p_d⟩
    · skip
      have h7 : ¬ 0 < (fv g 7).length := of_decide_eq_false ((bI_eq0 _).mp c_17)
      refine C.aload_nR dX11_token_20 rfl ?_
      refine C.sipush (v := 400) dX11_token_21 (by decide) ?_
      refine C.iconst (v := 1) dX11_token_24 (by decide) ?_
      refine C.callVS0 (k9 := 0) [.int 400, .int 1] dX11_token_25 mdX11_deny imX11_deny seX11_deny kc_12 rfl p_n lk_X11_288 rfl rfl rfl rfl (k_deny_1 hS hSt (N := N) (show G1 0 = oGs S N from p_n) (show tO S G1 2 14 6200 (B1 1) from p_b) 400) ?_
      rintro _ _ D9 ⟨f9, hf1, hf2, rfl, rfl, e8⟩; have e8 := e8.symm; subst e8
      refine C.iret dX11_token_28 rfl ?_
      rw [opTok, hfm]
      show cP Λ S (opTok1 N (setB B 0 []) T R g) _ _ _
      rw [← hB1, opTok1, if_pos h7]
      exact ⟨rfl, A, L, p_a, (tO.gW (by decide) (by decide) (by decide) hf1 hf2), rfl, p_k, p_f, p_h, p_w, p_c, p_r, p_q, p_o, p_m, p_t, p_d⟩
  · skip
    refine C.if_eq (tgt := 20) dX11_token_4 (by decide) (fun c_4 => ?_) (fun c_4 => absurd rfl c_4)
    refine C.aload_nR dX11_token_20 rfl ?_
    refine C.sipush (v := 400) dX11_token_21 (by decide) ?_
    refine C.iconst (v := 1) dX11_token_24 (by decide) ?_
    refine C.callVS0 (k9 := 0) [.int 400, .int 1] dX11_token_25 mdX11_deny imX11_deny seX11_deny kc_12 rfl p_n lk_X11_288 rfl rfl rfl rfl (k_deny_1 hS hSt (N := N) (show G1 0 = oGs S N from p_n) (show tO S G1 2 14 6200 (B1 1) from p_b) 400) ?_
    rintro _ _ D9 ⟨f9, hf1, hf2, rfl, rfl, e8⟩; have e8 := e8.symm; subst e8
    refine C.iret dX11_token_28 rfl ?_
    rw [opTok, hfm]
    show cP Λ S (rfs N (setB B 0 []) T R 400 1 sb_invalid_request) _ _ _
    rw [← hB1]
    exact ⟨rfl, A, L, p_a, (tO.gW (by decide) (by decide) (by decide) hf1 hf2), rfl, p_k, p_f, p_h, p_w, p_c, p_r, p_q, p_o, p_m, p_t, p_d⟩
