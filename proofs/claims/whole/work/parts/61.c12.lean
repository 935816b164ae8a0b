/-! the class: redeem, token -/
theorem k_giveTokens {Λ : kL} {S : Nat → Nat} {G : Nat → kc} {D : kh} (hS : cInj S) {A L : Nat → List Nat} {N : Nat → Int32} {B : Nat → List Int32} {T R : Nat → List (List Int32)} (hR : cR Λ S G D A L N B T R) (hSt : kSt Λ) (hJ : kJd Λ) (hw : wfw (T 2)) (hn : wfn N) (hx60 : (T 20).length ≤ 60) {n27 : Nat} (hn27 : n27 ≤ 200) (hu : (T 21).length = n27 + (T 29).length + (T 30).length) (hM : (T 22).length = (T 21).length) (he3 : (T 29).length ≤ 300) (hg3 : (T 30).length ≤ 300) {f : Nat} (hf2 : f < 2 ^ 31) (x : Int32) (b : Bool) {ds W1 : List (List Int32)} (hgv : gv (T 21) (T 20) (T 29).length (T 30).length b = some (ds, W1)) : cCt Λ mX11_giveTokens 6 4700 S [.ref (S 0), .ref ((A 10).getD f 0), .int x, .int (bI b)] G D (cP Λ S (opCom N B T R f x ds W1 b)) := by
  cases b with
  | true =>
    obtain ⟨h1, h2, d, W2, e, h3, h4, rfl⟩ := gv_T hgv
    exact k_giveT hS hR hSt hJ hw hn hx60 (by omega) hM he3 hg3 hf2 x h3 h4
  | false =>
    obtain ⟨h1, d, h3, rfl⟩ := gv_F hgv
    exact k_giveF hS hR hSt hJ hw hn hx60 (by omega) hM he3 hg3 hf2 x h3

theorem k_redeem {Λ : kL} {S : Nat → Nat} {G : Nat → kc} {D : kh} (hS : cInj S) {A L : Nat → List Nat} {N : Nat → Int32} {B : Nat → List Int32} {T R : Nat → List (List Int32)} (hR : cR Λ S G D A L N B T R) (hW : wf N B T R) {g : fvs} (hG : cG Λ S G g) (hSt : kSt Λ) (hSh : kSh Λ) (hJ : kJd Λ) {c : Nat} (hc : c < (T 3).length) : cCt Λ mX11_redeem 8 5200 S [.ref (S 0), .ref ((A 7).getD c 0)] G D (cP Λ S (opRed N B T R g c)) := by
  refine cCt.of hS pn_X11 [some (.ref (S 0)), some (.ref ((A 7).getD c 0)), none, none] rfl (Nat.le_of_ble_eq_true rfl) fun X => ?_
  have hR0 := hR; have hW0 := hW
  obtain ⟨p_a, p_b, p_n, p_k, p_f, p_h, p_w, p_c, p_r, p_q, p_o, p_m, p_t, p_d⟩ := hR
  obtain ⟨w_a, w_n, w_w, w_c, w_r, w_x, w_q, w_k, w_f, w_t, w_m, w_l⟩ := hW
  have p_a9 := p_a; obtain ⟨ft, a1, a2, a3, a4, a5, a6⟩ := p_a9
  have p_b9 := p_b; obtain ⟨fo9, b1, b2, b3, b4, b5, b6⟩ := p_b9
  have hf9_2 := hG.1.2.2.2.2.2.1; obtain ⟨to_2, bq_2, nq_2, fq_2, _, _⟩ := hf9_2
  have ht9_2 := hG.2.2.2.1; obtain ⟨bt_2, ff_2, gt_2, gr_2, _⟩ := ht9_2
  have hf9_8 := hG.1.2.2.2.2.2.2.2.2.2.2.2.1; obtain ⟨to_8, bq_8, nq_8, fq_8, _, _⟩ := hf9_8
  have ht9_8 := hG.2.2.2.2.2.2.2.2.2.1; obtain ⟨bt_8, ff_8, gt_8, gr_8, _⟩ := ht9_8
  have hf9_9 := hG.1.2.2.2.2.2.2.2.2.2.2.2.2.1; obtain ⟨to_9, bq_9, nq_9, fq_9, _, _⟩ := hf9_9
  have ht9_9 := hG.2.2.2.2.2.2.2.2.2.2.1; obtain ⟨bt_9, ff_9, gt_9, gr_9, _⟩ := ht9_9
  obtain ⟨i9, s9, u1⟩ := (p_c.2.2.2 _ hc).cell
  have hb1 := w_k.1; have hb2 := w_t.1; have hb3 := w_t.2.2.2.2.1; have hb4 : (T 28).length ≤ 200 := by have := w_k.2.2.2.2; omega
  have hU8 := w_x.2.2.2.2
  have hm22 := w_m.1
  have hq200 := w_q.1
  have hc8 := w_c.1
  have hmf := p_m.2.1
  have hrf := rv_len (A 10)
  refine C.aload_nR dX11_redeem_0 rfl ?_
  refine C.getS (k9 := 0) (fs := [.ref (S 1), .ref (S 2), .ref (S 3), .ref (S 4), .ref (S 5), .ref (S 6), .ref (S 7), .ref (S 8), .ref (S 9), .ref (S 10), .ref (S 11), .ref (S 12), .int (N 26), .int (N 27), .int (N 28), .int (N 25), .int (N 5), .int (N 6)]) dX11_redeem_1 fl_X11_24 rfl p_n rfl ?_
  refine C.getS (k9 := 3) (fs := [.ref (S 15), .ref (S 17), .ref (S 18), .ref (S 19), .ref (S 20), .ref (S 21), .ref (S 22), .ref (S 23), .ref (S 24), .ref (S 25), .ref (S 26), .ref (S 27), .ref (S 28), .ref (S 29), .ref (S 30), .ref (S 44)]) dX11_redeem_4 fl_X11_466 rfl p_k.1 rfl ?_
  refine C.callVS0 (k9 := 26) [] dX11_redeem_7 mdX3_isThere imX3_isThere seX3_isThere kc_4 rfl fq_8 lk_X11_285 rfl rfl rfl rfl (cCt.w0 (R := fun r => r = some (.int (bI (decide (0 < (fv g 8).length))))) fun σ9 h9 => c_Field_isThere (h9.at (k := 26) rfl fq_8) (h9.at (k := 39) rfl gt_8) (show (fv g 8).length ≤ 100000 from (show tV S G D (S 39) (fv g 8) from tS.v hG.2.2.2.2.2.2.2.2.2.1 (by decide) (by decide)).le)) ?_
  rintro _ G9 D9 ⟨rfl, e9, e8⟩
  have e9 := e9.symm; subst e9; have e8 := e8.symm; subst e8
  refine C.if_eq (tgt := 42) dX11_redeem_10 (by decide) (fun c_10 => ?_) (fun c_10 => ?_)
  · skip
    refine C.aload_nR dX11_redeem_42 rfl ?_
    refine C.sipush (v := 400) dX11_redeem_43 (by decide) ?_
    refine C.iconst (v := 1) dX11_redeem_46 (by decide) ?_
    refine C.callVS0 (k9 := 0) [.int 400, .int 1] dX11_redeem_47 mdX11_deny imX11_deny seX11_deny kc_12 rfl p_n lk_X11_288 rfl rfl rfl rfl (k_deny_1 hS hSt (N := N) (show G 0 = oGs S N from p_n) (show tO S G 2 14 6200 (B 1) from p_b) 400) ?_
    rintro _ _ D9 ⟨f9, hf1, hf2, rfl, rfl, e8⟩; have e8 := e8.symm; subst e8
    refine C.iret dX11_redeem_50 rfl ?_
    rw [opRed, if_pos (show (decide (0 < (fv g 8).length) && decide (0 < (fv g 2).length) && decide (0 < (fv g 9).length) && verS (fv g 9)) = false by first | (rw [(bI_eq0 _).mp c_10]; rfl) | (rw [(bI_eq0 _).mp c_23]; cases decide (0 < (fv g 8).length) <;> rfl) | (rw [(bI_eq0 _).mp c_39, Bool.and_false]))]
    exact ⟨rfl, A, L, p_a, (tO.gW (by decide) (by decide) (by decide) hf1 hf2), rfl, p_k, p_f, p_h, p_w, p_c, p_r, p_q, p_o, p_m, p_t, p_d⟩
  · skip
    refine C.aload_nR dX11_redeem_13 rfl ?_
    refine C.getS (k9 := 0) (fs := [.ref (S 1), .ref (S 2), .ref (S 3), .ref (S 4), .ref (S 5), .ref (S 6), .ref (S 7), .ref (S 8), .ref (S 9), .ref (S 10), .ref (S 11), .ref (S 12), .int (N 26), .int (N 27), .int (N 28), .int (N 25), .int (N 5), .int (N 6)]) dX11_redeem_14 fl_X11_24 rfl p_n rfl ?_
    refine C.getS (k9 := 3) (fs := [.ref (S 15), .ref (S 17), .ref (S 18), .ref (S 19), .ref (S 20), .ref (S 21), .ref (S 22), .ref (S 23), .ref (S 24), .ref (S 25), .ref (S 26), .ref (S 27), .ref (S 28), .ref (S 29), .ref (S 30), .ref (S 44)]) dX11_redeem_17 fl_X11_204 rfl p_k.1 rfl ?_
    refine C.callVS0 (k9 := 20) [] dX11_redeem_20 mdX3_isThere imX3_isThere seX3_isThere kc_4 rfl fq_2 lk_X11_285 rfl rfl rfl rfl (cCt.w0 (R := fun r => r = some (.int (bI (decide (0 < (fv g 2).length))))) fun σ9 h9 => c_Field_isThere (h9.at (k := 20) rfl fq_2) (h9.at (k := 33) rfl gt_2) (show (fv g 2).length ≤ 100000 from (show tV S G D (S 33) (fv g 2) from tS.v hG.2.2.2.1 (by decide) (by decide)).le)) ?_
    rintro _ G9 D9 ⟨rfl, e9, e8⟩
    have e9 := e9.symm; subst e9; have e8 := e8.symm; subst e8
    refine C.if_eq (tgt := 42) dX11_redeem_23 (by decide) (fun c_23 => ?_) (fun c_23 => ?_)
    · skip
      refine C.aload_nR dX11_redeem_42 rfl ?_
      refine C.sipush (v := 400) dX11_redeem_43 (by decide) ?_
      refine C.iconst (v := 1) dX11_redeem_46 (by decide) ?_
      refine C.callVS0 (k9 := 0) [.int 400, .int 1] dX11_redeem_47 mdX11_deny imX11_deny seX11_deny kc_12 rfl p_n lk_X11_288 rfl rfl rfl rfl (k_deny_1 hS hSt (N := N) (show G 0 = oGs S N from p_n) (show tO S G 2 14 6200 (B 1) from p_b) 400) ?_
      rintro _ _ D9 ⟨f9, hf1, hf2, rfl, rfl, e8⟩; have e8 := e8.symm; subst e8
      refine C.iret dX11_redeem_50 rfl ?_
      rw [opRed, if_pos (show (decide (0 < (fv g 8).length) && decide (0 < (fv g 2).length) && decide (0 < (fv g 9).length) && verS (fv g 9)) = false by first | (rw [(bI_eq0 _).mp c_10]; rfl) | (rw [(bI_eq0 _).mp c_23]; cases decide (0 < (fv g 8).length) <;> rfl) | (rw [(bI_eq0 _).mp c_39, Bool.and_false]))]
      exact ⟨rfl, A, L, p_a, (tO.gW (by decide) (by decide) (by decide) hf1 hf2), rfl, p_k, p_f, p_h, p_w, p_c, p_r, p_q, p_o, p_m, p_t, p_d⟩
    · skip
      refine C.aload_nR dX11_redeem_26 rfl ?_
      refine C.getS (k9 := 0) (fs := [.ref (S 1), .ref (S 2), .ref (S 3), .ref (S 4), .ref (S 5), .ref (S 6), .ref (S 7), .ref (S 8), .ref (S 9), .ref (S 10), .ref (S 11), .ref (S 12), .int (N 26), .int (N 27), .int (N 28), .int (N 25), .int (N 5), .int (N 6)]) dX11_redeem_27 fl_X11_24 rfl p_n rfl ?_
      refine C.getS (k9 := 3) (fs := [.ref (S 15), .ref (S 17), .ref (S 18), .ref (S 19), .ref (S 20), .ref (S 21), .ref (S 22), .ref (S 23), .ref (S 24), .ref (S 25), .ref (S 26), .ref (S 27), .ref (S 28), .ref (S 29), .ref (S 30), .ref (S 44)]) dX11_redeem_30 fl_X11_468 rfl p_k.1 rfl ?_
      refine C.getS (k9 := 27) (fs := [.ref (kSa Λ RX4 74), .ref (S 40), .int (bI to_9)]) dX11_redeem_33 fl_X11_199 rfl fq_9 rfl ?_
      refine C.callS0 [.ref (S 40)] dX11_redeem_36 mdX11_isVerifier ssX11_isVerifier lk_X11_471 rfl rfl rfl rfl (k_isVerifier hS (show tV S G D (S 40) (fv g 9) from tS.v hG.2.2.2.2.2.2.2.2.2.2.1 (by decide) (by decide))) ?_
      rintro _ G9 D9 ⟨rfl, e9, e8⟩
      have e9 := e9.symm; subst e9; have e8 := e8.symm; subst e8
      refine C.if_ne (tgt := 51) dX11_redeem_39 (by decide) (fun c_39 => ?_) (fun c_39 => ?_)
      · skip
        have hv9 := bt1 c_39
        have h09 : 0 < (fv g 9).length := by have h9 := hv9; rw [verS, Bool.and_eq_true] at h9; have := (of_decide_eq_true h9.1).1; omega
        have hE0 : ¬ (decide (0 < (fv g 8).length) && decide (0 < (fv g 2).length) && decide (0 < (fv g 9).length) && verS (fv g 9)) = false := by rw [bt1 c_10, bt1 c_23, decide_eq_true h09, hv9]; decide
        refine C.aload_nR dX11_redeem_51 rfl ?_
        refine C.aload_nR dX11_redeem_52 rfl ?_
        refine C.getS (k9 := 0) (fs := [.ref (S 1), .ref (S 2), .ref (S 3), .ref (S 4), .ref (S 5), .ref (S 6), .ref (S 7), .ref (S 8), .ref (S 9), .ref (S 10), .ref (S 11), .ref (S 12), .int (N 26), .int (N 27), .int (N 28), .int (N 25), .int (N 5), .int (N 6)]) dX11_redeem_53 fl_X11_24 rfl p_n rfl ?_
        refine C.getS (k9 := 3) (fs := [.ref (S 15), .ref (S 17), .ref (S 18), .ref (S 19), .ref (S 20), .ref (S 21), .ref (S 22), .ref (S 23), .ref (S 24), .ref (S 25), .ref (S 26), .ref (S 27), .ref (S 28), .ref (S 29), .ref (S 30), .ref (S 44)]) dX11_redeem_56 fl_X11_466 rfl p_k.1 rfl ?_
        refine C.getS (k9 := 26) (fs := [.ref (kSa Λ RX4 70), .ref (S 39), .int (bI to_8)]) dX11_redeem_59 fl_X11_199 rfl fq_8 rfl ?_
        refine C.callVS0 (k9 := 0) [.ref (S 39)] dX11_redeem_62 mdX11_codeOf imX11_codeOf seX11_codeOf kc_12 rfl p_n lk_X11_474 rfl rfl rfl rfl (k_codeOf hS hR0 hW0 (fun σ9 h9 => (show tV S G D (S 39) (fv g 8) from tS.v hG.2.2.2.2.2.2.2.2.2.1 (by decide) (by decide)).tx h9)) ?_
        rintro _ _ _ (⟨hk, rfl, e9, e8⟩ | ⟨hk, rfl, e9, e8⟩)
        · have e9 := e9.symm; subst e9; have e8 := e8.symm; subst e8
          have u3 := p_o.2.2.2 _ hk
          have lt_n : (rn (T 27) (hfn (T 21) (T 27) (fv g 8)) 1) < (T 23).length := w_k.2.2.1.rn hk (by omega)
          obtain ⟨qr, qc, qs, u4, u5, u6, u7⟩ := p_q.2.2.2 _ lt_n
          have lt_c : (rn (T 23) (rn (T 27) (hfn (T 21) (T 27) (fv g 8)) 1) 0) < (T 3).length ∧ ro (T 23) (rn (T 27) (hfn (T 21) (T 27) (fv g 8)) 1) 0 = nI (rn (T 23) (rn (T 27) (hfn (T 21) (T 27) (fv g 8)) 1) 0) := by obtain ⟨c9, r9, e1, e2, e3, e4⟩ := w_q.2.2.2.2.2.2 _ lt_n; have e5 : (rn (T 23) (rn (T 27) (hfn (T 21) (T 27) (fv g 8)) 1) 0) = c9 := (by rw [rn, e1, nI_clamp (by omega)]); rw [e5]; exact ⟨e3, e1⟩
          obtain ⟨i8, s8, u8⟩ := (p_c.2.2.2 _ lt_c.1).cell
          by_cases h5 : ro (T 27) (hfn (T 21) (T 27) (fv g 8)) 5 < 0
          · rw [famRef, if_pos h5] at u3
            refine C.astore_n (L' := [some (.ref (S 0)), some (.ref ((A 7).getD c 0)), some (.ref ((A 9).getD (hfn (T 21) (T 27) (fv g 8)) 0)), none]) dX11_redeem_65 (by decide) rfl rfl ?_
            refine C.aload_nR dX11_redeem_66 rfl ?_
            refine C.ifnullR dX11_redeem_67 ?_
            refine C.aload_nR dX11_redeem_70 rfl ?_
            refine C.getD dX11_redeem_71 fl_X11_357 u3 rfl ?_
            refine C.getD dX11_redeem_74 fl_X11_361 u4 rfl ?_
            refine C.getD dX11_redeem_77 fl_X11_328 u8 rfl ?_
            refine C.aload_nR dX11_redeem_80 rfl ?_
            refine C.getD dX11_redeem_81 fl_X11_328 u1 rfl ?_
            refine C.icmp_eq (tgt := 97) dX11_redeem_84 (by decide) (fun c_84 => ?_) (fun c_84 => ?_)
            · skip
              have hc1 : ¬ ¬ ro (T 23) (rn (T 27) (hfn (T 21) (T 27) (fv g 8)) 1) 0 = nI c := fun q => q (lt_c.2.trans c_84)
              refine C.aload_nR dX11_redeem_97 rfl ?_
              refine C.getD dX11_redeem_98 fl_X11_366 u3 rfl ?_
              refine C.ifnullN (tgt := 122) dX11_redeem_101 (by decide) ?_
              refine C.aload_nR dX11_redeem_122 rfl ?_
              refine C.getS (k9 := 0) (fs := [.ref (S 1), .ref (S 2), .ref (S 3), .ref (S 4), .ref (S 5), .ref (S 6), .ref (S 7), .ref (S 8), .ref (S 9), .ref (S 10), .ref (S 11), .ref (S 12), .int (N 26), .int (N 27), .int (N 28), .int (N 25), .int (N 5), .int (N 6)]) dX11_redeem_123 fl_X11_77 rfl p_n rfl ?_
              refine C.aload_nR dX11_redeem_126 rfl ?_
              refine C.getD dX11_redeem_127 fl_X11_478 u3 rfl ?_
              refine C.icmp_ge (tgt := 186) dX11_redeem_130 (by decide) (fun c_130 => ?_) (fun c_130 => ?_)
              · skip
                refine C.aload_nR dX11_redeem_186 rfl ?_
                refine C.sipush (v := 400) dX11_redeem_187 (by decide) ?_
                refine C.bipush (v := 7) dX11_redeem_190 (by decide) ?_
                refine C.callVS0 (k9 := 0) [.int 400, .int 7] dX11_redeem_192 mdX11_deny imX11_deny seX11_deny kc_12 rfl p_n lk_X11_288 rfl rfl rfl rfl (k_deny_7 hS hSt (N := N) (show G 0 = oGs S N from p_n) (show tO S G 2 14 6200 (B 1) from p_b) 400) ?_
                rintro _ _ D9 ⟨f9, hf1, hf2, rfl, rfl, e8⟩; have e8 := e8.symm; subst e8
                refine C.iret dX11_redeem_195 rfl ?_
                rw [opRed, if_neg hE0, if_neg (fun q => q hk), opRed2, if_neg hc1, if_neg (fun q => q h5), if_pos (show (ro (T 27) (hfn (T 21) (T 27) (fv g 8)) 4 ≤ N 25 ∨ ¬ fv g 2 = rdT (T 23) R (rn (T 27) (hfn (T 21) (T 27) (fv g 8)) 1) ∨ ¬ b64 (shaL (fv g 9)) 43 = (T 25).getD (rn (T 27) (hfn (T 21) (T 27) (fv g 8)) 1) []) from by first | exact Or.inl c_130 | exact Or.inr (Or.inl (of_decide_eq_false ((bI_eq0 _).mp c_153))) | exact Or.inr (Or.inr (of_decide_eq_false ((bI_eq0 _).mp c_183))))]
                exact ⟨rfl, A, L, p_a, (tO.gW (by decide) (by decide) (by decide) hf1 hf2), rfl, p_k, p_f, p_h, p_w, p_c, p_r, p_q, p_o, p_m, p_t, p_d⟩
              · skip
                refine C.aload_nR dX11_redeem_133 rfl ?_
                refine C.getS (k9 := 0) (fs := [.ref (S 1), .ref (S 2), .ref (S 3), .ref (S 4), .ref (S 5), .ref (S 6), .ref (S 7), .ref (S 8), .ref (S 9), .ref (S 10), .ref (S 11), .ref (S 12), .int (N 26), .int (N 27), .int (N 28), .int (N 25), .int (N 5), .int (N 6)]) dX11_redeem_134 fl_X11_24 rfl p_n rfl ?_
                refine C.getS (k9 := 3) (fs := [.ref (S 15), .ref (S 17), .ref (S 18), .ref (S 19), .ref (S 20), .ref (S 21), .ref (S 22), .ref (S 23), .ref (S 24), .ref (S 25), .ref (S 26), .ref (S 27), .ref (S 28), .ref (S 29), .ref (S 30), .ref (S 44)]) dX11_redeem_137 fl_X11_204 rfl p_k.1 rfl ?_
                refine C.getS (k9 := 20) (fs := [.ref (kSa Λ RX4 42), .ref (S 33), .int (bI to_2)]) dX11_redeem_140 fl_X11_199 rfl fq_2 rfl ?_
                refine C.aload_nR dX11_redeem_143 rfl ?_
                refine C.getD dX11_redeem_144 fl_X11_357 u3 rfl ?_
                refine C.getD dX11_redeem_147 fl_X11_268 u4 rfl ?_
                refine C.callVX0 [.ref qr] dX11_redeem_150 mdX9_same imX9_same seX9_same kc_10 (show tV S G D (S 33) (fv g 2) from tS.v hG.2.2.2.1 (by decide) (by decide)).ob lk_X11_411 rfl rfl rfl rfl (cCt.w0 (R := fun r => r = some (.int (bI (decide (fv g 2 = rdT (T 23) R (rn (T 27) (hfn (T 21) (T 27) (fv g 8)) 1)))))) fun σ9 h9 => v_same ((show tV S G D (S 33) (fv g 2) from tS.v hG.2.2.2.1 (by decide) (by decide)).tx h9) (u5.mono h9.2.1)) ?_
                rintro _ G9 D9 ⟨rfl, e9, e8⟩
                have e9 := e9.symm; subst e9; have e8 := e8.symm; subst e8
                refine C.if_eq (tgt := 186) dX11_redeem_153 (by decide) (fun c_153 => ?_) (fun c_153 => ?_)
                · skip
                  refine C.aload_nR dX11_redeem_186 rfl ?_
                  refine C.sipush (v := 400) dX11_redeem_187 (by decide) ?_
                  refine C.bipush (v := 7) dX11_redeem_190 (by decide) ?_
                  refine C.callVS0 (k9 := 0) [.int 400, .int 7] dX11_redeem_192 mdX11_deny imX11_deny seX11_deny kc_12 rfl p_n lk_X11_288 rfl rfl rfl rfl (k_deny_7 hS hSt (N := N) (show G 0 = oGs S N from p_n) (show tO S G 2 14 6200 (B 1) from p_b) 400) ?_
                  rintro _ _ D9 ⟨f9, hf1, hf2, rfl, rfl, e8⟩; have e8 := e8.symm; subst e8
                  refine C.iret dX11_redeem_195 rfl ?_
                  rw [opRed, if_neg hE0, if_neg (fun q => q hk), opRed2, if_neg hc1, if_neg (fun q => q h5), if_pos (show (ro (T 27) (hfn (T 21) (T 27) (fv g 8)) 4 ≤ N 25 ∨ ¬ fv g 2 = rdT (T 23) R (rn (T 27) (hfn (T 21) (T 27) (fv g 8)) 1) ∨ ¬ b64 (shaL (fv g 9)) 43 = (T 25).getD (rn (T 27) (hfn (T 21) (T 27) (fv g 8)) 1) []) from by first | exact Or.inl c_130 | exact Or.inr (Or.inl (of_decide_eq_false ((bI_eq0 _).mp c_153))) | exact Or.inr (Or.inr (of_decide_eq_false ((bI_eq0 _).mp c_183))))]
                  exact ⟨rfl, A, L, p_a, (tO.gW (by decide) (by decide) (by decide) hf1 hf2), rfl, p_k, p_f, p_h, p_w, p_c, p_r, p_q, p_o, p_m, p_t, p_d⟩
                · skip
                  refine C.aload_nR dX11_redeem_156 rfl ?_
                  refine C.getS (k9 := 0) (fs := [.ref (S 1), .ref (S 2), .ref (S 3), .ref (S 4), .ref (S 5), .ref (S 6), .ref (S 7), .ref (S 8), .ref (S 9), .ref (S 10), .ref (S 11), .ref (S 12), .int (N 26), .int (N 27), .int (N 28), .int (N 25), .int (N 5), .int (N 6)]) dX11_redeem_157 fl_X11_38 rfl p_n rfl ?_
                  refine C.aload_nR dX11_redeem_160 rfl ?_
                  refine C.getS (k9 := 0) (fs := [.ref (S 1), .ref (S 2), .ref (S 3), .ref (S 4), .ref (S 5), .ref (S 6), .ref (S 7), .ref (S 8), .ref (S 9), .ref (S 10), .ref (S 11), .ref (S 12), .int (N 26), .int (N 27), .int (N 28), .int (N 25), .int (N 5), .int (N 6)]) dX11_redeem_161 fl_X11_24 rfl p_n rfl ?_
                  refine C.getS (k9 := 3) (fs := [.ref (S 15), .ref (S 17), .ref (S 18), .ref (S 19), .ref (S 20), .ref (S 21), .ref (S 22), .ref (S 23), .ref (S 24), .ref (S 25), .ref (S 26), .ref (S 27), .ref (S 28), .ref (S 29), .ref (S 30), .ref (S 44)]) dX11_redeem_164 fl_X11_468 rfl p_k.1 rfl ?_
                  refine C.getS (k9 := 27) (fs := [.ref (kSa Λ RX4 74), .ref (S 40), .int (bI to_9)]) dX11_redeem_167 fl_X11_199 rfl fq_9 rfl ?_
                  refine C.callVS0 (k9 := 5) [.ref (S 40)] dX11_redeem_170 mdX8_signs imX8_signs seX8_signs kc_9 rfl p_k.2.2.1 lk_X11_481 rfl rfl rfl rfl (k_signs hS (show tV S G D (S 40) (fv g 9) from tS.v hG.2.2.2.2.2.2.2.2.2.2.1 (by decide) (by decide)) (by obtain ⟨_, _, _, _, h9, _⟩ := hG.2.2.2.2.2.2.2.2.2.2.1; omega) hSt hSh p_k.2.2.1 p_h) ?_
                  rintro _ G2 D9 ⟨rfl, e8, hGe, hcH, hto⟩; have e8 := e8.symm; subst e8
                  have hR2 := cR_sha hR0 hGe hcH
                  clear a1 a2 a3 a4 a5 a6 b1 b2 b3 b4 b5 b6 p_a p_b p_n p_k p_h
                  have hR3 := hR2; obtain ⟨p_a, p_b, p_n, p_k, p_f, p_h, p_w, p_c, p_r, p_q, p_o, p_m, p_t, p_d⟩ := hR3
                  have p_a9 := p_a; obtain ⟨ft, a1, a2, a3, a4, a5, a6⟩ := p_a9
                  have p_b9 := p_b; obtain ⟨fo9, b1, b2, b3, b4, b5, b6⟩ := p_b9
                  have hto9 := hto; obtain ⟨fz, tz1, tz2⟩ := hto9
                  refine C.aload_nR dX11_redeem_173 rfl ?_
                  refine C.getD dX11_redeem_174 fl_X11_357 u3 rfl ?_
                  refine C.getD dX11_redeem_177 fl_X11_484 u4 rfl ?_
                  refine C.callVS0 (k9 := 49) [.ref qc] dX11_redeem_180 mdX9_same imX9_same seX9_same kc_10 rfl tz1 lk_X11_411 rfl rfl rfl rfl (cCt.w0 (R := fun r => r = some (.int (bI (decide (b64 (shaL (fv g 9)) 43 = (T 25).getD (rn (T 27) (hfn (T 21) (T 27) (fv g 8)) 1) []))))) fun σ9 h9 => v_same (hto.s.tx h9 rfl rfl) (u6.mono h9.2.1)) ?_
                  rintro _ G9 D9 ⟨rfl, e9, e8⟩
                  have e9 := e9.symm; subst e9; have e8 := e8.symm; subst e8
                  refine C.if_ne (tgt := 196) dX11_redeem_183 (by decide) (fun c_183 => ?_) (fun c_183 => ?_)
                  · skip
                    have hx3 : ¬ (ro (T 27) (hfn (T 21) (T 27) (fv g 8)) 4 ≤ N 25 ∨ ¬ fv g 2 = rdT (T 23) R (rn (T 27) (hfn (T 21) (T 27) (fv g 8)) 1) ∨ ¬ b64 (shaL (fv g 9)) 43 = (T 25).getD (rn (T 27) (hfn (T 21) (T 27) (fv g 8)) 1) []) := fun q => q.elim c_130 (fun q => q.elim (fun q => q (of_decide_eq_true (bt1 c_153))) (fun q => q (of_decide_eq_true (bt1 c_183))))
                    refine C.aload_nR dX11_redeem_196 rfl ?_
                    refine C.aload_nR dX11_redeem_197 rfl ?_
                    refine C.getD dX11_redeem_198 fl_X11_487 u1 rfl ?_
                    refine C.callVS0 (k9 := 0) [.int (bI (decide (ro (T 5) c 2 = 1)))] dX11_redeem_201 mdX11_canGiveTokens imX11_canGiveTokens seX11_canGiveTokens kc_12 rfl p_n lk_X11_490 rfl rfl rfl rfl (k_canGiveTokens hS hR2 hW0 (decide (ro (T 5) c 2 = 1))) ?_
                    rintro _ G9 D9 ⟨rfl, e9, e8⟩
                    have e9 := e9.symm; subst e9; have e8 := e8.symm; subst e8
                    refine C.if_ne (tgt := 217) dX11_redeem_204 (by decide) (fun c_204 => ?_) (fun c_204 => ?_)
                    · skip
                      obtain ⟨⟨ds, W2⟩, hgv⟩ := Option.isSome_iff_exists.mp (bt1 c_204)
                      refine C.less (bc' := 7 + 1) (bs' := 5194 + 6) (by omega) (by omega) ?_
                      refine C.new dX11_redeem_217 nw_X11_324 (fun q_1 hb_2 hl_3 => ?_)
                      have h_4 : (kup D q_1 (.inr (3, [.int 0, .int 0, .int 0, .int 0, .int 0, .int 0]))) ((A 7).getD c 0) = some (.inr (1, [.int (nI c), .ref i9, s9, .int (ro (T 5) c 1), .int (bI (decide (ro (T 5) c 2 = 1))), .ref ((A 13).getD c 0)])) := kup_i (Nat.ne_of_lt (hl_3 _ _ u1)) u1
                      have h_5 : (kup D q_1 (.inr (3, [.int 0, .int 0, .int 0, .int 0, .int 0, .int 0]))) ((A 9).getD (hfn (T 21) (T 27) (fv g 8)) 0) = some (.inr (2, [.ref ((A 8).getD (rn (T 27) (hfn (T 21) (T 27) (fv g 8)) 1) 0), .int (ro (T 27) (hfn (T 21) (T 27) (fv g 8)) 2), .int (ro (T 27) (hfn (T 21) (T 27) (fv g 8)) 3), .int (ro (T 27) (hfn (T 21) (T 27) (fv g 8)) 4), .null])) := kup_i (Nat.ne_of_lt (hl_3 _ _ u3)) u3
                      have h_6 : (kup D q_1 (.inr (3, [.int 0, .int 0, .int 0, .int 0, .int 0, .int 0]))) ((A 8).getD (rn (T 27) (hfn (T 21) (T 27) (fv g 8)) 1) 0) = some (.inr (8, [.ref ((A 7).getD (rn (T 23) (rn (T 27) (hfn (T 21) (T 27) (fv g 8)) 1) 0) 0), .ref qr, .int (ro (T 23) (rn (T 27) (hfn (T 21) (T 27) (fv g 8)) 1) 2), .ref qc, .ref qs, .int (bI (decide (ro (T 23) (rn (T 27) (hfn (T 21) (T 27) (fv g 8)) 1) 3 = 1)))])) := kup_i (Nat.ne_of_lt (hl_3 _ _ u4)) u4
                      have h_7 : (kup D q_1 (.inr (3, [.int 0, .int 0, .int 0, .int 0, .int 0, .int 0]))) ((A 7).getD (rn (T 23) (rn (T 27) (hfn (T 21) (T 27) (fv g 8)) 1) 0) 0) = some (.inr (1, [.int (nI (rn (T 23) (rn (T 27) (hfn (T 21) (T 27) (fv g 8)) 1) 0)), .ref i8, s8, .int (ro (T 5) (rn (T 23) (rn (T 27) (hfn (T 21) (T 27) (fv g 8)) 1) 0) 1), .int (bI (decide (ro (T 5) (rn (T 23) (rn (T 27) (hfn (T 21) (T 27) (fv g 8)) 1) 0) 2 = 1))), .ref ((A 13).getD (rn (T 23) (rn (T 27) (hfn (T 21) (T 27) (fv g 8)) 1) 0) 0)])) := kup_i (Nat.ne_of_lt (hl_3 _ _ u8)) u8
                      have h_8 : (kup D q_1 (.inr (3, [.int 0, .int 0, .int 0, .int 0, .int 0, .int 0]))) q_1 = some (.inr (3, [.int 0, .int 0, .int 0, .int 0, .int 0, .int 0])) := kup_s _ _ _
                      refine C.dup dX11_redeem_220 rfl ?_
                      refine C.aload_nR dX11_redeem_221 rfl ?_
                      refine C.getS (k9 := 0) (fs := [.ref (S 1), .ref (S 2), .ref (S 3), .ref (S 4), .ref (S 5), .ref (S 6), .ref (S 7), .ref (S 8), .ref (S 9), .ref (S 10), .ref (S 11), .ref (S 12), .int (N 26), .int (N 27), .int (N 28), .int (N 25), .int (N 5), .int (N 6)]) dX11_redeem_222 fl_X11_58 rfl p_n rfl ?_
                      refine C.callLS0 (k9 := 10) [] dX11_redeem_225 mdJx4a65c_size_8abf5 imJx4a65c_size_8abf5 seJx4a65c_size_8abf5 rfl p_m.1 lk_X11_123 rfl rfl rfl rfl (cCt.w0 (R := fun r => r = some (.int (nI (rv (A 10)).length))) fun σ9 h9 => c_list_size (h9.at (k := 10) rfl p_m.1)) ?_
                      rintro _ G9 D9 ⟨rfl, e9, e8⟩
                      have e9 := e9.symm; subst e9; have e8 := e8.symm; subst e8
                      refine C.aload_nR dX11_redeem_228 rfl ?_
                      refine C.getD dX11_redeem_229 fl_X11_328 h_4 rfl ?_
                      refine C.aload_nR dX11_redeem_232 rfl ?_
                      refine C.getD dX11_redeem_233 fl_X11_364 h_5 rfl ?_
                      refine C.aload_nR dX11_redeem_236 rfl ?_
                      refine C.getD dX11_redeem_237 fl_X11_365 h_5 rfl ?_
                      rw [rv_len, hmf]
                      refine C.callI0 [.int (nI (T 28).length), .int (nI c), .int (ro (T 27) (hfn (T 21) (T 27) (fv g 8)) 2), .int (ro (T 27) (hfn (T 21) (T 27) (fv g 8)) 3)] dX11_redeem_240 mdX2_init ⟨rfl, rfl⟩ imX2_init lk_X11_494 rfl rfl rfl rfl (cCt.d1 (R := fun r => r = none) h_8 fun σ9 h9 => c_Family_init _ _ _ _ (h9.2.1 _ _ h_8)) ?_
                      rintro _ G9 _ ⟨rfl, e9, rfl⟩; have e9 := e9.symm; subst e9
                      have h_9 : (kup (kup D q_1 (.inr (3, [.int 0, .int 0, .int 0, .int 0, .int 0, .int 0]))) q_1 (.inr (3, [.int (nI (T 28).length), .int (nI c), .int (ro (T 27) (hfn (T 21) (T 27) (fv g 8)) 2), .int (ro (T 27) (hfn (T 21) (T 27) (fv g 8)) 3), .int (bI false), .int 0]))) ((A 7).getD c 0) = some (.inr (1, [.int (nI c), .ref i9, s9, .int (ro (T 5) c 1), .int (bI (decide (ro (T 5) c 2 = 1))), .ref ((A 13).getD c 0)])) := kup_i (Nat.ne_of_lt (hl_3 _ _ u1)) h_4
                      have h_10 : (kup (kup D q_1 (.inr (3, [.int 0, .int 0, .int 0, .int 0, .int 0, .int 0]))) q_1 (.inr (3, [.int (nI (T 28).length), .int (nI c), .int (ro (T 27) (hfn (T 21) (T 27) (fv g 8)) 2), .int (ro (T 27) (hfn (T 21) (T 27) (fv g 8)) 3), .int (bI false), .int 0]))) ((A 9).getD (hfn (T 21) (T 27) (fv g 8)) 0) = some (.inr (2, [.ref ((A 8).getD (rn (T 27) (hfn (T 21) (T 27) (fv g 8)) 1) 0), .int (ro (T 27) (hfn (T 21) (T 27) (fv g 8)) 2), .int (ro (T 27) (hfn (T 21) (T 27) (fv g 8)) 3), .int (ro (T 27) (hfn (T 21) (T 27) (fv g 8)) 4), .null])) := kup_i (Nat.ne_of_lt (hl_3 _ _ u3)) h_5
                      have h_11 : (kup (kup D q_1 (.inr (3, [.int 0, .int 0, .int 0, .int 0, .int 0, .int 0]))) q_1 (.inr (3, [.int (nI (T 28).length), .int (nI c), .int (ro (T 27) (hfn (T 21) (T 27) (fv g 8)) 2), .int (ro (T 27) (hfn (T 21) (T 27) (fv g 8)) 3), .int (bI false), .int 0]))) ((A 8).getD (rn (T 27) (hfn (T 21) (T 27) (fv g 8)) 1) 0) = some (.inr (8, [.ref ((A 7).getD (rn (T 23) (rn (T 27) (hfn (T 21) (T 27) (fv g 8)) 1) 0) 0), .ref qr, .int (ro (T 23) (rn (T 27) (hfn (T 21) (T 27) (fv g 8)) 1) 2), .ref qc, .ref qs, .int (bI (decide (ro (T 23) (rn (T 27) (hfn (T 21) (T 27) (fv g 8)) 1) 3 = 1)))])) := kup_i (Nat.ne_of_lt (hl_3 _ _ u4)) h_6
                      have h_12 : (kup (kup D q_1 (.inr (3, [.int 0, .int 0, .int 0, .int 0, .int 0, .int 0]))) q_1 (.inr (3, [.int (nI (T 28).length), .int (nI c), .int (ro (T 27) (hfn (T 21) (T 27) (fv g 8)) 2), .int (ro (T 27) (hfn (T 21) (T 27) (fv g 8)) 3), .int (bI false), .int 0]))) ((A 7).getD (rn (T 23) (rn (T 27) (hfn (T 21) (T 27) (fv g 8)) 1) 0) 0) = some (.inr (1, [.int (nI (rn (T 23) (rn (T 27) (hfn (T 21) (T 27) (fv g 8)) 1) 0)), .ref i8, s8, .int (ro (T 5) (rn (T 23) (rn (T 27) (hfn (T 21) (T 27) (fv g 8)) 1) 0) 1), .int (bI (decide (ro (T 5) (rn (T 23) (rn (T 27) (hfn (T 21) (T 27) (fv g 8)) 1) 0) 2 = 1))), .ref ((A 13).getD (rn (T 23) (rn (T 27) (hfn (T 21) (T 27) (fv g 8)) 1) 0) 0)])) := kup_i (Nat.ne_of_lt (hl_3 _ _ u8)) h_7
                      have h_13 : (kup (kup D q_1 (.inr (3, [.int 0, .int 0, .int 0, .int 0, .int 0, .int 0]))) q_1 (.inr (3, [.int (nI (T 28).length), .int (nI c), .int (ro (T 27) (hfn (T 21) (T 27) (fv g 8)) 2), .int (ro (T 27) (hfn (T 21) (T 27) (fv g 8)) 3), .int (bI false), .int 0]))) q_1 = some (.inr (3, [.int (nI (T 28).length), .int (nI c), .int (ro (T 27) (hfn (T 21) (T 27) (fv g 8)) 2), .int (ro (T 27) (hfn (T 21) (T 27) (fv g 8)) 3), .int (bI false), .int 0])) := kup_s _ _ _
                      have dm1 : dm D (kup (kup D q_1 (.inr (3, [.int 0, .int 0, .int 0, .int 0, .int 0, .int 0]))) q_1 (.inr (3, [.int (nI (T 28).length), .int (nI c), .int (ro (T 27) (hfn (T 21) (T 27) (fv g 8)) 2), .int (ro (T 27) (hfn (T 21) (T 27) (fv g 8)) 3), .int (bI false), .int 0]))) := fun a c ha => kup_i (Nat.ne_of_lt (hl_3 _ _ ha)) (kup_i (Nat.ne_of_lt (hl_3 _ _ ha)) ha)
                      refine C.astore_n (L' := [some (.ref (S 0)), some (.ref ((A 7).getD c 0)), some (.ref ((A 9).getD (hfn (T 21) (T 27) (fv g 8)) 0)), some (.ref q_1)]) dX11_redeem_243 (by decide) rfl rfl ?_
                      refine C.aload_nR dX11_redeem_244 rfl ?_
                      refine C.getS (k9 := 0) (fs := [.ref (S 1), .ref (S 2), .ref (S 3), .ref (S 4), .ref (S 5), .ref (S 6), .ref (S 7), .ref (S 8), .ref (S 9), .ref (S 10), .ref (S 11), .ref (S 12), .int (N 26), .int (N 27), .int (N 28), .int (N 25), .int (N 5), .int (N 6)]) dX11_redeem_245 fl_X11_58 rfl p_n rfl ?_
                      refine C.aload_nR dX11_redeem_248 rfl ?_
                      refine C.less (bc' := 6 + 1) (bs' := (5194 - (2 * (rv (A 10)).length + 10)) + (2 * (rv (A 10)).length + 10)) (by omega) (by omega) ?_
                      refine C.callLS (k9 := 10) [.ref q_1] dX11_redeem_249 mdJx4a65c_add_9ea2d imJx4a65c_add_9ea2d seJx4a65c_add_9ea2d rfl p_m.1 lk_X11_129 rfl rfl rfl rfl (cCt.w1 (R := fun r => r = some (.int 1)) (i := 10) hS (by decide) fun σ9 h9 => c_list_add (h9.at (k := 10) rfl p_m.1) kc_3 ca_3 hJ (((cFm_el p_m.2).mono dm1).mono h9.2.1) (h9.2.1 _ _ h_13) (by rw [rv_len]; omega)) ?_
                      rintro _ _ D9 ⟨rfl, rfl, e8⟩
                      have e8 := e8.symm; subst e8
                      refine C.pop dX11_redeem_252 rfl ?_
                      refine C.aload_nR dX11_redeem_253 rfl ?_
                      refine C.aload_nR dX11_redeem_254 rfl ?_
                      refine C.putD (fs' := [.ref ((A 8).getD (rn (T 27) (hfn (T 21) (T 27) (fv g 8)) 1) 0), .int (ro (T 27) (hfn (T 21) (T 27) (fv g 8)) 2), .int (ro (T 27) (hfn (T 21) (T 27) (fv g 8)) 3), .int (ro (T 27) (hfn (T 21) (T 27) (fv g 8)) 4), .ref q_1]) dX11_redeem_255 fp_X11_366 (fun h => by cases h) h_10 rfl rfl (Nat.le_of_ble_eq_true rfl) rfl ?_
                      have h_14 : (kup (kup (kup D q_1 (.inr (3, [.int 0, .int 0, .int 0, .int 0, .int 0, .int 0]))) q_1 (.inr (3, [.int (nI (T 28).length), .int (nI c), .int (ro (T 27) (hfn (T 21) (T 27) (fv g 8)) 2), .int (ro (T 27) (hfn (T 21) (T 27) (fv g 8)) 3), .int (bI false), .int 0]))) ((A 9).getD (hfn (T 21) (T 27) (fv g 8)) 0) (.inr (2, [.ref ((A 8).getD (rn (T 27) (hfn (T 21) (T 27) (fv g 8)) 1) 0), .int (ro (T 27) (hfn (T 21) (T 27) (fv g 8)) 2), .int (ro (T 27) (hfn (T 21) (T 27) (fv g 8)) 3), .int (ro (T 27) (hfn (T 21) (T 27) (fv g 8)) 4), .ref q_1]))) ((A 7).getD c 0) = some (.inr (1, [.int (nI c), .ref i9, s9, .int (ro (T 5) c 1), .int (bI (decide (ro (T 5) c 2 = 1))), .ref ((A 13).getD c 0)])) := kup_i (kne_oo h_9 h_10 (by decide)) h_9
                      have h_15 : (kup (kup (kup D q_1 (.inr (3, [.int 0, .int 0, .int 0, .int 0, .int 0, .int 0]))) q_1 (.inr (3, [.int (nI (T 28).length), .int (nI c), .int (ro (T 27) (hfn (T 21) (T 27) (fv g 8)) 2), .int (ro (T 27) (hfn (T 21) (T 27) (fv g 8)) 3), .int (bI false), .int 0]))) ((A 9).getD (hfn (T 21) (T 27) (fv g 8)) 0) (.inr (2, [.ref ((A 8).getD (rn (T 27) (hfn (T 21) (T 27) (fv g 8)) 1) 0), .int (ro (T 27) (hfn (T 21) (T 27) (fv g 8)) 2), .int (ro (T 27) (hfn (T 21) (T 27) (fv g 8)) 3), .int (ro (T 27) (hfn (T 21) (T 27) (fv g 8)) 4), .ref q_1]))) ((A 9).getD (hfn (T 21) (T 27) (fv g 8)) 0) = some (.inr (2, [.ref ((A 8).getD (rn (T 27) (hfn (T 21) (T 27) (fv g 8)) 1) 0), .int (ro (T 27) (hfn (T 21) (T 27) (fv g 8)) 2), .int (ro (T 27) (hfn (T 21) (T 27) (fv g 8)) 3), .int (ro (T 27) (hfn (T 21) (T 27) (fv g 8)) 4), .ref q_1])) := kup_s _ _ _
                      have h_16 : (kup (kup (kup D q_1 (.inr (3, [.int 0, .int 0, .int 0, .int 0, .int 0, .int 0]))) q_1 (.inr (3, [.int (nI (T 28).length), .int (nI c), .int (ro (T 27) (hfn (T 21) (T 27) (fv g 8)) 2), .int (ro (T 27) (hfn (T 21) (T 27) (fv g 8)) 3), .int (bI false), .int 0]))) ((A 9).getD (hfn (T 21) (T 27) (fv g 8)) 0) (.inr (2, [.ref ((A 8).getD (rn (T 27) (hfn (T 21) (T 27) (fv g 8)) 1) 0), .int (ro (T 27) (hfn (T 21) (T 27) (fv g 8)) 2), .int (ro (T 27) (hfn (T 21) (T 27) (fv g 8)) 3), .int (ro (T 27) (hfn (T 21) (T 27) (fv g 8)) 4), .ref q_1]))) ((A 8).getD (rn (T 27) (hfn (T 21) (T 27) (fv g 8)) 1) 0) = some (.inr (8, [.ref ((A 7).getD (rn (T 23) (rn (T 27) (hfn (T 21) (T 27) (fv g 8)) 1) 0) 0), .ref qr, .int (ro (T 23) (rn (T 27) (hfn (T 21) (T 27) (fv g 8)) 1) 2), .ref qc, .ref qs, .int (bI (decide (ro (T 23) (rn (T 27) (hfn (T 21) (T 27) (fv g 8)) 1) 3 = 1)))])) := kup_i (kne_oo h_11 h_10 (by decide)) h_11
                      have h_17 : (kup (kup (kup D q_1 (.inr (3, [.int 0, .int 0, .int 0, .int 0, .int 0, .int 0]))) q_1 (.inr (3, [.int (nI (T 28).length), .int (nI c), .int (ro (T 27) (hfn (T 21) (T 27) (fv g 8)) 2), .int (ro (T 27) (hfn (T 21) (T 27) (fv g 8)) 3), .int (bI false), .int 0]))) ((A 9).getD (hfn (T 21) (T 27) (fv g 8)) 0) (.inr (2, [.ref ((A 8).getD (rn (T 27) (hfn (T 21) (T 27) (fv g 8)) 1) 0), .int (ro (T 27) (hfn (T 21) (T 27) (fv g 8)) 2), .int (ro (T 27) (hfn (T 21) (T 27) (fv g 8)) 3), .int (ro (T 27) (hfn (T 21) (T 27) (fv g 8)) 4), .ref q_1]))) ((A 7).getD (rn (T 23) (rn (T 27) (hfn (T 21) (T 27) (fv g 8)) 1) 0) 0) = some (.inr (1, [.int (nI (rn (T 23) (rn (T 27) (hfn (T 21) (T 27) (fv g 8)) 1) 0)), .ref i8, s8, .int (ro (T 5) (rn (T 23) (rn (T 27) (hfn (T 21) (T 27) (fv g 8)) 1) 0) 1), .int (bI (decide (ro (T 5) (rn (T 23) (rn (T 27) (hfn (T 21) (T 27) (fv g 8)) 1) 0) 2 = 1))), .ref ((A 13).getD (rn (T 23) (rn (T 27) (hfn (T 21) (T 27) (fv g 8)) 1) 0) 0)])) := kup_i (kne_oo h_12 h_10 (by decide)) h_12
                      have h_18 : (kup (kup (kup D q_1 (.inr (3, [.int 0, .int 0, .int 0, .int 0, .int 0, .int 0]))) q_1 (.inr (3, [.int (nI (T 28).length), .int (nI c), .int (ro (T 27) (hfn (T 21) (T 27) (fv g 8)) 2), .int (ro (T 27) (hfn (T 21) (T 27) (fv g 8)) 3), .int (bI false), .int 0]))) ((A 9).getD (hfn (T 21) (T 27) (fv g 8)) 0) (.inr (2, [.ref ((A 8).getD (rn (T 27) (hfn (T 21) (T 27) (fv g 8)) 1) 0), .int (ro (T 27) (hfn (T 21) (T 27) (fv g 8)) 2), .int (ro (T 27) (hfn (T 21) (T 27) (fv g 8)) 3), .int (ro (T 27) (hfn (T 21) (T 27) (fv g 8)) 4), .ref q_1]))) q_1 = some (.inr (3, [.int (nI (T 28).length), .int (nI c), .int (ro (T 27) (hfn (T 21) (T 27) (fv g 8)) 2), .int (ro (T 27) (hfn (T 21) (T 27) (fv g 8)) 3), .int (bI false), .int 0])) := kup_i (Ne.symm (Nat.ne_of_lt (hl_3 _ _ u3))) h_13
                      refine C.aload_nR dX11_redeem_258 rfl ?_
                      refine C.aload_nR dX11_redeem_259 rfl ?_
                      refine C.aload_nR dX11_redeem_260 rfl ?_
                      refine C.getD dX11_redeem_261 fl_X11_372 h_18 rfl ?_
                      refine C.aload_nR dX11_redeem_264 rfl ?_
                      refine C.getD dX11_redeem_265 fl_X11_487 h_14 rfl ?_
                      have hdk : dk 2 (kup (kup D q_1 (.inr (3, [.int 0, .int 0, .int 0, .int 0, .int 0, .int 0]))) q_1 (.inr (3, [.int (nI (T 28).length), .int (nI c), .int (ro (T 27) (hfn (T 21) (T 27) (fv g 8)) 2), .int (ro (T 27) (hfn (T 21) (T 27) (fv g 8)) 3), .int (bI false), .int 0]))) (kup (kup (kup D q_1 (.inr (3, [.int 0, .int 0, .int 0, .int 0, .int 0, .int 0]))) q_1 (.inr (3, [.int (nI (T 28).length), .int (nI c), .int (ro (T 27) (hfn (T 21) (T 27) (fv g 8)) 2), .int (ro (T 27) (hfn (T 21) (T 27) (fv g 8)) 3), .int (bI false), .int 0]))) ((A 9).getD (hfn (T 21) (T 27) (fv g 8)) 0) (.inr (2, [.ref ((A 8).getD (rn (T 27) (hfn (T 21) (T 27) (fv g 8)) 1) 0), .int (ro (T 27) (hfn (T 21) (T 27) (fv g 8)) 2), .int (ro (T 27) (hfn (T 21) (T 27) (fv g 8)) 3), .int (ro (T 27) (hfn (T 21) (T 27) (fv g 8)) 4), .ref q_1]))) := dk.up h_10
                      have hcF := cCo_fam (q := q_1) (p_o.2.mono dm1) w_l.1 hk (fun n9 h9 => by rcases w_k.2.2.2.1 n9 h9 with z | ⟨f9, z1, z2⟩; exact Or.inl (by rw [z]; decide); exact Or.inr (by rw [rn, z2, nI_clamp (by omega), hmf]; exact z1)) (by rw [hmf]; omega)
                      rw [hmf] at hcF
                      have hRt : cR Λ S (updG G2 10 (kLi ((rv (A 10)) ++ [Value.ref q_1]))) (kup (kup (kup D q_1 (.inr (3, [.int 0, .int 0, .int 0, .int 0, .int 0, .int 0]))) q_1 (.inr (3, [.int (nI (T 28).length), .int (nI c), .int (ro (T 27) (hfn (T 21) (T 27) (fv g 8)) 2), .int (ro (T 27) (hfn (T 21) (T 27) (fv g 8)) 3), .int (bI false), .int 0]))) ((A 9).getD (hfn (T 21) (T 27) (fv g 8)) 0) (.inr (2, [.ref ((A 8).getD (rn (T 27) (hfn (T 21) (T 27) (fv g 8)) 1) 0), .int (ro (T 27) (hfn (T 21) (T 27) (fv g 8)) 2), .int (ro (T 27) (hfn (T 21) (T 27) (fv g 8)) 3), .int (ro (T 27) (hfn (T 21) (T 27) (fv g 8)) 4), .ref q_1]))) (setA A 10 (A 10 ++ [q_1])) L N B (setT (setT T 27 (stc (T 27) (hfn (T 21) (T 27) (fv g 8)) 5 (nI (T 28).length))) 28 (T 28 ++ [[nI c, ro (T 27) (hfn (T 21) (T 27) (fv g 8)) 2, ro (T 27) (hfn (T 21) (T 27) (fv g 8)) 3, 0, 0]])) R := ⟨p_a, p_b, p_n, p_k, p_f, p_h, ⟨p_w.1, ((p_w.2.mono dm1).dk hdk (by decide) (by decide))⟩, ⟨p_c.1, ((p_c.2.mono dm1).dk hdk (by decide) (by decide) (by decide))⟩, ((p_r.mono dm1).dk hdk (by decide) (by decide) (by decide)), ⟨p_q.1, ((p_q.2.mono dm1).dk hdk (by decide) (by decide) (by decide))⟩, ⟨p_o.1, hcF⟩, ⟨congrArg kLi (rv_app _ _), (cFm_app p_m.2 dm1 hl_3 h_13).dk hdk (by decide)⟩, ⟨p_t.1, p_t.2.1, (((cTo_lf p_t.2.2 (fun n9 h9 => by rw [hmf]; exact w_t.2.2.1.rn h9 (by omega)) (fun n9 h9 => by rw [hmf]; exact w_t.2.2.2.2.2.2.1.rn h9 (by omega)) q_1).mono dm1).dk hdk (by decide))⟩, ⟨p_d.1, p_d.2.1, ((p_d.2.2.mono dm1).dk hdk (by decide) (by decide) (by decide) (by decide))⟩⟩
                      have hqa : ((setA A 10 (A 10 ++ [q_1])) 10).getD (T 28).length 0 = q_1 := by show (A 10 ++ [q_1]).getD (T 28).length 0 = q_1; rw [← hmf]; exact gN_appr
                      have hct := k_giveTokens hS hRt hSt hJ w_w w_n w_x.1 hb1 hU8 hm22 hb2 hb3 (f := (T 28).length) (by omega) (ro (T 27) (hfn (T 21) (T 27) (fv g 8)) 3) (decide (ro (T 5) c 2 = 1)) hgv
                      rw [hqa] at hct
                      refine C.less (bc' := 0 + 6) (bs' := ((5194 - (2 * (rv (A 10)).length + 10)) - 4700) + 4700) (by omega) (by omega) ?_
                      refine C.callVS (k9 := 0) [.ref q_1, .int (ro (T 27) (hfn (T 21) (T 27) (fv g 8)) 3), .int (bI (decide (ro (T 5) c 2 = 1)))] dX11_redeem_268 mdX11_giveTokens imX11_giveTokens seX11_giveTokens kc_12 rfl p_n lk_X11_497 rfl rfl rfl rfl hct ?_
                      rintro r9 G9 D9 hq9; obtain ⟨w9, rfl⟩ : ∃ w9, r9 = some w9 := ⟨_, hq9.1⟩
                      have hw9 := hq9.1; injection hw9 with hw9; subst hw9
                      refine C.iret dX11_redeem_271 rfl ?_
                      rw [opRed, if_neg hE0, if_neg (fun q => q hk), opRed2, if_neg hc1, if_neg (fun q => q h5), if_neg hx3]
                      rw [hgv]
                      exact hq9
                    · skip
                      have hgv : (gv (T 21) (T 20) (T 29).length (T 30).length (decide (ro (T 5) c 2 = 1))) = none := Option.not_isSome_iff_eq_none.mp (by rw [(bI_eq0 _).mp c_204]; decide)
                      refine C.aload_nR dX11_redeem_207 rfl ?_
                      refine C.sipush (v := 503) dX11_redeem_208 (by decide) ?_
                      refine C.bipush (v := 11) dX11_redeem_211 (by decide) ?_
                      refine C.callVS0 (k9 := 0) [.int 503, .int 11] dX11_redeem_213 mdX11_deny imX11_deny seX11_deny kc_12 rfl p_n lk_X11_288 rfl rfl rfl rfl (k_deny_11 hS hSt (N := N) (show G2 0 = oGs S N from p_n) (show tO S G2 2 14 6200 (B 1) from p_b) 503) ?_
                      rintro _ _ D9 ⟨f9, hf1, hf2, rfl, rfl, e8⟩; have e8 := e8.symm; subst e8
                      refine C.iret dX11_redeem_216 rfl ?_
                      rw [opRed, if_neg hE0, if_neg (fun q => q hk), opRed2, if_neg hc1, if_neg (fun q => q h5), if_neg hx3]
                      rw [hgv]
                      exact ⟨rfl, A, L, p_a, (tO.gW (by decide) (by decide) (by decide) hf1 hf2), rfl, p_k, p_f, p_h, p_w, p_c, p_r, p_q, p_o, p_m, p_t, p_d⟩
                  · skip
                    refine C.aload_nR dX11_redeem_186 rfl ?_
                    refine C.sipush (v := 400) dX11_redeem_187 (by decide) ?_
                    refine C.bipush (v := 7) dX11_redeem_190 (by decide) ?_
                    refine C.callVS0 (k9 := 0) [.int 400, .int 7] dX11_redeem_192 mdX11_deny imX11_deny seX11_deny kc_12 rfl p_n lk_X11_288 rfl rfl rfl rfl (k_deny_7 hS hSt (N := N) (show G2 0 = oGs S N from p_n) (show tO S G2 2 14 6200 (B 1) from p_b) 400) ?_
                    rintro _ _ D9 ⟨f9, hf1, hf2, rfl, rfl, e8⟩; have e8 := e8.symm; subst e8
                    refine C.iret dX11_redeem_195 rfl ?_
                    rw [opRed, if_neg hE0, if_neg (fun q => q hk), opRed2, if_neg hc1, if_neg (fun q => q h5), if_pos (show (ro (T 27) (hfn (T 21) (T 27) (fv g 8)) 4 ≤ N 25 ∨ ¬ fv g 2 = rdT (T 23) R (rn (T 27) (hfn (T 21) (T 27) (fv g 8)) 1) ∨ ¬ b64 (shaL (fv g 9)) 43 = (T 25).getD (rn (T 27) (hfn (T 21) (T 27) (fv g 8)) 1) []) from by first | exact Or.inl c_130 | exact Or.inr (Or.inl (of_decide_eq_false ((bI_eq0 _).mp c_153))) | exact Or.inr (Or.inr (of_decide_eq_false ((bI_eq0 _).mp c_183))))]
                    exact ⟨rfl, A, L, p_a, (tO.gW (by decide) (by decide) (by decide) hf1 hf2), rfl, p_k, p_f, p_h, p_w, p_c, p_r, p_q, p_o, p_m, p_t, p_d⟩
            · skip
              refine C.aload_nR dX11_redeem_87 rfl ?_
              refine C.sipush (v := 400) dX11_redeem_88 (by decide) ?_
              refine C.bipush (v := 7) dX11_redeem_91 (by decide) ?_
              refine C.callVS0 (k9 := 0) [.int 400, .int 7] dX11_redeem_93 mdX11_deny imX11_deny seX11_deny kc_12 rfl p_n lk_X11_288 rfl rfl rfl rfl (k_deny_7 hS hSt (N := N) (show G 0 = oGs S N from p_n) (show tO S G 2 14 6200 (B 1) from p_b) 400) ?_
              rintro _ _ D9 ⟨f9, hf1, hf2, rfl, rfl, e8⟩; have e8 := e8.symm; subst e8
              refine C.iret dX11_redeem_96 rfl ?_
              rw [opRed, if_neg hE0, if_neg (fun q => q hk), opRed2, if_pos (fun q => c_84 (lt_c.2.symm.trans q))]
              exact ⟨rfl, A, L, p_a, (tO.gW (by decide) (by decide) (by decide) hf1 hf2), rfl, p_k, p_f, p_h, p_w, p_c, p_r, p_q, p_o, p_m, p_t, p_d⟩
          · rw [famRef, if_neg h5] at u3
            have lt_f : (rn (T 27) (hfn (T 21) (T 27) (fv g 8)) 5) < (T 28).length := by rcases w_k.2.2.2.1 _ hk with q | ⟨f9, q1, q2⟩; exact absurd (by rw [q]; decide) h5; rw [rn, q2, nI_clamp (by omega)]; exact q1
            have u9 := p_m.2.2.2 _ lt_f
            refine C.astore_n (L' := [some (.ref (S 0)), some (.ref ((A 7).getD c 0)), some (.ref ((A 9).getD (hfn (T 21) (T 27) (fv g 8)) 0)), none]) dX11_redeem_65 (by decide) rfl rfl ?_
            refine C.aload_nR dX11_redeem_66 rfl ?_
            refine C.ifnullR dX11_redeem_67 ?_
            refine C.aload_nR dX11_redeem_70 rfl ?_
            refine C.getD dX11_redeem_71 fl_X11_357 u3 rfl ?_
            refine C.getD dX11_redeem_74 fl_X11_361 u4 rfl ?_
            refine C.getD dX11_redeem_77 fl_X11_328 u8 rfl ?_
            refine C.aload_nR dX11_redeem_80 rfl ?_
            refine C.getD dX11_redeem_81 fl_X11_328 u1 rfl ?_
            refine C.icmp_eq (tgt := 97) dX11_redeem_84 (by decide) (fun c_84 => ?_) (fun c_84 => ?_)
            · skip
              have hc1 : ¬ ¬ ro (T 23) (rn (T 27) (hfn (T 21) (T 27) (fv g 8)) 1) 0 = nI c := fun q => q (lt_c.2.trans c_84)
              refine C.aload_nR dX11_redeem_97 rfl ?_
              refine C.getD dX11_redeem_98 fl_X11_366 u3 rfl ?_
              refine C.ifnullR dX11_redeem_101 ?_
              refine C.aload_nR dX11_redeem_104 rfl ?_
              refine C.getD dX11_redeem_105 fl_X11_366 u3 rfl ?_
              refine C.iconst (v := 1) dX11_redeem_108 (by decide) ?_
              refine C.putD (fs' := [.int (nI (rn (T 27) (hfn (T 21) (T 27) (fv g 8)) 5)), .int (ro (T 28) (rn (T 27) (hfn (T 21) (T 27) (fv g 8)) 5) 0), .int (ro (T 28) (rn (T 27) (hfn (T 21) (T 27) (fv g 8)) 5) 1), .int (ro (T 28) (rn (T 27) (hfn (T 21) (T 27) (fv g 8)) 5) 2), .int 1, .int (ro (T 28) (rn (T 27) (hfn (T 21) (T 27) (fv g 8)) 5) 3)]) dX11_redeem_109 fp_X11_331 (fun h => by cases h) u9 rfl rfl (Nat.le_of_ble_eq_true rfl) rfl ?_
              have h_19 : (kup D ((A 10).getD (rn (T 27) (hfn (T 21) (T 27) (fv g 8)) 5) 0) (.inr (3, [.int (nI (rn (T 27) (hfn (T 21) (T 27) (fv g 8)) 5)), .int (ro (T 28) (rn (T 27) (hfn (T 21) (T 27) (fv g 8)) 5) 0), .int (ro (T 28) (rn (T 27) (hfn (T 21) (T 27) (fv g 8)) 5) 1), .int (ro (T 28) (rn (T 27) (hfn (T 21) (T 27) (fv g 8)) 5) 2), .int 1, .int (ro (T 28) (rn (T 27) (hfn (T 21) (T 27) (fv g 8)) 5) 3)]))) ((A 7).getD c 0) = some (.inr (1, [.int (nI c), .ref i9, s9, .int (ro (T 5) c 1), .int (bI (decide (ro (T 5) c 2 = 1))), .ref ((A 13).getD c 0)])) := kup_i (kne_oo u1 u9 (by decide)) u1
              have h_20 : (kup D ((A 10).getD (rn (T 27) (hfn (T 21) (T 27) (fv g 8)) 5) 0) (.inr (3, [.int (nI (rn (T 27) (hfn (T 21) (T 27) (fv g 8)) 5)), .int (ro (T 28) (rn (T 27) (hfn (T 21) (T 27) (fv g 8)) 5) 0), .int (ro (T 28) (rn (T 27) (hfn (T 21) (T 27) (fv g 8)) 5) 1), .int (ro (T 28) (rn (T 27) (hfn (T 21) (T 27) (fv g 8)) 5) 2), .int 1, .int (ro (T 28) (rn (T 27) (hfn (T 21) (T 27) (fv g 8)) 5) 3)]))) ((A 9).getD (hfn (T 21) (T 27) (fv g 8)) 0) = some (.inr (2, [.ref ((A 8).getD (rn (T 27) (hfn (T 21) (T 27) (fv g 8)) 1) 0), .int (ro (T 27) (hfn (T 21) (T 27) (fv g 8)) 2), .int (ro (T 27) (hfn (T 21) (T 27) (fv g 8)) 3), .int (ro (T 27) (hfn (T 21) (T 27) (fv g 8)) 4), .ref ((A 10).getD (rn (T 27) (hfn (T 21) (T 27) (fv g 8)) 5) 0)])) := kup_i (kne_oo u3 u9 (by decide)) u3
              have h_21 : (kup D ((A 10).getD (rn (T 27) (hfn (T 21) (T 27) (fv g 8)) 5) 0) (.inr (3, [.int (nI (rn (T 27) (hfn (T 21) (T 27) (fv g 8)) 5)), .int (ro (T 28) (rn (T 27) (hfn (T 21) (T 27) (fv g 8)) 5) 0), .int (ro (T 28) (rn (T 27) (hfn (T 21) (T 27) (fv g 8)) 5) 1), .int (ro (T 28) (rn (T 27) (hfn (T 21) (T 27) (fv g 8)) 5) 2), .int 1, .int (ro (T 28) (rn (T 27) (hfn (T 21) (T 27) (fv g 8)) 5) 3)]))) ((A 8).getD (rn (T 27) (hfn (T 21) (T 27) (fv g 8)) 1) 0) = some (.inr (8, [.ref ((A 7).getD (rn (T 23) (rn (T 27) (hfn (T 21) (T 27) (fv g 8)) 1) 0) 0), .ref qr, .int (ro (T 23) (rn (T 27) (hfn (T 21) (T 27) (fv g 8)) 1) 2), .ref qc, .ref qs, .int (bI (decide (ro (T 23) (rn (T 27) (hfn (T 21) (T 27) (fv g 8)) 1) 3 = 1)))])) := kup_i (kne_oo u4 u9 (by decide)) u4
              have h_22 : (kup D ((A 10).getD (rn (T 27) (hfn (T 21) (T 27) (fv g 8)) 5) 0) (.inr (3, [.int (nI (rn (T 27) (hfn (T 21) (T 27) (fv g 8)) 5)), .int (ro (T 28) (rn (T 27) (hfn (T 21) (T 27) (fv g 8)) 5) 0), .int (ro (T 28) (rn (T 27) (hfn (T 21) (T 27) (fv g 8)) 5) 1), .int (ro (T 28) (rn (T 27) (hfn (T 21) (T 27) (fv g 8)) 5) 2), .int 1, .int (ro (T 28) (rn (T 27) (hfn (T 21) (T 27) (fv g 8)) 5) 3)]))) ((A 7).getD (rn (T 23) (rn (T 27) (hfn (T 21) (T 27) (fv g 8)) 1) 0) 0) = some (.inr (1, [.int (nI (rn (T 23) (rn (T 27) (hfn (T 21) (T 27) (fv g 8)) 1) 0)), .ref i8, s8, .int (ro (T 5) (rn (T 23) (rn (T 27) (hfn (T 21) (T 27) (fv g 8)) 1) 0) 1), .int (bI (decide (ro (T 5) (rn (T 23) (rn (T 27) (hfn (T 21) (T 27) (fv g 8)) 1) 0) 2 = 1))), .ref ((A 13).getD (rn (T 23) (rn (T 27) (hfn (T 21) (T 27) (fv g 8)) 1) 0) 0)])) := kup_i (kne_oo u8 u9 (by decide)) u8
              have h_23 : (kup D ((A 10).getD (rn (T 27) (hfn (T 21) (T 27) (fv g 8)) 5) 0) (.inr (3, [.int (nI (rn (T 27) (hfn (T 21) (T 27) (fv g 8)) 5)), .int (ro (T 28) (rn (T 27) (hfn (T 21) (T 27) (fv g 8)) 5) 0), .int (ro (T 28) (rn (T 27) (hfn (T 21) (T 27) (fv g 8)) 5) 1), .int (ro (T 28) (rn (T 27) (hfn (T 21) (T 27) (fv g 8)) 5) 2), .int 1, .int (ro (T 28) (rn (T 27) (hfn (T 21) (T 27) (fv g 8)) 5) 3)]))) ((A 10).getD (rn (T 27) (hfn (T 21) (T 27) (fv g 8)) 5) 0) = some (.inr (3, [.int (nI (rn (T 27) (hfn (T 21) (T 27) (fv g 8)) 5)), .int (ro (T 28) (rn (T 27) (hfn (T 21) (T 27) (fv g 8)) 5) 0), .int (ro (T 28) (rn (T 27) (hfn (T 21) (T 27) (fv g 8)) 5) 1), .int (ro (T 28) (rn (T 27) (hfn (T 21) (T 27) (fv g 8)) 5) 2), .int 1, .int (ro (T 28) (rn (T 27) (hfn (T 21) (T 27) (fv g 8)) 5) 3)])) := kup_s _ _ _
              refine C.aload_nR dX11_redeem_112 rfl ?_
              refine C.sipush (v := 400) dX11_redeem_113 (by decide) ?_
              refine C.bipush (v := 7) dX11_redeem_116 (by decide) ?_
              refine C.callVS0 (k9 := 0) [.int 400, .int 7] dX11_redeem_118 mdX11_deny imX11_deny seX11_deny kc_12 rfl p_n lk_X11_288 rfl rfl rfl rfl (k_deny_7 hS hSt (N := N) (show G 0 = oGs S N from p_n) (show tO S G 2 14 6200 (B 1) from p_b) 400) ?_
              rintro _ _ D9 ⟨f9, hf1, hf2, rfl, rfl, e8⟩; have e8 := e8.symm; subst e8
              refine C.iret dX11_redeem_121 rfl ?_
              rw [opRed, if_neg hE0, if_neg (fun q => q hk), opRed2, if_neg hc1, if_pos h5]
              have hdk : dk 3 D _ := dk.up (c := (.inr (3, [.int (nI (rn (T 27) (hfn (T 21) (T 27) (fv g 8)) 5)), .int (ro (T 28) (rn (T 27) (hfn (T 21) (T 27) (fv g 8)) 5) 0), .int (ro (T 28) (rn (T 27) (hfn (T 21) (T 27) (fv g 8)) 5) 1), .int (ro (T 28) (rn (T 27) (hfn (T 21) (T 27) (fv g 8)) 5) 2), .int 1, .int (ro (T 28) (rn (T 27) (hfn (T 21) (T 27) (fv g 8)) 5) 3)]))) u9
              exact ⟨rfl, A, L, p_a, (tO.gW (by decide) (by decide) (by decide) hf1 hf2), rfl, p_k, p_f, p_h, ⟨p_w.1, p_w.2.dk hdk (by decide) (by decide)⟩, ⟨p_c.1, p_c.2.dk hdk (by decide) (by decide) (by decide)⟩, p_r.dk hdk (by decide) (by decide) (by decide), ⟨p_q.1, p_q.2.dk hdk (by decide) (by decide) (by decide)⟩, ⟨p_o.1, p_o.2.dk hdk (by decide)⟩, ⟨p_m.1, cFm_back p_m.2 w_l.2.1 lt_f⟩, ⟨p_t.1, p_t.2.1, p_t.2.2.dk hdk (by decide)⟩, ⟨p_d.1, p_d.2.1, p_d.2.2.dk hdk (by decide) (by decide) (by decide) (by decide)⟩⟩
            · skip
              refine C.aload_nR dX11_redeem_87 rfl ?_
              refine C.sipush (v := 400) dX11_redeem_88 (by decide) ?_
              refine C.bipush (v := 7) dX11_redeem_91 (by decide) ?_
              refine C.callVS0 (k9 := 0) [.int 400, .int 7] dX11_redeem_93 mdX11_deny imX11_deny seX11_deny kc_12 rfl p_n lk_X11_288 rfl rfl rfl rfl (k_deny_7 hS hSt (N := N) (show G 0 = oGs S N from p_n) (show tO S G 2 14 6200 (B 1) from p_b) 400) ?_
              rintro _ _ D9 ⟨f9, hf1, hf2, rfl, rfl, e8⟩; have e8 := e8.symm; subst e8
              refine C.iret dX11_redeem_96 rfl ?_
              rw [opRed, if_neg hE0, if_neg (fun q => q hk), opRed2, if_pos (fun q => c_84 (lt_c.2.symm.trans q))]
              exact ⟨rfl, A, L, p_a, (tO.gW (by decide) (by decide) (by decide) hf1 hf2), rfl, p_k, p_f, p_h, p_w, p_c, p_r, p_q, p_o, p_m, p_t, p_d⟩
        · have e9 := e9.symm; subst e9; have e8 := e8.symm; subst e8
          refine C.astore_nN (L' := [some (.ref (S 0)), some (.ref ((A 7).getD c 0)), some (.null), none]) dX11_redeem_65 (by decide) rfl rfl ?_
          refine C.aload_nN dX11_redeem_66 rfl ?_
          refine C.ifnullN (tgt := 87) dX11_redeem_67 (by decide) ?_
          refine C.aload_nR dX11_redeem_87 rfl ?_
          refine C.sipush (v := 400) dX11_redeem_88 (by decide) ?_
          refine C.bipush (v := 7) dX11_redeem_91 (by decide) ?_
          refine C.callVS0 (k9 := 0) [.int 400, .int 7] dX11_redeem_93 mdX11_deny imX11_deny seX11_deny kc_12 rfl p_n lk_X11_288 rfl rfl rfl rfl (k_deny_7 hS hSt (N := N) (show G 0 = oGs S N from p_n) (show tO S G 2 14 6200 (B 1) from p_b) 400) ?_
          rintro _ _ D9 ⟨f9, hf1, hf2, rfl, rfl, e8⟩; have e8 := e8.symm; subst e8
          refine C.iret dX11_redeem_96 rfl ?_
          rw [opRed, if_neg hE0, if_pos hk]
          exact ⟨rfl, A, L, p_a, (tO.gW (by decide) (by decide) (by decide) hf1 hf2), rfl, p_k, p_f, p_h, p_w, p_c, p_r, p_q, p_o, p_m, p_t, p_d⟩
      · skip
        refine C.aload_nR dX11_redeem_42 rfl ?_
        refine C.sipush (v := 400) dX11_redeem_43 (by decide) ?_
        refine C.iconst (v := 1) dX11_redeem_46 (by decide) ?_
        refine C.callVS0 (k9 := 0) [.int 400, .int 1] dX11_redeem_47 mdX11_deny imX11_deny seX11_deny kc_12 rfl p_n lk_X11_288 rfl rfl rfl rfl (k_deny_1 hS hSt (N := N) (show G 0 = oGs S N from p_n) (show tO S G 2 14 6200 (B 1) from p_b) 400) ?_
        rintro _ _ D9 ⟨f9, hf1, hf2, rfl, rfl, e8⟩; have e8 := e8.symm; subst e8
        refine C.iret dX11_redeem_50 rfl ?_
        rw [opRed, if_pos (show (decide (0 < (fv g 8).length) && decide (0 < (fv g 2).length) && decide (0 < (fv g 9).length) && verS (fv g 9)) = false by first | (rw [(bI_eq0 _).mp c_10]; rfl) | (rw [(bI_eq0 _).mp c_23]; cases decide (0 < (fv g 8).length) <;> rfl) | (rw [(bI_eq0 _).mp c_39, Bool.and_false]))]
        exact ⟨rfl, A, L, p_a, (tO.gW (by decide) (by decide) (by decide) hf1 hf2), rfl, p_k, p_f, p_h, p_w, p_c, p_r, p_q, p_o, p_m, p_t, p_d⟩
