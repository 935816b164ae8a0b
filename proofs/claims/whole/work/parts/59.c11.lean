/-! the class: turn -/
theorem gv_T {U W : List (List Int32)} {na nr : Nat} {ds W2 : List (List Int32)} (h : gv U W na nr true = some (ds, W2)) : ¬ na = 300 ∧ ¬ nr = 300 ∧ ∃ d W1 e, tk1 U W = some (d, W1) ∧ tk1 (U ++ [d]) W1 = some (e, W2) ∧ ds = [d, e] := by
  rw [gv] at h
  by_cases h0 : na = 300 ∨ (true = true ∧ nr = 300)
  · rw [if_pos h0] at h; cases h
  · rw [if_neg h0] at h
    cases h1 : tk1 U W with
    | none => rw [h1] at h; cases h
    | some p =>
      obtain ⟨d, W1⟩ := p
      rw [h1] at h
      cases h2 : tk1 (U ++ [d]) W1 with
      | none =>
        have h3 : (match tk1 (U ++ [d]) W1 with | none => none | some (e, W2) => some ([d, e], W2)) = some (ds, W2) := h
        rw [h2] at h3; cases h3
      | some p =>
        obtain ⟨e, W3⟩ := p
        have h3 : (match tk1 (U ++ [d]) W1 with | none => none | some (e, W2) => some ([d, e], W2)) = some (ds, W2) := h
        rw [h2] at h3
        cases h3
        exact ⟨fun q => h0 (Or.inl q), fun q => h0 (Or.inr ⟨rfl, q⟩), d, W1, e, rfl, h2, rfl⟩
theorem gv_F {U W : List (List Int32)} {na nr : Nat} {ds W2 : List (List Int32)} (h : gv U W na nr false = some (ds, W2)) : ¬ na = 300 ∧ ∃ d, tk1 U W = some (d, W2) ∧ ds = [d] := by
  rw [gv] at h
  by_cases h0 : na = 300 ∨ (false = true ∧ nr = 300)
  · rw [if_pos h0] at h; cases h
  · rw [if_neg h0] at h
    cases h1 : tk1 U W with
    | none => rw [h1] at h; cases h
    | some p =>
      obtain ⟨d, W1⟩ := p
      rw [h1] at h
      have h3 : some ([d], W1) = some (ds, W2) := h
      cases h3
      exact ⟨fun q => h0 (Or.inl q), d, rfl, rfl⟩

theorem k_turn {Λ : kL} {S : Nat → Nat} {G : Nat → kc} {D : kh} (hS : cInj S) {A L : Nat → List Nat} {N : Nat → Int32} {B : Nat → List Int32} {T R : Nat → List (List Int32)} (hR : cR Λ S G D A L N B T R) (hW : wf N B T R) {g : fvs} (hG : cG Λ S G g) (hSt : kSt Λ) (hJ : kJd Λ) (hfs : ∀ f, f < (T 28).length → ∃ i, i < 256 ∧ ro (T 28) f 2 = nI i) {c : Nat} (hc : c < (T 3).length) : cCt Λ mX11_turn 6 4700 S [.ref (S 0), .ref ((A 7).getD c 0)] G D (cP Λ S (opTur N B T R g c)) := by
  refine cCt.of hS pn_X11 [some (.ref (S 0)), some (.ref ((A 7).getD c 0)), none, none] rfl (Nat.le_of_ble_eq_true rfl) fun X => ?_
  have hR0 := hR; have hW0 := hW
  obtain ⟨p_a, p_b, p_n, p_k, p_f, p_h, p_w, p_c, p_r, p_q, p_o, p_m, p_t, p_d⟩ := hR
  obtain ⟨w_a, w_n, w_w, w_c, w_r, w_x, w_q, w_k, w_f, w_t, w_m, w_l⟩ := hW
  have p_a9 := p_a; obtain ⟨ft, a1, a2, a3, a4, a5, a6⟩ := p_a9
  have p_b9 := p_b; obtain ⟨fo9, b1, b2, b3, b4, b5, b6⟩ := p_b9
  have hf9_3 := hG.1.2.2.2.2.2.2.1; obtain ⟨to_3, bq_3, nq_3, fq_3, _, _⟩ := hf9_3
  have ht9_3 := hG.2.2.2.2.1; obtain ⟨bt_3, ff_3, gt_3, gr_3, _⟩ := ht9_3
  have hf9_11 := hG.1.2.2.2.2.2.2.2.2.2.2.2.2.2.2.1; obtain ⟨to_11, bq_11, nq_11, fq_11, _, _⟩ := hf9_11
  have ht9_11 := hG.2.2.2.2.2.2.2.2.2.2.2.2.1; obtain ⟨bt_11, ff_11, gt_11, gr_11, _⟩ := ht9_11
  obtain ⟨i9, s9, u1⟩ := (p_c.2.2.2 _ hc).cell
  have hb1 := w_k.1; have hb2 := w_t.1; have hb3 := w_t.2.2.2.2.1; have hb4 : (T 28).length ≤ 200 := by have := w_k.2.2.2.2; omega
  have hU8 := w_x.2.2.2.2
  have hm22 := w_m.1
  refine C.aload_nR dX11_turn_0 rfl ?_
  refine C.getS (k9 := 0) (fs := [.ref (S 1), .ref (S 2), .ref (S 3), .ref (S 4), .ref (S 5), .ref (S 6), .ref (S 7), .ref (S 8), .ref (S 9), .ref (S 10), .ref (S 11), .ref (S 12), .int (N 26), .int (N 27), .int (N 28), .int (N 25), .int (N 5), .int (N 6)]) dX11_turn_1 fl_X11_24 rfl p_n rfl ?_
  refine C.getS (k9 := 3) (fs := [.ref (S 15), .ref (S 17), .ref (S 18), .ref (S 19), .ref (S 20), .ref (S 21), .ref (S 22), .ref (S 23), .ref (S 24), .ref (S 25), .ref (S 26), .ref (S 27), .ref (S 28), .ref (S 29), .ref (S 30), .ref (S 44)]) dX11_turn_4 fl_X11_501 rfl p_k.1 rfl ?_
  refine C.callVS0 (k9 := 29) [] dX11_turn_7 mdX3_isThere imX3_isThere seX3_isThere kc_4 rfl fq_11 lk_X11_285 rfl rfl rfl rfl (cCt.w0 (R := fun r => r = some (.int (bI (decide (0 < (fv g 11).length))))) fun σ9 h9 => c_Field_isThere (h9.at (k := 29) rfl fq_11) (h9.at (k := 42) rfl gt_11) (show (fv g 11).length ≤ 100000 from (show tV S G D (S 42) (fv g 11) from tS.v hG.2.2.2.2.2.2.2.2.2.2.2.2.1 (by decide) (by decide)).le)) ?_
  rintro _ G9 D9 ⟨rfl, e9, e8⟩
  have e9 := e9.symm; subst e9; have e8 := e8.symm; subst e8
  refine C.if_ne (tgt := 22) dX11_turn_10 (by decide) (fun c_10 => ?_) (fun c_10 => ?_)
  · skip
    have h11 : 0 < (fv g 11).length := of_decide_eq_true (bt1 c_10)
    refine C.aload_nR dX11_turn_22 rfl ?_
    refine C.aload_nR dX11_turn_23 rfl ?_
    refine C.getS (k9 := 0) (fs := [.ref (S 1), .ref (S 2), .ref (S 3), .ref (S 4), .ref (S 5), .ref (S 6), .ref (S 7), .ref (S 8), .ref (S 9), .ref (S 10), .ref (S 11), .ref (S 12), .int (N 26), .int (N 27), .int (N 28), .int (N 25), .int (N 5), .int (N 6)]) dX11_turn_24 fl_X11_24 rfl p_n rfl ?_
    refine C.getS (k9 := 3) (fs := [.ref (S 15), .ref (S 17), .ref (S 18), .ref (S 19), .ref (S 20), .ref (S 21), .ref (S 22), .ref (S 23), .ref (S 24), .ref (S 25), .ref (S 26), .ref (S 27), .ref (S 28), .ref (S 29), .ref (S 30), .ref (S 44)]) dX11_turn_27 fl_X11_501 rfl p_k.1 rfl ?_
    refine C.getS (k9 := 29) (fs := [.ref (kSa Λ RX4 84), .ref (S 42), .int (bI to_11)]) dX11_turn_30 fl_X11_199 rfl fq_11 rfl ?_
    refine C.callVS0 (k9 := 0) [.ref (S 42)] dX11_turn_33 mdX11_refreshOf imX11_refreshOf seX11_refreshOf kc_12 rfl p_n lk_X11_313 rfl rfl rfl rfl (k_refreshOf hS hR0 hW0 (fun σ9 h9 => (show tV S G D (S 42) (fv g 11) from tS.v hG.2.2.2.2.2.2.2.2.2.2.2.2.1 (by decide) (by decide)).tx h9)) ?_
    rintro _ _ _ (⟨hk, rfl, e9, e8⟩ | ⟨hk, rfl, e9, e8⟩)
    · have e9 := e9.symm; subst e9; have e8 := e8.symm; subst e8
      obtain ⟨sc9, u3⟩ := p_t.2.2.2.2.2.2.2.2 _ hk
      have lt_f : (rn (T 30) (hfn (T 21) (T 30) (fv g 11)) 1) < (T 28).length := w_t.2.2.2.2.2.2.1.rn hk (by omega)
      have u4 := p_m.2.2.2 _ lt_f
      refine C.astore_n (L' := [some (.ref (S 0)), some (.ref ((A 7).getD c 0)), some (.ref ((A 12).getD (hfn (T 21) (T 30) (fv g 11)) 0)), none]) dX11_turn_36 (by decide) rfl rfl ?_
      refine C.aload_nR dX11_turn_37 rfl ?_
      refine C.ifnullR dX11_turn_38 ?_
      refine C.aload_nR dX11_turn_41 rfl ?_
      refine C.getD dX11_turn_42 fl_X11_317 u3 rfl ?_
      refine C.getD dX11_turn_45 fl_X11_323 u4 rfl ?_
      refine C.aload_nR dX11_turn_48 rfl ?_
      refine C.getD dX11_turn_49 fl_X11_328 u1 rfl ?_
      refine C.icmp_ne (tgt := 65) dX11_turn_52 (by decide) (fun c_52 => ?_) (fun c_52 => ?_)
      · skip
        refine C.aload_nR dX11_turn_65 rfl ?_
        refine C.sipush (v := 400) dX11_turn_66 (by decide) ?_
        refine C.bipush (v := 7) dX11_turn_69 (by decide) ?_
        refine C.callVS0 (k9 := 0) [.int 400, .int 7] dX11_turn_71 mdX11_deny imX11_deny seX11_deny kc_12 rfl p_n lk_X11_288 rfl rfl rfl rfl (k_deny_7 hS hSt (N := N) (show G 0 = oGs S N from p_n) (show tO S G 2 14 6200 (B 1) from p_b) 400) ?_
        rintro _ _ D9 ⟨f9, hf1, hf2, rfl, rfl, e8⟩; have e8 := e8.symm; subst e8
        refine C.iret dX11_turn_74 rfl ?_
        rw [opTur, if_neg (fun q => q h11), if_neg (fun q => q hk), opTur2, if_pos (by first | exact Or.inl c_52 | exact Or.inr (of_decide_eq_true (bt1 c_62)))]
        exact ⟨rfl, A, L, p_a, (tO.gW (by decide) (by decide) (by decide) hf1 hf2), rfl, p_k, p_f, p_h, p_w, p_c, p_r, p_q, p_o, p_m, p_t, p_d⟩
      · skip
        refine C.aload_nR dX11_turn_55 rfl ?_
        refine C.getD dX11_turn_56 fl_X11_317 u3 rfl ?_
        refine C.getD dX11_turn_59 fl_X11_331 u4 rfl ?_
        refine C.if_eq (tgt := 75) dX11_turn_62 (by decide) (fun c_62 => ?_) (fun c_62 => ?_)
        · skip
          have hcl9 : ¬ (¬ ro (T 28) (rn (T 30) (hfn (T 21) (T 30) (fv g 11)) 1) 0 = nI c ∨ ro (T 28) (rn (T 30) (hfn (T 21) (T 30) (fv g 11)) 1) 4 = 1) := fun q => q.elim (fun q => q c_52) (fun q => Bool.false_ne_true (((bI_eq0 _).mp c_62).symm.trans (decide_eq_true q)))
          refine C.aload_nR dX11_turn_75 rfl ?_
          refine C.getD dX11_turn_76 fl_X11_337 u3 rfl ?_
          refine C.if_eq (tgt := 100) dX11_turn_79 (by decide) (fun c_79 => ?_) (fun c_79 => ?_)
          · skip
            have hsp : ¬ ro (T 30) (hfn (T 21) (T 30) (fv g 11)) 3 = 1 := of_decide_eq_false ((bI_eq0 _).mp c_79)
            refine C.aload_nR dX11_turn_100 rfl ?_
            refine C.getS (k9 := 0) (fs := [.ref (S 1), .ref (S 2), .ref (S 3), .ref (S 4), .ref (S 5), .ref (S 6), .ref (S 7), .ref (S 8), .ref (S 9), .ref (S 10), .ref (S 11), .ref (S 12), .int (N 26), .int (N 27), .int (N 28), .int (N 25), .int (N 5), .int (N 6)]) dX11_turn_101 fl_X11_77 rfl p_n rfl ?_
            refine C.aload_nR dX11_turn_104 rfl ?_
            refine C.getD dX11_turn_105 fl_X11_504 u3 rfl ?_
            refine C.icmp_lt (tgt := 121) dX11_turn_108 (by decide) (fun c_108 => ?_) (fun c_108 => ?_)
            · skip
              have hen : ¬ ro (T 30) (hfn (T 21) (T 30) (fv g 11)) 2 ≤ N 25 := Int32.not_le.mpr c_108
              refine C.aload_nR dX11_turn_121 rfl ?_
              refine C.aload_nR dX11_turn_122 rfl ?_
              refine C.getD dX11_turn_123 fl_X11_317 u3 rfl ?_
              refine C.getD dX11_turn_126 fl_X11_372 u4 rfl ?_
              refine C.callVS0 (k9 := 0) [.int (ro (T 28) (rn (T 30) (hfn (T 21) (T 30) (fv g 11)) 1) 2)] dX11_turn_129 mdX11_scopesTold imX11_scopesTold seX11_scopesTold kc_12 rfl p_n lk_X11_214 rfl rfl rfl rfl (k_scopesTold hS hR0 hW0 hG _) ?_
              rintro _ G9 D9 ⟨rfl, e9, e8⟩
              have e9 := e9.symm; subst e9; have e8 := e8.symm; subst e8
              refine C.istore_n (L' := [some (.ref (S 0)), some (.ref ((A 7).getD c 0)), some (.ref ((A 12).getD (hfn (T 21) (T 30) (fv g 11)) 0)), some (.int (turX T g (rn (T 30) (hfn (T 21) (T 30) (fv g 11)) 1)))]) dX11_turn_132 (by decide) rfl rfl ?_
              have hts := sm_neg (tld_small w_w.1 (fv g 3) (a := ro (T 28) (rn (T 30) (hfn (T 21) (T 30) (fv g 11)) 1) 2) (hfs _ lt_f))
              have htu : (turX T g (rn (T 30) (hfn (T 21) (T 30) (fv g 11)) 1)) = tld (T 2) (fv g 3) (ro (T 28) (rn (T 30) (hfn (T 21) (T 30) (fv g 11)) 1) 2) := rfl
              rw [← htu] at hts
              refine C.iload_n dX11_turn_133 rfl ?_
              refine C.iconst (v := (-1)) dX11_turn_134 (by decide) ?_
              refine C.icmp_eq (tgt := 152) dX11_turn_135 (by decide) (fun c_135 => ?_) (fun c_135 => ?_)
              · skip
                refine C.aload_nR dX11_turn_152 rfl ?_
                refine C.sipush (v := 400) dX11_turn_153 (by decide) ?_
                refine C.iconst (v := 5) dX11_turn_156 (by decide) ?_
                refine C.callVS0 (k9 := 0) [.int 400, .int 5] dX11_turn_157 mdX11_deny imX11_deny seX11_deny kc_12 rfl p_n lk_X11_288 rfl rfl rfl rfl (k_deny_5 hS hSt (N := N) (show G 0 = oGs S N from p_n) (show tO S G 2 14 6200 (B 1) from p_b) 400) ?_
                rintro _ _ D9 ⟨f9, hf1, hf2, rfl, rfl, e8⟩; have e8 := e8.symm; subst e8
                refine C.iret dX11_turn_160 rfl ?_
                rw [opTur, if_neg (fun q => q h11), if_neg (fun q => q hk), opTur2, if_neg hcl9, if_neg hsp, if_neg hen, if_pos (by first | exact Or.inl (hts.mpr c_135) | exact Or.inr (fun q => Bool.false_ne_true (((bI_eq0 _).mp c_149).symm.trans q)))]
                exact ⟨rfl, A, L, p_a, (tO.gW (by decide) (by decide) (by decide) hf1 hf2), rfl, p_k, p_f, p_h, p_w, p_c, p_r, p_q, p_o, p_m, p_t, p_d⟩
              · skip
                refine C.iload_n dX11_turn_138 rfl ?_
                refine C.aload_nR dX11_turn_139 rfl ?_
                refine C.getD dX11_turn_140 fl_X11_317 u3 rfl ?_
                refine C.getD dX11_turn_143 fl_X11_372 u4 rfl ?_
                refine C.callS0 [.int (turX T g (rn (T 30) (hfn (T 21) (T 30) (fv g 11)) 1)), .int (ro (T 28) (rn (T 30) (hfn (T 21) (T 30) (fv g 11)) 1) 2)] dX11_turn_146 mdX11_isWithin ssX11_isWithin lk_X11_254 rfl rfl rfl rfl (cCt.w0 (R := fun r => r = some (.int (bI (wthn (turX T g (rn (T 30) (hfn (T 21) (T 30) (fv g 11)) 1)) (ro (T 28) (rn (T 30) (hfn (T 21) (T 30) (fv g 11)) 1) 2))))) fun σ9 h9 => c_isWithin _ _) ?_
                rintro _ G9 D9 ⟨rfl, e9, e8⟩
                have e9 := e9.symm; subst e9; have e8 := e8.symm; subst e8
                refine C.if_ne (tgt := 161) dX11_turn_149 (by decide) (fun c_149 => ?_) (fun c_149 => ?_)
                · skip
                  have hsx : ¬ ((turX T g (rn (T 30) (hfn (T 21) (T 30) (fv g 11)) 1)) < 0 ∨ ¬ wthn (turX T g (rn (T 30) (hfn (T 21) (T 30) (fv g 11)) 1)) (ro (T 28) (rn (T 30) (hfn (T 21) (T 30) (fv g 11)) 1) 2) = true) := fun q => q.elim (fun q => c_135 (hts.mp q)) (fun q => q (bt1 c_149))
                  refine C.aload_nR dX11_turn_161 rfl ?_
                  refine C.iconst (v := 1) dX11_turn_162 (by decide) ?_
                  refine C.callVS0 (k9 := 0) [.int 1] dX11_turn_163 mdX11_canGiveTokens imX11_canGiveTokens seX11_canGiveTokens kc_12 rfl p_n lk_X11_490 rfl rfl rfl rfl (k_canGiveTokens hS hR0 hW0 true) ?_
                  rintro _ G9 D9 ⟨rfl, e9, e8⟩
                  have e9 := e9.symm; subst e9; have e8 := e8.symm; subst e8
                  refine C.if_ne (tgt := 179) dX11_turn_166 (by decide) (fun c_166 => ?_) (fun c_166 => ?_)
                  · skip
                    obtain ⟨⟨ds, W2⟩, hgv⟩ := Option.isSome_iff_exists.mp (bt1 c_166)
                    obtain ⟨hne, hng, d9, W1, e_9, htk, htk2, rfl⟩ := gv_T hgv
                    refine C.aload_nR dX11_turn_179 rfl ?_
                    refine C.iconst (v := 1) dX11_turn_180 (by decide) ?_
                    refine C.putD (fs' := [.ref ((A 10).getD (rn (T 30) (hfn (T 21) (T 30) (fv g 11)) 1) 0), .int sc9, .int (ro (T 30) (hfn (T 21) (T 30) (fv g 11)) 2), .int 1]) dX11_turn_181 fp_X11_337 (fun h => by cases h) u3 rfl rfl (Nat.le_of_ble_eq_true rfl) rfl ?_
                    have h_1 : (kup D ((A 12).getD (hfn (T 21) (T 30) (fv g 11)) 0) (.inr (11, [.ref ((A 10).getD (rn (T 30) (hfn (T 21) (T 30) (fv g 11)) 1) 0), .int sc9, .int (ro (T 30) (hfn (T 21) (T 30) (fv g 11)) 2), .int 1]))) ((A 7).getD c 0) = some (.inr (1, [.int (nI c), .ref i9, s9, .int (ro (T 5) c 1), .int (bI (decide (ro (T 5) c 2 = 1))), .ref ((A 13).getD c 0)])) := kup_i (kne_oo u1 u3 (by decide)) u1
                    have h_2 : (kup D ((A 12).getD (hfn (T 21) (T 30) (fv g 11)) 0) (.inr (11, [.ref ((A 10).getD (rn (T 30) (hfn (T 21) (T 30) (fv g 11)) 1) 0), .int sc9, .int (ro (T 30) (hfn (T 21) (T 30) (fv g 11)) 2), .int 1]))) ((A 12).getD (hfn (T 21) (T 30) (fv g 11)) 0) = some (.inr (11, [.ref ((A 10).getD (rn (T 30) (hfn (T 21) (T 30) (fv g 11)) 1) 0), .int sc9, .int (ro (T 30) (hfn (T 21) (T 30) (fv g 11)) 2), .int 1])) := kup_s _ _ _
                    have h_3 : (kup D ((A 12).getD (hfn (T 21) (T 30) (fv g 11)) 0) (.inr (11, [.ref ((A 10).getD (rn (T 30) (hfn (T 21) (T 30) (fv g 11)) 1) 0), .int sc9, .int (ro (T 30) (hfn (T 21) (T 30) (fv g 11)) 2), .int 1]))) ((A 10).getD (rn (T 30) (hfn (T 21) (T 30) (fv g 11)) 1) 0) = some (.inr (3, [.int (nI (rn (T 30) (hfn (T 21) (T 30) (fv g 11)) 1)), .int (ro (T 28) (rn (T 30) (hfn (T 21) (T 30) (fv g 11)) 1) 0), .int (ro (T 28) (rn (T 30) (hfn (T 21) (T 30) (fv g 11)) 1) 1), .int (ro (T 28) (rn (T 30) (hfn (T 21) (T 30) (fv g 11)) 1) 2), .int (bI (decide (ro (T 28) (rn (T 30) (hfn (T 21) (T 30) (fv g 11)) 1) 4 = 1))), .int (ro (T 28) (rn (T 30) (hfn (T 21) (T 30) (fv g 11)) 1) 3)])) := kup_i (kne_oo u4 u3 (by decide)) u4
                    refine C.aload_nR dX11_turn_184 rfl ?_
                    refine C.getD dX11_turn_185 fl_X11_317 h_2 rfl ?_
                    refine C.dup dX11_turn_188 rfl ?_
                    refine C.getD dX11_turn_189 fl_X11_376 h_3 rfl ?_
                    refine C.iconst (v := 1) dX11_turn_192 (by decide) ?_
                    refine C.iadd dX11_turn_193 ?_
                    refine C.putD (fs' := [.int (nI (rn (T 30) (hfn (T 21) (T 30) (fv g 11)) 1)), .int (ro (T 28) (rn (T 30) (hfn (T 21) (T 30) (fv g 11)) 1) 0), .int (ro (T 28) (rn (T 30) (hfn (T 21) (T 30) (fv g 11)) 1) 1), .int (ro (T 28) (rn (T 30) (hfn (T 21) (T 30) (fv g 11)) 1) 2), .int (bI (decide (ro (T 28) (rn (T 30) (hfn (T 21) (T 30) (fv g 11)) 1) 4 = 1))), .int ((ro (T 28) (rn (T 30) (hfn (T 21) (T 30) (fv g 11)) 1) 3) + 1)]) dX11_turn_194 fp_X11_376 (fun h => by cases h) h_3 rfl rfl (Nat.le_of_ble_eq_true rfl) rfl ?_
                    have h_4 : (kup (kup D ((A 12).getD (hfn (T 21) (T 30) (fv g 11)) 0) (.inr (11, [.ref ((A 10).getD (rn (T 30) (hfn (T 21) (T 30) (fv g 11)) 1) 0), .int sc9, .int (ro (T 30) (hfn (T 21) (T 30) (fv g 11)) 2), .int 1]))) ((A 10).getD (rn (T 30) (hfn (T 21) (T 30) (fv g 11)) 1) 0) (.inr (3, [.int (nI (rn (T 30) (hfn (T 21) (T 30) (fv g 11)) 1)), .int (ro (T 28) (rn (T 30) (hfn (T 21) (T 30) (fv g 11)) 1) 0), .int (ro (T 28) (rn (T 30) (hfn (T 21) (T 30) (fv g 11)) 1) 1), .int (ro (T 28) (rn (T 30) (hfn (T 21) (T 30) (fv g 11)) 1) 2), .int (bI (decide (ro (T 28) (rn (T 30) (hfn (T 21) (T 30) (fv g 11)) 1) 4 = 1))), .int ((ro (T 28) (rn (T 30) (hfn (T 21) (T 30) (fv g 11)) 1) 3) + 1)]))) ((A 7).getD c 0) = some (.inr (1, [.int (nI c), .ref i9, s9, .int (ro (T 5) c 1), .int (bI (decide (ro (T 5) c 2 = 1))), .ref ((A 13).getD c 0)])) := kup_i (kne_oo h_1 h_3 (by decide)) h_1
                    have h_5 : (kup (kup D ((A 12).getD (hfn (T 21) (T 30) (fv g 11)) 0) (.inr (11, [.ref ((A 10).getD (rn (T 30) (hfn (T 21) (T 30) (fv g 11)) 1) 0), .int sc9, .int (ro (T 30) (hfn (T 21) (T 30) (fv g 11)) 2), .int 1]))) ((A 10).getD (rn (T 30) (hfn (T 21) (T 30) (fv g 11)) 1) 0) (.inr (3, [.int (nI (rn (T 30) (hfn (T 21) (T 30) (fv g 11)) 1)), .int (ro (T 28) (rn (T 30) (hfn (T 21) (T 30) (fv g 11)) 1) 0), .int (ro (T 28) (rn (T 30) (hfn (T 21) (T 30) (fv g 11)) 1) 1), .int (ro (T 28) (rn (T 30) (hfn (T 21) (T 30) (fv g 11)) 1) 2), .int (bI (decide (ro (T 28) (rn (T 30) (hfn (T 21) (T 30) (fv g 11)) 1) 4 = 1))), .int ((ro (T 28) (rn (T 30) (hfn (T 21) (T 30) (fv g 11)) 1) 3) + 1)]))) ((A 12).getD (hfn (T 21) (T 30) (fv g 11)) 0) = some (.inr (11, [.ref ((A 10).getD (rn (T 30) (hfn (T 21) (T 30) (fv g 11)) 1) 0), .int sc9, .int (ro (T 30) (hfn (T 21) (T 30) (fv g 11)) 2), .int 1])) := kup_i (kne_oo h_2 h_3 (by decide)) h_2
                    have h_6 : (kup (kup D ((A 12).getD (hfn (T 21) (T 30) (fv g 11)) 0) (.inr (11, [.ref ((A 10).getD (rn (T 30) (hfn (T 21) (T 30) (fv g 11)) 1) 0), .int sc9, .int (ro (T 30) (hfn (T 21) (T 30) (fv g 11)) 2), .int 1]))) ((A 10).getD (rn (T 30) (hfn (T 21) (T 30) (fv g 11)) 1) 0) (.inr (3, [.int (nI (rn (T 30) (hfn (T 21) (T 30) (fv g 11)) 1)), .int (ro (T 28) (rn (T 30) (hfn (T 21) (T 30) (fv g 11)) 1) 0), .int (ro (T 28) (rn (T 30) (hfn (T 21) (T 30) (fv g 11)) 1) 1), .int (ro (T 28) (rn (T 30) (hfn (T 21) (T 30) (fv g 11)) 1) 2), .int (bI (decide (ro (T 28) (rn (T 30) (hfn (T 21) (T 30) (fv g 11)) 1) 4 = 1))), .int ((ro (T 28) (rn (T 30) (hfn (T 21) (T 30) (fv g 11)) 1) 3) + 1)]))) ((A 10).getD (rn (T 30) (hfn (T 21) (T 30) (fv g 11)) 1) 0) = some (.inr (3, [.int (nI (rn (T 30) (hfn (T 21) (T 30) (fv g 11)) 1)), .int (ro (T 28) (rn (T 30) (hfn (T 21) (T 30) (fv g 11)) 1) 0), .int (ro (T 28) (rn (T 30) (hfn (T 21) (T 30) (fv g 11)) 1) 1), .int (ro (T 28) (rn (T 30) (hfn (T 21) (T 30) (fv g 11)) 1) 2), .int (bI (decide (ro (T 28) (rn (T 30) (hfn (T 21) (T 30) (fv g 11)) 1) 4 = 1))), .int ((ro (T 28) (rn (T 30) (hfn (T 21) (T 30) (fv g 11)) 1) 3) + 1)])) := kup_s _ _ _
                    refine C.aload_nR dX11_turn_197 rfl ?_
                    refine C.aload_nR dX11_turn_198 rfl ?_
                    refine C.getD dX11_turn_199 fl_X11_317 h_5 rfl ?_
                    refine C.iload_n dX11_turn_202 rfl ?_
                    refine C.iconst (v := 1) dX11_turn_203 (by decide) ?_
                    have hdkA : dk 11 D _ := dk.up (c := (.inr (11, [.ref ((A 10).getD (rn (T 30) (hfn (T 21) (T 30) (fv g 11)) 1) 0), .int sc9, .int (ro (T 30) (hfn (T 21) (T 30) (fv g 11)) 2), .int (bI true)]))) u3
                    have u5 : (kup D ((A 12).getD (hfn (T 21) (T 30) (fv g 11)) 0) (.inr (11, [.ref ((A 10).getD (rn (T 30) (hfn (T 21) (T 30) (fv g 11)) 1) 0), .int sc9, .int (ro (T 30) (hfn (T 21) (T 30) (fv g 11)) 2), .int (bI true)]))) ((A 10).getD (rn (T 30) (hfn (T 21) (T 30) (fv g 11)) 1) 0) = some (.inr (3, [.int (nI (rn (T 30) (hfn (T 21) (T 30) (fv g 11)) 1)), .int (ro (T 28) (rn (T 30) (hfn (T 21) (T 30) (fv g 11)) 1) 0), .int (ro (T 28) (rn (T 30) (hfn (T 21) (T 30) (fv g 11)) 1) 1), .int (ro (T 28) (rn (T 30) (hfn (T 21) (T 30) (fv g 11)) 1) 2), .int (bI (decide (ro (T 28) (rn (T 30) (hfn (T 21) (T 30) (fv g 11)) 1) 4 = 1))), .int (ro (T 28) (rn (T 30) (hfn (T 21) (T 30) (fv g 11)) 1) 3)])) := hdkA _ _ u4 (by show 3 ≠ 11; decide)
                    have hdkB : dk 3 (kup D ((A 12).getD (hfn (T 21) (T 30) (fv g 11)) 0) (.inr (11, [.ref ((A 10).getD (rn (T 30) (hfn (T 21) (T 30) (fv g 11)) 1) 0), .int sc9, .int (ro (T 30) (hfn (T 21) (T 30) (fv g 11)) 2), .int (bI true)]))) (kup (kup D ((A 12).getD (hfn (T 21) (T 30) (fv g 11)) 0) (.inr (11, [.ref ((A 10).getD (rn (T 30) (hfn (T 21) (T 30) (fv g 11)) 1) 0), .int sc9, .int (ro (T 30) (hfn (T 21) (T 30) (fv g 11)) 2), .int 1]))) ((A 10).getD (rn (T 30) (hfn (T 21) (T 30) (fv g 11)) 1) 0) (.inr (3, [.int (nI (rn (T 30) (hfn (T 21) (T 30) (fv g 11)) 1)), .int (ro (T 28) (rn (T 30) (hfn (T 21) (T 30) (fv g 11)) 1) 0), .int (ro (T 28) (rn (T 30) (hfn (T 21) (T 30) (fv g 11)) 1) 1), .int (ro (T 28) (rn (T 30) (hfn (T 21) (T 30) (fv g 11)) 1) 2), .int (bI (decide (ro (T 28) (rn (T 30) (hfn (T 21) (T 30) (fv g 11)) 1) 4 = 1))), .int ((ro (T 28) (rn (T 30) (hfn (T 21) (T 30) (fv g 11)) 1) 3) + 1)]))) := dk.up u5
                    have hRt : cR Λ S G (kup (kup D ((A 12).getD (hfn (T 21) (T 30) (fv g 11)) 0) (.inr (11, [.ref ((A 10).getD (rn (T 30) (hfn (T 21) (T 30) (fv g 11)) 1) 0), .int sc9, .int (ro (T 30) (hfn (T 21) (T 30) (fv g 11)) 2), .int 1]))) ((A 10).getD (rn (T 30) (hfn (T 21) (T 30) (fv g 11)) 1) 0) (.inr (3, [.int (nI (rn (T 30) (hfn (T 21) (T 30) (fv g 11)) 1)), .int (ro (T 28) (rn (T 30) (hfn (T 21) (T 30) (fv g 11)) 1) 0), .int (ro (T 28) (rn (T 30) (hfn (T 21) (T 30) (fv g 11)) 1) 1), .int (ro (T 28) (rn (T 30) (hfn (T 21) (T 30) (fv g 11)) 1) 2), .int (bI (decide (ro (T 28) (rn (T 30) (hfn (T 21) (T 30) (fv g 11)) 1) 4 = 1))), .int ((ro (T 28) (rn (T 30) (hfn (T 21) (T 30) (fv g 11)) 1) 3) + 1)]))) A L N B (setT (setT T 30 (stc (T 30) (hfn (T 21) (T 30) (fv g 11)) 3 1)) 28 (stc (T 28) (rn (T 30) (hfn (T 21) (T 30) (fv g 11)) 1) 3 (ro (T 28) (rn (T 30) (hfn (T 21) (T 30) (fv g 11)) 1) 3 + 1))) R := ⟨p_a, p_b, p_n, p_k, p_f, p_h, ⟨p_w.1, ((p_w.2.dk hdkA (by decide) (by decide)).dk hdkB (by decide) (by decide))⟩, ⟨p_c.1, ((p_c.2.dk hdkA (by decide) (by decide) (by decide)).dk hdkB (by decide) (by decide) (by decide))⟩, ((p_r.dk hdkA (by decide) (by decide) (by decide)).dk hdkB (by decide) (by decide) (by decide)), ⟨p_q.1, ((p_q.2.dk hdkA (by decide) (by decide) (by decide)).dk hdkB (by decide) (by decide) (by decide))⟩, ⟨p_o.1, ((p_o.2.dk hdkA (by decide)).dk hdkB (by decide))⟩, ⟨p_m.1, cFm_turn (p_m.2.dk hdkA (by decide)) w_l.2.1 lt_f _⟩, ⟨p_t.1, p_t.2.1, (cTo_spent (sc := sc9) p_t.2.2 w_l.2.2.2.1 hk).dk hdkB (by decide)⟩, ⟨p_d.1, p_d.2.1, ((p_d.2.2.dk hdkA (by decide) (by decide) (by decide) (by decide)).dk hdkB (by decide) (by decide) (by decide) (by decide))⟩⟩
                    have hlen9 : ((setT (setT T 30 (stc (T 30) (hfn (T 21) (T 30) (fv g 11)) 3 1)) 28 (stc (T 28) (rn (T 30) (hfn (T 21) (T 30) (fv g 11)) 1) 3 (ro (T 28) (rn (T 30) (hfn (T 21) (T 30) (fv g 11)) 1) 3 + 1))) 30).length = (T 30).length := stc_len _ _ _ _
                    refine C.less (bc' := 0 + 6) (bs' := 0 + 4700) (by omega) (by omega) ?_
                    refine C.callVS (k9 := 0) [.ref ((A 10).getD (rn (T 30) (hfn (T 21) (T 30) (fv g 11)) 1) 0), .int (turX T g (rn (T 30) (hfn (T 21) (T 30) (fv g 11)) 1)), .int 1] dX11_turn_204 mdX11_giveTokens imX11_giveTokens seX11_giveTokens kc_12 rfl p_n lk_X11_497 rfl rfl rfl rfl (k_giveT hS hRt hSt hJ w_w w_n w_x.1 (by show (T 21).length + 2 ≤ 800; omega) hm22 hb2 (by rw [hlen9]; exact hb3) (by omega) (turX T g (rn (T 30) (hfn (T 21) (T 30) (fv g 11)) 1)) htk htk2) ?_
                    rintro r9 G9 D9 hq9; obtain ⟨w9, rfl⟩ : ∃ w9, r9 = some w9 := ⟨_, hq9.1⟩
                    have hw9 := hq9.1; injection hw9 with hw9; subst hw9
                    refine C.iret dX11_turn_207 rfl ?_
                    rw [opTur, if_neg (fun q => q h11), if_neg (fun q => q hk), opTur2, if_neg hcl9, if_neg hsp, if_neg hen, if_neg hsx]
                    rw [hgv]
                    exact hq9
                  · skip
                    have hgv : gv (T 21) (T 20) (T 29).length (T 30).length true = none := Option.not_isSome_iff_eq_none.mp (by rw [(bI_eq0 _).mp c_166]; decide)
                    refine C.aload_nR dX11_turn_169 rfl ?_
                    refine C.sipush (v := 503) dX11_turn_170 (by decide) ?_
                    refine C.bipush (v := 11) dX11_turn_173 (by decide) ?_
                    refine C.callVS0 (k9 := 0) [.int 503, .int 11] dX11_turn_175 mdX11_deny imX11_deny seX11_deny kc_12 rfl p_n lk_X11_288 rfl rfl rfl rfl (k_deny_11 hS hSt (N := N) (show G 0 = oGs S N from p_n) (show tO S G 2 14 6200 (B 1) from p_b) 503) ?_
                    rintro _ _ D9 ⟨f9, hf1, hf2, rfl, rfl, e8⟩; have e8 := e8.symm; subst e8
                    refine C.iret dX11_turn_178 rfl ?_
                    rw [opTur, if_neg (fun q => q h11), if_neg (fun q => q hk), opTur2, if_neg hcl9, if_neg hsp, if_neg hen, if_neg hsx]
                    rw [hgv]
                    exact ⟨rfl, A, L, p_a, (tO.gW (by decide) (by decide) (by decide) hf1 hf2), rfl, p_k, p_f, p_h, p_w, p_c, p_r, p_q, p_o, p_m, p_t, p_d⟩
                · skip
                  refine C.aload_nR dX11_turn_152 rfl ?_
                  refine C.sipush (v := 400) dX11_turn_153 (by decide) ?_
                  refine C.iconst (v := 5) dX11_turn_156 (by decide) ?_
                  refine C.callVS0 (k9 := 0) [.int 400, .int 5] dX11_turn_157 mdX11_deny imX11_deny seX11_deny kc_12 rfl p_n lk_X11_288 rfl rfl rfl rfl (k_deny_5 hS hSt (N := N) (show G 0 = oGs S N from p_n) (show tO S G 2 14 6200 (B 1) from p_b) 400) ?_
                  rintro _ _ D9 ⟨f9, hf1, hf2, rfl, rfl, e8⟩; have e8 := e8.symm; subst e8
                  refine C.iret dX11_turn_160 rfl ?_
                  rw [opTur, if_neg (fun q => q h11), if_neg (fun q => q hk), opTur2, if_neg hcl9, if_neg hsp, if_neg hen, if_pos (by first | exact Or.inl (hts.mpr c_135) | exact Or.inr (fun q => Bool.false_ne_true (((bI_eq0 _).mp c_149).symm.trans q)))]
                  exact ⟨rfl, A, L, p_a, (tO.gW (by decide) (by decide) (by decide) hf1 hf2), rfl, p_k, p_f, p_h, p_w, p_c, p_r, p_q, p_o, p_m, p_t, p_d⟩
            · skip
              have hen : ro (T 30) (hfn (T 21) (T 30) (fv g 11)) 2 ≤ N 25 := Int32.not_lt.mp c_108
              refine C.aload_nR dX11_turn_111 rfl ?_
              refine C.sipush (v := 400) dX11_turn_112 (by decide) ?_
              refine C.bipush (v := 7) dX11_turn_115 (by decide) ?_
              refine C.callVS0 (k9 := 0) [.int 400, .int 7] dX11_turn_117 mdX11_deny imX11_deny seX11_deny kc_12 rfl p_n lk_X11_288 rfl rfl rfl rfl (k_deny_7 hS hSt (N := N) (show G 0 = oGs S N from p_n) (show tO S G 2 14 6200 (B 1) from p_b) 400) ?_
              rintro _ _ D9 ⟨f9, hf1, hf2, rfl, rfl, e8⟩; have e8 := e8.symm; subst e8
              refine C.iret dX11_turn_120 rfl ?_
              rw [opTur, if_neg (fun q => q h11), if_neg (fun q => q hk), opTur2, if_neg hcl9, if_neg hsp, if_pos hen]
              exact ⟨rfl, A, L, p_a, (tO.gW (by decide) (by decide) (by decide) hf1 hf2), rfl, p_k, p_f, p_h, p_w, p_c, p_r, p_q, p_o, p_m, p_t, p_d⟩
          · skip
            have hsp : ro (T 30) (hfn (T 21) (T 30) (fv g 11)) 3 = 1 := of_decide_eq_true (bt1 c_79)
            refine C.aload_nR dX11_turn_82 rfl ?_
            refine C.getD dX11_turn_83 fl_X11_317 u3 rfl ?_
            refine C.iconst (v := 1) dX11_turn_86 (by decide) ?_
            refine C.putD (fs' := [.int (nI (rn (T 30) (hfn (T 21) (T 30) (fv g 11)) 1)), .int (ro (T 28) (rn (T 30) (hfn (T 21) (T 30) (fv g 11)) 1) 0), .int (ro (T 28) (rn (T 30) (hfn (T 21) (T 30) (fv g 11)) 1) 1), .int (ro (T 28) (rn (T 30) (hfn (T 21) (T 30) (fv g 11)) 1) 2), .int 1, .int (ro (T 28) (rn (T 30) (hfn (T 21) (T 30) (fv g 11)) 1) 3)]) dX11_turn_87 fp_X11_331 (fun h => by cases h) u4 rfl rfl (Nat.le_of_ble_eq_true rfl) rfl ?_
            have h_7 : (kup D ((A 10).getD (rn (T 30) (hfn (T 21) (T 30) (fv g 11)) 1) 0) (.inr (3, [.int (nI (rn (T 30) (hfn (T 21) (T 30) (fv g 11)) 1)), .int (ro (T 28) (rn (T 30) (hfn (T 21) (T 30) (fv g 11)) 1) 0), .int (ro (T 28) (rn (T 30) (hfn (T 21) (T 30) (fv g 11)) 1) 1), .int (ro (T 28) (rn (T 30) (hfn (T 21) (T 30) (fv g 11)) 1) 2), .int 1, .int (ro (T 28) (rn (T 30) (hfn (T 21) (T 30) (fv g 11)) 1) 3)]))) ((A 7).getD c 0) = some (.inr (1, [.int (nI c), .ref i9, s9, .int (ro (T 5) c 1), .int (bI (decide (ro (T 5) c 2 = 1))), .ref ((A 13).getD c 0)])) := kup_i (kne_oo u1 u4 (by decide)) u1
            have h_8 : (kup D ((A 10).getD (rn (T 30) (hfn (T 21) (T 30) (fv g 11)) 1) 0) (.inr (3, [.int (nI (rn (T 30) (hfn (T 21) (T 30) (fv g 11)) 1)), .int (ro (T 28) (rn (T 30) (hfn (T 21) (T 30) (fv g 11)) 1) 0), .int (ro (T 28) (rn (T 30) (hfn (T 21) (T 30) (fv g 11)) 1) 1), .int (ro (T 28) (rn (T 30) (hfn (T 21) (T 30) (fv g 11)) 1) 2), .int 1, .int (ro (T 28) (rn (T 30) (hfn (T 21) (T 30) (fv g 11)) 1) 3)]))) ((A 12).getD (hfn (T 21) (T 30) (fv g 11)) 0) = some (.inr (11, [.ref ((A 10).getD (rn (T 30) (hfn (T 21) (T 30) (fv g 11)) 1) 0), .int sc9, .int (ro (T 30) (hfn (T 21) (T 30) (fv g 11)) 2), .int (bI (decide (ro (T 30) (hfn (T 21) (T 30) (fv g 11)) 3 = 1)))])) := kup_i (kne_oo u3 u4 (by decide)) u3
            have h_9 : (kup D ((A 10).getD (rn (T 30) (hfn (T 21) (T 30) (fv g 11)) 1) 0) (.inr (3, [.int (nI (rn (T 30) (hfn (T 21) (T 30) (fv g 11)) 1)), .int (ro (T 28) (rn (T 30) (hfn (T 21) (T 30) (fv g 11)) 1) 0), .int (ro (T 28) (rn (T 30) (hfn (T 21) (T 30) (fv g 11)) 1) 1), .int (ro (T 28) (rn (T 30) (hfn (T 21) (T 30) (fv g 11)) 1) 2), .int 1, .int (ro (T 28) (rn (T 30) (hfn (T 21) (T 30) (fv g 11)) 1) 3)]))) ((A 10).getD (rn (T 30) (hfn (T 21) (T 30) (fv g 11)) 1) 0) = some (.inr (3, [.int (nI (rn (T 30) (hfn (T 21) (T 30) (fv g 11)) 1)), .int (ro (T 28) (rn (T 30) (hfn (T 21) (T 30) (fv g 11)) 1) 0), .int (ro (T 28) (rn (T 30) (hfn (T 21) (T 30) (fv g 11)) 1) 1), .int (ro (T 28) (rn (T 30) (hfn (T 21) (T 30) (fv g 11)) 1) 2), .int 1, .int (ro (T 28) (rn (T 30) (hfn (T 21) (T 30) (fv g 11)) 1) 3)])) := kup_s _ _ _
            refine C.aload_nR dX11_turn_90 rfl ?_
            refine C.sipush (v := 400) dX11_turn_91 (by decide) ?_
            refine C.bipush (v := 7) dX11_turn_94 (by decide) ?_
            refine C.callVS0 (k9 := 0) [.int 400, .int 7] dX11_turn_96 mdX11_deny imX11_deny seX11_deny kc_12 rfl p_n lk_X11_288 rfl rfl rfl rfl (k_deny_7 hS hSt (N := N) (show G 0 = oGs S N from p_n) (show tO S G 2 14 6200 (B 1) from p_b) 400) ?_
            rintro _ _ D9 ⟨f9, hf1, hf2, rfl, rfl, e8⟩; have e8 := e8.symm; subst e8
            refine C.iret dX11_turn_99 rfl ?_
            rw [opTur, if_neg (fun q => q h11), if_neg (fun q => q hk), opTur2, if_neg hcl9, if_pos hsp]
            have hdk : dk 3 D _ := dk.up (c := (.inr (3, [.int (nI (rn (T 30) (hfn (T 21) (T 30) (fv g 11)) 1)), .int (ro (T 28) (rn (T 30) (hfn (T 21) (T 30) (fv g 11)) 1) 0), .int (ro (T 28) (rn (T 30) (hfn (T 21) (T 30) (fv g 11)) 1) 1), .int (ro (T 28) (rn (T 30) (hfn (T 21) (T 30) (fv g 11)) 1) 2), .int 1, .int (ro (T 28) (rn (T 30) (hfn (T 21) (T 30) (fv g 11)) 1) 3)]))) u4
            exact ⟨rfl, A, L, p_a, (tO.gW (by decide) (by decide) (by decide) hf1 hf2), rfl, p_k, p_f, p_h, ⟨p_w.1, p_w.2.dk hdk (by decide) (by decide)⟩, ⟨p_c.1, p_c.2.dk hdk (by decide) (by decide) (by decide)⟩, p_r.dk hdk (by decide) (by decide) (by decide), ⟨p_q.1, p_q.2.dk hdk (by decide) (by decide) (by decide)⟩, ⟨p_o.1, p_o.2.dk hdk (by decide)⟩, ⟨p_m.1, cFm_back p_m.2 w_l.2.1 lt_f⟩, ⟨p_t.1, p_t.2.1, p_t.2.2.dk hdk (by decide)⟩, ⟨p_d.1, p_d.2.1, p_d.2.2.dk hdk (by decide) (by decide) (by decide) (by decide)⟩⟩
        · skip
          refine C.aload_nR dX11_turn_65 rfl ?_
          refine C.sipush (v := 400) dX11_turn_66 (by decide) ?_
          refine C.bipush (v := 7) dX11_turn_69 (by decide) ?_
          refine C.callVS0 (k9 := 0) [.int 400, .int 7] dX11_turn_71 mdX11_deny imX11_deny seX11_deny kc_12 rfl p_n lk_X11_288 rfl rfl rfl rfl (k_deny_7 hS hSt (N := N) (show G 0 = oGs S N from p_n) (show tO S G 2 14 6200 (B 1) from p_b) 400) ?_
          rintro _ _ D9 ⟨f9, hf1, hf2, rfl, rfl, e8⟩; have e8 := e8.symm; subst e8
          refine C.iret dX11_turn_74 rfl ?_
          rw [opTur, if_neg (fun q => q h11), if_neg (fun q => q hk), opTur2, if_pos (by first | exact Or.inl c_52 | exact Or.inr (of_decide_eq_true (bt1 c_62)))]
          exact ⟨rfl, A, L, p_a, (tO.gW (by decide) (by decide) (by decide) hf1 hf2), rfl, p_k, p_f, p_h, p_w, p_c, p_r, p_q, p_o, p_m, p_t, p_d⟩
    · have e9 := e9.symm; subst e9; have e8 := e8.symm; subst e8
      refine C.astore_nN (L' := [some (.ref (S 0)), some (.ref ((A 7).getD c 0)), some (.null), none]) dX11_turn_36 (by decide) rfl rfl ?_
      refine C.aload_nN dX11_turn_37 rfl ?_
      refine C.ifnullN (tgt := 65) dX11_turn_38 (by decide) ?_
      refine C.aload_nR dX11_turn_65 rfl ?_
      refine C.sipush (v := 400) dX11_turn_66 (by decide) ?_
      refine C.bipush (v := 7) dX11_turn_69 (by decide) ?_
      refine C.callVS0 (k9 := 0) [.int 400, .int 7] dX11_turn_71 mdX11_deny imX11_deny seX11_deny kc_12 rfl p_n lk_X11_288 rfl rfl rfl rfl (k_deny_7 hS hSt (N := N) (show G 0 = oGs S N from p_n) (show tO S G 2 14 6200 (B 1) from p_b) 400) ?_
      rintro _ _ D9 ⟨f9, hf1, hf2, rfl, rfl, e8⟩; have e8 := e8.symm; subst e8
      refine C.iret dX11_turn_74 rfl ?_
      rw [opTur, if_neg (fun q => q h11), if_pos hk]
      exact ⟨rfl, A, L, p_a, (tO.gW (by decide) (by decide) (by decide) hf1 hf2), rfl, p_k, p_f, p_h, p_w, p_c, p_r, p_q, p_o, p_m, p_t, p_d⟩
  · skip
    have h11 : ¬ 0 < (fv g 11).length := of_decide_eq_false ((bI_eq0 _).mp c_10)
    refine C.aload_nR dX11_turn_13 rfl ?_
    refine C.sipush (v := 400) dX11_turn_14 (by decide) ?_
    refine C.iconst (v := 1) dX11_turn_17 (by decide) ?_
    refine C.callVS0 (k9 := 0) [.int 400, .int 1] dX11_turn_18 mdX11_deny imX11_deny seX11_deny kc_12 rfl p_n lk_X11_288 rfl rfl rfl rfl (k_deny_1 hS hSt (N := N) (show G 0 = oGs S N from p_n) (show tO S G 2 14 6200 (B 1) from p_b) 400) ?_
    rintro _ _ D9 ⟨f9, hf1, hf2, rfl, rfl, e8⟩; have e8 := e8.symm; subst e8
    refine C.iret dX11_turn_21 rfl ?_
    rw [opTur, if_pos h11]
    exact ⟨rfl, A, L, p_a, (tO.gW (by decide) (by decide) (by decide) hf1 hf2), rfl, p_k, p_f, p_h, p_w, p_c, p_r, p_q, p_o, p_m, p_t, p_d⟩
