/-! the reference: redeems, turns, token -/
theorem cntT_pos {p : Nat → Bool} {n z : Nat} (h : z < n) (hp : p z = true) : 1 ≤ cntT p n := by
  induction n with
  | zero => omega
  | succ n ih =>
    rw [cntT_s]
    by_cases e : z = n
    · rw [← e, if_pos hp]; omega
    · have := ih (by omega); omega
theorem lt_m1 {x : Int32} {n : Nat} (h : x < 0) (hx : x = -1 ∨ ∃ f, f < n ∧ x = nI f) (hn : n < 2 ^ 31) : x = -1 := by
  rcases hx with q | ⟨f, hf, q⟩
  · exact q
  · rw [q] at h; exact absurd h (nI_pos (by omega))
theorem ge_f {x : Int32} {n : Nat} (h : ¬ x < 0) (hx : x = -1 ∨ ∃ f, f < n ∧ x = nI f) : ∃ f, f < n ∧ x = nI f := by
  rcases hx with q | q
  · rw [q] at h; exact absurd (by decide) h
  · exact q
theorem getD_ap {U ds : List (List Int32)} {n : Nat} : (U ++ ds).getD (U.length + n) [] = ds.getD n [] := by
  rw [List.getD_eq_getElem?_getD, List.getElem?_append_right (by omega), Nat.add_sub_cancel_left, List.getD_eq_getElem?_getD]
theorem ds_at {f : Nat → Int32} {U ds : List (List Int32)} {n : Nat} (h : mDi f (U ++ ds)) (hn : n < ds.length) : tl f (4 * (U.length + n)) 4 = ds.getD n [] := by
  have h9 := h (U.length + n) (by rw [List.length_append]; omega)
  rw [h9, getD_ap]

theorem p_redeems {Λ : kL} {m : Nat} {A : Nat → Nat} {I : Nat → Int32} {F : Nat → Nat → Int32} (hA : mInj A) {N : Nat → Int32} {B : Nat → List Int32} {T R : Nat → List (List Int32)} (hR : mR I F N B T R) (hW : wf N B T R) (hSt : kSt Λ) (hSh : kSh Λ) (h00 : I 0 = 0) {g : fvs} (hv : vrl F 2000 g) {c : Nat} (hc9 : c < (T 3).length) : mCt Λ mX12_redeems m A [.ref m, .int (nI c)] I F (mP (opRed N B T R g c)) := by
  refine mCt.of hA pn_X12 [some (.ref m), some (.int (nI c)), none, none] rfl (Nat.le_of_ble_eq_true rfl) fun X => ?_
  have hW9 := hW
  obtain ⟨q_a, q_b, q_n, q_w, q_c, q_r, q_x, q_q, q_k, q_f, q_t⟩ := hR
  obtain ⟨w_a, w_n, w_w, w_c, w_r, w_x, w_q, w_k, w_f, w_t, w_m, w_l⟩ := hW
  have hl := w_a.1
  have hc8 := w_c.1
  have hq200 := w_q.1
  have hk200 := w_k.1
  have ht1 := w_t.1
  have ht2 := w_t.2.2.2.2.1
  have hul := w_x.2.2.2.2
  have hd200 : (T 28).length ≤ 200 := by have := w_k.2.2.2.2; omega
  obtain ⟨a, ha1, ha2, ha⟩ := w_n
  have hacl : (N 27).toNatClampNeg = a := by rw [ha, nI_clamp (by omega)]
  have hc : c < (T 5).length := by rw [w_c.2.2.2.1]; exact hc9
  refine M.aload_nR dX12_redeems_0 rfl ?_
  refine M.bipush (v := 8) dX12_redeems_1 (by decide) ?_
  refine M.callV [.int 8] dX12_redeems_3 mdX12_has imX12_has seX12_has lk_X12_260 rfl rfl rfl rfl (m_hasV hA (F := F) hv (k := 8) (by decide)) ?_
  rintro _ I9 F9 ⟨rfl, e9, e8⟩
  have e9 := e9.symm; subst e9; have e8 := e8.symm; subst e8
  refine M.if_eq (tgt := 33) dX12_redeems_6 (by decide) (fun c_6 => ?_) (fun c_6 => ?_)
  · skip
    have hbad : (decide (0 < (fv g 8).length) && decide (0 < (fv g 2).length) && decide (0 < (fv g 9).length) && verS (fv g 9)) = false := by first | rw [(bI_eq0 _).mp c_6, Bool.false_and, Bool.false_and, Bool.false_and] | rw [(bI_eq0 _).mp c_14, Bool.and_false, Bool.false_and, Bool.false_and] | rw [(bI_eq0 _).mp c_23, Bool.and_false, Bool.false_and] | (rw [verS, (bI_eq0 _).mp c_30, Bool.and_false])
    refine M.aload_nR dX12_redeems_33 rfl ?_
    refine M.sipush (v := 400) dX12_redeems_34 (by decide) ?_
    refine M.iconst (v := 1) dX12_redeems_37 (by decide) ?_
    refine M.callV [.int 400, .int 1] dX12_redeems_38 mdX12_refuses imX12_refuses seX12_refuses lk_X12_421 rfl rfl rfl rfl (m_refuses_1 hA hSt 400) ?_
    rintro _ I9 F9 ⟨rfl, e9, e8⟩
    have e9 := e9.symm; subst e9; have e8 := e8.symm; subst e8
    refine M.iret dX12_redeems_41 rfl ?_
    rw [opRed, if_pos hbad]
    exact ⟨rfl, h00, q_a, mRb.fo rfl rfl, ⟨rfl, rfl, q_n.2.2⟩, q_w, q_c, q_r, q_x, q_q, q_k, q_f, q_t⟩
  · skip
    have h0_8 := of_decide_eq_true (bt1 c_6)
    refine M.aload_nR dX12_redeems_9 rfl ?_
    refine M.iconst (v := 2) dX12_redeems_10 (by decide) ?_
    refine M.callV [.int 2] dX12_redeems_11 mdX12_has imX12_has seX12_has lk_X12_260 rfl rfl rfl rfl (m_hasV hA (F := F) hv (k := 2) (by decide)) ?_
    rintro _ I9 F9 ⟨rfl, e9, e8⟩
    have e9 := e9.symm; subst e9; have e8 := e8.symm; subst e8
    refine M.if_eq (tgt := 33) dX12_redeems_14 (by decide) (fun c_14 => ?_) (fun c_14 => ?_)
    · skip
      have hbad : (decide (0 < (fv g 8).length) && decide (0 < (fv g 2).length) && decide (0 < (fv g 9).length) && verS (fv g 9)) = false := by first | rw [(bI_eq0 _).mp c_6, Bool.false_and, Bool.false_and, Bool.false_and] | rw [(bI_eq0 _).mp c_14, Bool.and_false, Bool.false_and, Bool.false_and] | rw [(bI_eq0 _).mp c_23, Bool.and_false, Bool.false_and] | (rw [verS, (bI_eq0 _).mp c_30, Bool.and_false])
      refine M.aload_nR dX12_redeems_33 rfl ?_
      refine M.sipush (v := 400) dX12_redeems_34 (by decide) ?_
      refine M.iconst (v := 1) dX12_redeems_37 (by decide) ?_
      refine M.callV [.int 400, .int 1] dX12_redeems_38 mdX12_refuses imX12_refuses seX12_refuses lk_X12_421 rfl rfl rfl rfl (m_refuses_1 hA hSt 400) ?_
      rintro _ I9 F9 ⟨rfl, e9, e8⟩
      have e9 := e9.symm; subst e9; have e8 := e8.symm; subst e8
      refine M.iret dX12_redeems_41 rfl ?_
      rw [opRed, if_pos hbad]
      exact ⟨rfl, h00, q_a, mRb.fo rfl rfl, ⟨rfl, rfl, q_n.2.2⟩, q_w, q_c, q_r, q_x, q_q, q_k, q_f, q_t⟩
    · skip
      have h0_2 := of_decide_eq_true (bt1 c_14)
      refine M.aload_nR dX12_redeems_17 rfl ?_
      refine M.bipush (v := 9) dX12_redeems_18 (by decide) ?_
      refine M.callV [.int 9] dX12_redeems_20 mdX12_has imX12_has seX12_has lk_X12_260 rfl rfl rfl rfl (m_hasV hA (F := F) hv (k := 9) (by decide)) ?_
      rintro _ I9 F9 ⟨rfl, e9, e8⟩
      have e9 := e9.symm; subst e9; have e8 := e8.symm; subst e8
      refine M.if_eq (tgt := 33) dX12_redeems_23 (by decide) (fun c_23 => ?_) (fun c_23 => ?_)
      · skip
        have hbad : (decide (0 < (fv g 8).length) && decide (0 < (fv g 2).length) && decide (0 < (fv g 9).length) && verS (fv g 9)) = false := by first | rw [(bI_eq0 _).mp c_6, Bool.false_and, Bool.false_and, Bool.false_and] | rw [(bI_eq0 _).mp c_14, Bool.and_false, Bool.false_and, Bool.false_and] | rw [(bI_eq0 _).mp c_23, Bool.and_false, Bool.false_and] | (rw [verS, (bI_eq0 _).mp c_30, Bool.and_false])
        refine M.aload_nR dX12_redeems_33 rfl ?_
        refine M.sipush (v := 400) dX12_redeems_34 (by decide) ?_
        refine M.iconst (v := 1) dX12_redeems_37 (by decide) ?_
        refine M.callV [.int 400, .int 1] dX12_redeems_38 mdX12_refuses imX12_refuses seX12_refuses lk_X12_421 rfl rfl rfl rfl (m_refuses_1 hA hSt 400) ?_
        rintro _ I9 F9 ⟨rfl, e9, e8⟩
        have e9 := e9.symm; subst e9; have e8 := e8.symm; subst e8
        refine M.iret dX12_redeems_41 rfl ?_
        rw [opRed, if_pos hbad]
        exact ⟨rfl, h00, q_a, mRb.fo rfl rfl, ⟨rfl, rfl, q_n.2.2⟩, q_w, q_c, q_r, q_x, q_q, q_k, q_f, q_t⟩
      · skip
        have h0_9 := of_decide_eq_true (bt1 c_23)
        refine M.aload_nR dX12_redeems_26 rfl ?_
        refine M.callV [] dX12_redeems_27 mdX12_isVerifier imX12_isVerifier seX12_isVerifier lk_X12_438 rfl rfl rfl rfl (m_isVerifier hA (F := F) hv h0_9) ?_
        rintro _ I9 F9 ⟨rfl, e9, e8⟩
        have e9 := e9.symm; subst e9; have e8 := e8.symm; subst e8
        refine M.if_ne (tgt := 42) dX12_redeems_30 (by decide) (fun c_30 => ?_) (fun c_30 => ?_)
        · skip
          have hok : ¬ (decide (0 < (fv g 8).length) && decide (0 < (fv g 2).length) && decide (0 < (fv g 9).length) && verS (fv g 9)) = false := by rw [bt1 c_6, bt1 c_14, bt1 c_23, verS, bt1 c_30]; decide
          have hv9l : (fv g 9).length ≤ 128 := by have h9 := bt1 c_30; rw [Bool.and_eq_true] at h9; exact (of_decide_eq_true h9.1).2
          obtain ⟨i8, a1, a2, a3, a4, a5⟩ := hv.at (k := 8) (by decide) h0_8
          refine M.iconst (v := 0) dX12_redeems_42 (by decide) ?_
          refine M.istore_n (L' := [some (.ref m), some (.int (nI c)), some (.int 0), none]) dX12_redeems_43 (by decide) rfl rfl ?_
          have cut_44 : ∀ (k_44 : Nat) (z : Nat) (a9 : Nat → Int32) (b9 : Nat → Int32), (z ≤ (T 27).length) → ((T 27).length + 1 ≤ z + k_44) → (hfn (T 21) (T 27) (fv g 8) = fsti (fun k => decide (fv g 8 = b64 ((T 21).getD (((T 27).getD k []).getD 0 0).toNatClampNeg []) 22)) ((T 27).length - z) z) → M Λ X mX12_redeems m A (mP (opRed N B T R g c)) I (hs F a9 b9) 44 [some (.ref m), some (.int (nI c)), some (.int (nI z)), none] [] := by
            intro k_44
            induction k_44 with
            | zero => intro z a9 b9 h1 h2 hz; exact absurd h2 (by omega)
            | succ k_44 ih_44 =>
              intro z a9 b9 h1 h2 hz
              refine M.iload_n dX12_redeems_44 rfl ?_
              refine M.aload_nR dX12_redeems_45 rfl ?_
              refine M.geti (v := nI (T 27).length) dX12_redeems_46 fl_X12_408 rfl rfl q_k.1 ?_
              refine M.icmp_ge (tgt := 89) dX12_redeems_49 (by decide) (fun c_49 => ?_) (fun c_49 => ?_)
              · skip
                have e1 := nI_gen c_49 h1 (by omega); subst e1
                have hnf : ¬ hfn (T 21) (T 27) (fv g 8) < (T 27).length := by rw [hz, Nat.sub_self]; exact Nat.lt_irrefl _
                refine M.iload_n dX12_redeems_89 rfl ?_
                refine M.aload_nR dX12_redeems_90 rfl ?_
                refine M.geti (v := nI (T 27).length) dX12_redeems_91 fl_X12_408 rfl rfl q_k.1 ?_
                refine M.icmp_eq (tgt := 112) dX12_redeems_94 (by decide) (fun c_94 => ?_) (fun c_94 => absurd rfl c_94)
                refine M.aload_nR dX12_redeems_112 rfl ?_
                refine M.sipush (v := 400) dX12_redeems_113 (by decide) ?_
                refine M.bipush (v := 7) dX12_redeems_116 (by decide) ?_
                refine M.callV [.int 400, .int 7] dX12_redeems_118 mdX12_refuses imX12_refuses seX12_refuses lk_X12_421 rfl rfl rfl rfl (m_refuses_7 hA hSt 400) ?_
                rintro _ I9 F9 ⟨rfl, e9, e8⟩
                have e9 := e9.symm; subst e9; have e8 := e8.symm; subst e8
                refine M.iret dX12_redeems_121 rfl ?_
                rw [opRed, if_neg hok, if_pos hnf]
                exact ⟨rfl, h00, q_a, mRb.fo rfl rfl, ⟨rfl, rfl, q_n.2.2⟩, q_w, q_c, q_r, q_x, q_q, q_k, q_f, q_t⟩
              · skip
                have lt_z : z < (T 27).length := nI_ltn c_49 (by omega) (by omega)
                obtain ⟨z8, hz8, ez8⟩ := w_k.2.1 z lt_z
                refine M.aload_nR dX12_redeems_52 rfl ?_
                refine M.aload_nR dX12_redeems_53 rfl ?_
                refine M.getr dX12_redeems_54 fl_X12_95 rfl rfl ?_
                refine M.iload_n dX12_redeems_57 rfl ?_
                refine M.ialdv (k9 := 39) (j := z) (g := F 39) (v := nI z8) dX12_redeems_58 rfl rfl rfl rfl (show z < 200 by omega) ((q_k.2.1 z lt_z).trans ez8) ?_
                refine M.aload_nR dX12_redeems_59 rfl ?_
                refine M.getr dX12_redeems_60 fl_X12_155 rfl rfl ?_
                refine M.aload_nR dX12_redeems_63 rfl ?_
                refine M.getr dX12_redeems_64 fl_X12_158 rfl rfl ?_
                refine M.bipush (v := 8) dX12_redeems_67 (by decide) ?_
                refine M.ialdv (k9 := 64) (j := 8) (g := F 64) (v := nI i8) dX12_redeems_69 rfl rfl rfl rfl (show 8 < 13 by omega) a1 ?_
                refine M.aload_nR dX12_redeems_70 rfl ?_
                refine M.getr dX12_redeems_71 fl_X12_161 rfl rfl ?_
                refine M.bipush (v := 8) dX12_redeems_74 (by decide) ?_
                refine M.ialdv (k9 := 65) (j := 8) (g := F 65) (v := nI (fv g 8).length) dX12_redeems_76 rfl rfl rfl rfl (show 8 < 13 by omega) a2 ?_
                refine M.callV [.int (nI z8), .ref (A 63), .int (nI i8), .int (nI (fv g 8).length)] dX12_redeems_77 mdX12_isHandle imX12_isHandle seX12_isHandle lk_X12_441 rfl rfl rfl rfl (m_isHandle hA (F := hs F a9 b9) (a := z8) (by omega) (d := (T 21).getD z8 []) (q_x.2.2.2 z8 hz8) (k1 := 63) rfl rfl (by decide) (by decide) a3 a4) ?_
                rintro _ I9 _ ⟨a7, b7, rfl, e9, rfl⟩; have e9 := e9.symm; subst e9
                rw [hs_hs]
                refine M.if_ne (tgt := 89) dX12_redeems_80 (by decide) (fun c_80 => ?_) (fun c_80 => ?_)
                · skip
                  have hz9 : decide (fv g 8 = b64 ((T 21).getD (((T 27).getD z []).getD 0 0).toNatClampNeg []) 22) = decide (fv g 8 = b64 ((T 21).getD z8 []) 22) := by rw [ez8, nI_clamp (by omega)]
                  have hz7 : hfn (T 21) (T 27) (fv g 8) = z := hz.trans (fsti_hit (by omega) (hz9.trans (bt1 c_80)))
                  obtain ⟨q9, hq9, eq9⟩ := w_k.2.2.1 z lt_z
                  have erq : rn (T 27) z 1 = q9 := rn_at eq9 (by omega)
                  obtain ⟨c2, r2, ec, er, hc2, hr2⟩ := w_q.2.2.2.2.2.2 q9 hq9
                  have hr3 := (w_r c2).1
                  have erd := rdT_at (R := R) ec er (by omega) (by omega)
                  have hlt7 : ¬ ¬ hfn (T 21) (T 27) (fv g 8) < (T 27).length := by rw [hz7]; exact fun q => q lt_z
                  refine M.iload_n dX12_redeems_89 rfl ?_
                  refine M.aload_nR dX12_redeems_90 rfl ?_
                  refine M.geti (v := nI (T 27).length) dX12_redeems_91 fl_X12_408 rfl rfl q_k.1 ?_
                  refine M.icmp_eq (tgt := 112) dX12_redeems_94 (by decide) (fun c_94 => absurd c_94 (fun z9 => absurd ((nI_eq (by omega) (by omega)).mp z9) (by omega))) (fun c_94 => ?_)
                  refine M.aload_nR dX12_redeems_97 rfl ?_
                  refine M.getr dX12_redeems_98 fl_X12_70 rfl rfl ?_
                  refine M.aload_nR dX12_redeems_101 rfl ?_
                  refine M.getr dX12_redeems_102 fl_X12_98 rfl rfl ?_
                  refine M.iload_n dX12_redeems_105 rfl ?_
                  refine M.ialdv (k9 := 40) (j := z) (g := F 40) (v := nI q9) dX12_redeems_106 rfl rfl rfl rfl (show z < 200 by omega) ((q_k.2.2.1 z lt_z).trans eq9) ?_
                  refine M.ialdv (k9 := 29) (j := q9) (g := F 29) (v := ro (T 23) q9 0) dX12_redeems_107 rfl rfl rfl rfl (show q9 < 200 by omega) (q_q.2.1 q9 hq9) ?_
                  refine M.iload_n dX12_redeems_108 rfl ?_
                  refine M.icmp_eq (tgt := 122) dX12_redeems_109 (by decide) (fun c_109 => ?_) (fun c_109 => ?_)
                  · skip
                    refine M.aload_nR dX12_redeems_122 rfl ?_
                    refine M.getr dX12_redeems_123 fl_X12_110 rfl rfl ?_
                    refine M.iload_n dX12_redeems_126 rfl ?_
                    refine M.ialdv (k9 := 44) (j := z) (g := F 44) (v := ro (T 27) z 5) dX12_redeems_127 rfl rfl rfl rfl (show z < 200 by omega) (q_k.2.2.2.2.2.2 z lt_z) ?_
                    refine M.if_lt (tgt := 153) dX12_redeems_128 (by decide) (fun c_128 => ?_) (fun c_128 => ?_)
                    · skip
                      have em1 := lt_m1 c_128 (w_k.2.2.2.1 z lt_z) (by omega)
                      refine M.aload_nR dX12_redeems_153 rfl ?_
                      refine M.geti (v := N 25) dX12_redeems_154 fl_X12_366 rfl rfl q_n.2.2.1 ?_
                      refine M.aload_nR dX12_redeems_157 rfl ?_
                      refine M.getr dX12_redeems_158 fl_X12_107 rfl rfl ?_
                      refine M.iload_n dX12_redeems_161 rfl ?_
                      refine M.ialdv (k9 := 43) (j := z) (g := F 43) (v := ro (T 27) z 4) dX12_redeems_162 rfl rfl rfl rfl (show z < 200 by omega) (q_k.2.2.2.2.2.1 z lt_z) ?_
                      refine M.icmp_ge (tgt := 192) dX12_redeems_163 (by decide) (fun c_163 => ?_) (fun c_163 => ?_)
                      · skip
                        have hyes : ro (T 27) z 4 ≤ N 25 ∨ ¬ fv g 2 = rdT (T 23) R (rn (T 27) z 1) ∨ ¬ b64 (shaL (fv g 9)) 43 = (T 25).getD (rn (T 27) z 1) [] := by
                          rw [erq, erd]
                          first | exact Or.inl c_163 | exact Or.inr (Or.inl (of_decide_eq_false ((bI_eq0 _).mp c_176))) | exact Or.inr (Or.inr (of_decide_eq_false ((bI_eq0 _).mp c_189)))
                        refine M.aload_nR dX12_redeems_192 rfl ?_
                        refine M.sipush (v := 400) dX12_redeems_193 (by decide) ?_
                        refine M.bipush (v := 7) dX12_redeems_196 (by decide) ?_
                        refine M.callV [.int 400, .int 7] dX12_redeems_198 mdX12_refuses imX12_refuses seX12_refuses lk_X12_421 rfl rfl rfl rfl (m_refuses_7 hA hSt 400) ?_
                        rintro _ I9 F9 ⟨rfl, e9, e8⟩
                        have e9 := e9.symm; subst e9; have e8 := e8.symm; subst e8
                        refine M.iret dX12_redeems_201 rfl ?_
                        rw [opRed, if_neg hok, if_neg hlt7, hz7, opRed2, if_neg (show ¬ ¬ ro (T 23) (rn (T 27) z 1) 0 = nI c by rw [erq]; exact fun q => q c_109), if_neg (show ¬ ¬ ro (T 27) z 5 < 0 from fun q => q c_128), if_pos hyes]
                        exact ⟨rfl, h00, q_a, mRb.fo rfl rfl, ⟨rfl, rfl, q_n.2.2⟩, q_w, q_c, q_r, q_x, q_q, q_k, q_f, q_t⟩
                      · skip
                        refine M.aload_nR dX12_redeems_166 rfl ?_
                        refine M.aload_nR dX12_redeems_167 rfl ?_
                        refine M.getr dX12_redeems_168 fl_X12_98 rfl rfl ?_
                        refine M.iload_n dX12_redeems_171 rfl ?_
                        refine M.ialdv (k9 := 40) (j := z) (g := F 40) (v := nI q9) dX12_redeems_172 rfl rfl rfl rfl (show z < 200 by omega) ((q_k.2.2.1 z lt_z).trans eq9) ?_
                        refine M.callV [.int (nI q9)] dX12_redeems_173 mdX12_isRedirectOf imX12_isRedirectOf seX12_isRedirectOf lk_X12_445 rfl rfl rfl rfl (m_isRedirectOf hA (F := (hs F a7 b7)) (c := c2) (by omega) (q_r c2 (by omega)) hv h0_2 (k := q9) (r := r2) (by omega) hr2 ((q_q.2.1 q9 hq9).trans ec) ((q_q.2.2.1 q9 hq9).trans er)) ?_
                        rintro _ I9 F9 ⟨rfl, e9, e8⟩
                        have e9 := e9.symm; subst e9; have e8 := e8.symm; subst e8
                        refine M.if_eq (tgt := 192) dX12_redeems_176 (by decide) (fun c_176 => ?_) (fun c_176 => ?_)
                        · skip
                          have hyes : ro (T 27) z 4 ≤ N 25 ∨ ¬ fv g 2 = rdT (T 23) R (rn (T 27) z 1) ∨ ¬ b64 (shaL (fv g 9)) 43 = (T 25).getD (rn (T 27) z 1) [] := by
                            rw [erq, erd]
                            first | exact Or.inl c_163 | exact Or.inr (Or.inl (of_decide_eq_false ((bI_eq0 _).mp c_176))) | exact Or.inr (Or.inr (of_decide_eq_false ((bI_eq0 _).mp c_189)))
                          refine M.aload_nR dX12_redeems_192 rfl ?_
                          refine M.sipush (v := 400) dX12_redeems_193 (by decide) ?_
                          refine M.bipush (v := 7) dX12_redeems_196 (by decide) ?_
                          refine M.callV [.int 400, .int 7] dX12_redeems_198 mdX12_refuses imX12_refuses seX12_refuses lk_X12_421 rfl rfl rfl rfl (m_refuses_7 hA hSt 400) ?_
                          rintro _ I9 F9 ⟨rfl, e9, e8⟩
                          have e9 := e9.symm; subst e9; have e8 := e8.symm; subst e8
                          refine M.iret dX12_redeems_201 rfl ?_
                          rw [opRed, if_neg hok, if_neg hlt7, hz7, opRed2, if_neg (show ¬ ¬ ro (T 23) (rn (T 27) z 1) 0 = nI c by rw [erq]; exact fun q => q c_109), if_neg (show ¬ ¬ ro (T 27) z 5 < 0 from fun q => q c_128), if_pos hyes]
                          exact ⟨rfl, h00, q_a, mRb.fo rfl rfl, ⟨rfl, rfl, q_n.2.2⟩, q_w, q_c, q_r, q_x, q_q, q_k, q_f, q_t⟩
                        · skip
                          refine M.aload_nR dX12_redeems_179 rfl ?_
                          refine M.aload_nR dX12_redeems_180 rfl ?_
                          refine M.getr dX12_redeems_181 fl_X12_98 rfl rfl ?_
                          refine M.iload_n dX12_redeems_184 rfl ?_
                          refine M.ialdv (k9 := 40) (j := z) (g := F 40) (v := nI q9) dX12_redeems_185 rfl rfl rfl rfl (show z < 200 by omega) ((q_k.2.2.1 z lt_z).trans eq9) ?_
                          refine M.callV [.int (nI q9)] dX12_redeems_186 mdX12_isProved imX12_isProved seX12_isProved lk_X12_448 rfl rfl rfl rfl (m_isProved hA hSh (F := (hs F a7 b7)) hv h0_9 hv9l (k := q9) (by omega) (ch := ((T 25).getD q9 [])) (q_q.2.2.2.2.2.1 q9 (by rw [w_q.2.1]; exact hq9))) ?_
                          rintro _ I9 _ ⟨s1, s2, s3, s4, s5, rfl, e9, rfl⟩; have e9 := e9.symm; subst e9
                          refine M.if_ne (tgt := 202) dX12_redeems_189 (by decide) (fun c_189 => ?_) (fun c_189 => ?_)
                          · skip
                            obtain ⟨rb, erb⟩ := w_c.2.2.2.2.2.2.2.1 c hc
                            have hrb : decide (ro (T 5) c 2 = 1) = rb := by rw [show ro (T 5) c 2 = bI rb from erb, bI_is1]
                            have hnot : ¬ (ro (T 27) z 4 ≤ N 25 ∨ ¬ fv g 2 = rdT (T 23) R (rn (T 27) z 1) ∨ ¬ b64 (shaL (fv g 9)) 43 = (T 25).getD (rn (T 27) z 1) []) := by
                              rw [erq, erd]
                              exact fun q => q.elim c_163 (fun q => q.elim (fun q => q (of_decide_eq_true (bt1 c_176))) (fun q => q (of_decide_eq_true (bt1 c_189))))
                            refine M.aload_nR dX12_redeems_202 rfl ?_
                            refine M.aload_nR dX12_redeems_203 rfl ?_
                            refine M.getr dX12_redeems_204 fl_X12_42 rfl rfl ?_
                            refine M.iload_n dX12_redeems_207 rfl ?_
                            refine M.zaldv (k9 := 16) (j := c) (g := F 16) (v := bI rb) dX12_redeems_208 rfl rfl rfl rfl (show c < 8 by omega) ((q_c.2.2.2.2.2 c hc).trans erb) ?_
                            have hgv9 := p_gives (Λ := Λ) (m := m) hA (I := I) (F := (sc5 (hs F a7 b7) s1 s2 s3 s4 s5)) ⟨q_a, q_b, q_n, q_w, q_c, q_r, q_x, q_q, q_k, q_f, q_t⟩ hW9 rb
                            refine M.callV [.int (bI rb)] dX12_redeems_209 mdX12_gives imX12_gives seX12_gives lk_X12_451 rfl rfl rfl rfl hgv9 ?_
                            rintro _ I1 F1 (⟨hgv, rfl, e9, e8⟩ | ⟨ds, W1, hgv, rfl, hI0, hR1⟩)
                            · have e9 := e9.symm; subst e9; have e8 := e8.symm; subst e8
                              refine M.istore_n (L' := [some (.ref m), some (.int (nI c)), some (.int (nI z)), some (.int (-1))]) dX12_redeems_212 (by decide) rfl rfl ?_
                              refine M.iload_n dX12_redeems_213 rfl ?_
                              refine M.if_ge (tgt := 227) dX12_redeems_214 (by decide) (fun c_214 => absurd c_214 (by decide)) (fun c_214 => ?_)
                              refine M.aload_nR dX12_redeems_217 rfl ?_
                              refine M.sipush (v := 503) dX12_redeems_218 (by decide) ?_
                              refine M.bipush (v := 11) dX12_redeems_221 (by decide) ?_
                              refine M.callV [.int 503, .int 11] dX12_redeems_223 mdX12_refuses imX12_refuses seX12_refuses lk_X12_421 rfl rfl rfl rfl (m_refuses_11 hA hSt 503) ?_
                              rintro _ I9 F9 ⟨rfl, e9, e8⟩
                              have e9 := e9.symm; subst e9; have e8 := e8.symm; subst e8
                              refine M.iret dX12_redeems_226 rfl ?_
                              rw [opRed, if_neg hok, if_neg hlt7, hz7, opRed2, if_neg (show ¬ ¬ ro (T 23) (rn (T 27) z 1) 0 = nI c by rw [erq]; exact fun q => q c_109), if_neg (show ¬ ¬ ro (T 27) z 5 < 0 from fun q => q c_128), if_neg hnot, hrb, hgv]
                              exact ⟨rfl, h00, q_a, mRb.fo rfl rfl, ⟨rfl, rfl, q_n.2.2⟩, q_w, q_c, q_r, q_x, q_q, q_k, q_f, q_t⟩
                            · obtain ⟨z_a, z_b, z_n, z_w, z_c, z_r, z_x, z_q, z_k, z_f, z_t⟩ := hR1
                              obtain ⟨k1, k2, k3, k4, k5, k6, k7⟩ := gv_some hgv
                              have h4d := fun d hd => w_x.2.1 d (k4 d hd)
                              have hdn : 1 ≤ ds.length := by rw [k3]; split <;> decide
                              have hE9 : (T 29).length < 300 := by omega
                              have hh29 : rb = true → (T 21).length < 799 := fun q => by have := k2 q; omega
                              have hG9 : rb = true → (T 30).length < 300 := fun q => by have := k2 q; omega
                              have hd19 : tl (F1 23) (4 * (T 21).length) 4 = ds.getD 0 [] := ds_at z_x.2.2.2 hdn
                              have hd29 : rb = true → tl (F1 23) (4 * ((T 21).length + 1)) 4 = ds.getD 1 [] := fun q => ds_at z_x.2.2.2 (by rw [k3, if_pos q]; decide)
                              have hfl : (T 28).length < 200 := by have h8 := w_k.2.2.2.2; have h7 := cntT_pos (p := fun n => decide (ro (T 27) n 5 = -1)) lt_z (decide_eq_true em1); omega
                              refine M.istore_n (L' := [some (.ref m), some (.int (nI c)), some (.int (nI z)), some (.int (nI (T 21).length))]) dX12_redeems_212 (by decide) rfl rfl ?_
                              refine M.iload_n dX12_redeems_213 rfl ?_
                              refine M.if_ge (tgt := 227) dX12_redeems_214 (by decide) (fun c_214 => ?_) (fun c_214 => absurd (nI_pos' (by omega)) c_214)
                              refine M.aload_nR dX12_redeems_227 rfl ?_
                              refine M.getr dX12_redeems_228 fl_X12_110 rfl rfl ?_
                              refine M.iload_n dX12_redeems_231 rfl ?_
                              refine M.aload_nR dX12_redeems_232 rfl ?_
                              refine M.geti (v := nI (T 28).length) dX12_redeems_233 fl_X12_455 rfl rfl z_f.1 ?_
                              refine M.iast (k9 := 44) (j := z) dX12_redeems_236 rfl rfl rfl (show z < 200 by omega) ?_
                              refine M.aload_nR dX12_redeems_237 rfl ?_
                              refine M.getr dX12_redeems_238 fl_X12_113 rfl rfl ?_
                              refine M.aload_nR dX12_redeems_241 rfl ?_
                              refine M.geti (v := nI (T 28).length) dX12_redeems_242 fl_X12_455 rfl rfl z_f.1 ?_
                              refine M.iload_n dX12_redeems_245 rfl ?_
                              refine M.iast (k9 := 46) (j := (T 28).length) dX12_redeems_246 rfl rfl rfl (show (T 28).length < 200 by omega) ?_
                              refine M.aload_nR dX12_redeems_247 rfl ?_
                              refine M.getr dX12_redeems_248 fl_X12_116 rfl rfl ?_
                              refine M.aload_nR dX12_redeems_251 rfl ?_
                              refine M.geti (v := nI (T 28).length) dX12_redeems_252 fl_X12_455 rfl rfl z_f.1 ?_
                              refine M.aload_nR dX12_redeems_255 rfl ?_
                              refine M.getr dX12_redeems_256 fl_X12_101 rfl rfl ?_
                              refine M.iload_n dX12_redeems_259 rfl ?_
                              refine M.ialdv (k9 := 41) (j := z) (g := F1 41) (v := ro (T 27) z 2) dX12_redeems_260 rfl rfl rfl rfl (show z < 200 by omega) (z_k.2.2.2.1 z lt_z) ?_
                              refine M.iast (k9 := 47) (j := (T 28).length) dX12_redeems_261 rfl rfl rfl (show (T 28).length < 200 by omega) ?_
                              refine M.aload_nR dX12_redeems_262 rfl ?_
                              refine M.getr dX12_redeems_263 fl_X12_119 rfl rfl ?_
                              refine M.aload_nR dX12_redeems_266 rfl ?_
                              refine M.geti (v := nI (T 28).length) dX12_redeems_267 fl_X12_455 rfl rfl z_f.1 ?_
                              refine M.aload_nR dX12_redeems_270 rfl ?_
                              refine M.getr dX12_redeems_271 fl_X12_104 rfl rfl ?_
                              refine M.iload_n dX12_redeems_274 rfl ?_
                              refine M.ialdv (k9 := 42) (j := z) (g := F1 42) (v := ro (T 27) z 3) dX12_redeems_275 rfl rfl rfl rfl (show z < 200 by omega) (z_k.2.2.2.2.1 z lt_z) ?_
                              refine M.iast (k9 := 48) (j := (T 28).length) dX12_redeems_276 rfl rfl rfl (show (T 28).length < 200 by omega) ?_
                              refine M.aload_nR dX12_redeems_277 rfl ?_
                              refine M.dup dX12_redeems_278 rfl ?_
                              refine M.geti (v := nI (T 28).length) dX12_redeems_279 fl_X12_455 rfl rfl z_f.1 ?_
                              refine M.iconst (v := 1) dX12_redeems_282 (by decide) ?_
                              refine M.iadd dX12_redeems_283 ?_
                              rw [show (nI (T 28).length) + 1 = nI ((T 28).length + 1) from nI_1 _]
                              refine M.puti dX12_redeems_284 fp_X12_455 rfl rfl ?_
                              refine M.aload_nR dX12_redeems_287 rfl ?_
                              refine M.aload_nR dX12_redeems_288 rfl ?_
                              refine M.geti (v := nI ((T 28).length + 1)) dX12_redeems_289 fl_X12_455 rfl rfl rfl ?_
                              refine M.iconst (v := 1) dX12_redeems_292 (by decide) ?_
                              refine M.isub dX12_redeems_293 ?_
                              rw [show (nI ((T 28).length + 1)) - 1 = nI (T 28).length from nI_pred _]
                              refine M.aload_nR dX12_redeems_294 rfl ?_
                              refine M.getr dX12_redeems_295 fl_X12_104 rfl rfl ?_
                              refine M.iload_n dX12_redeems_298 rfl ?_
                              refine M.ialdv (k9 := 42) (j := z) (g := F1 42) (v := ro (T 27) z 3) dX12_redeems_299 rfl rfl rfl rfl (show z < 200 by omega) (z_k.2.2.2.2.1 z lt_z) ?_
                              refine M.iload_n dX12_redeems_300 rfl ?_
                              refine M.aload_nR dX12_redeems_301 rfl ?_
                              refine M.getr dX12_redeems_302 fl_X12_42 rfl rfl ?_
                              refine M.iload_n dX12_redeems_305 rfl ?_
                              refine M.zaldv (k9 := 16) (j := c) (g := F1 16) (v := bI rb) dX12_redeems_306 rfl rfl rfl rfl (show c < 8 by omega) ((z_c.2.2.2.2.2 c hc).trans erb) ?_
                              have hcm := p_comes (Λ := Λ) (m := m) hA hSt (I := (upd I1 51 (nI ((T 28).length + 1)))) (F := (updF (updF (updF (updF F1 44 z (nI (T 28).length)) 46 ((T 28).length) (nI c)) 47 ((T 28).length) (ro (T 27) z 2)) 48 ((T 28).length) (ro (T 27) z 3))) (N := N) (B := B) (T := (setT (setT (setT (setT T 20 W1) 21 (T 21 ++ ds)) 27 (stc (T 27) z 5 (nI (T 28).length))) 28 ((T 28) ++ [[nI c, ro (T 27) z 2, ro (T 27) z 3, 0, 0]]))) (R := R) ⟨z_a, z_b, z_n, z_w, z_c, z_r, z_x, z_q, z_k.fam w_l.1 lt_z rfl rfl rfl rfl rfl rfl rfl, z_f.add rfl rfl rfl rfl rfl rfl, z_t⟩ (hI0.trans h00) (h := (T 21).length) (f := (T 28).length) (a := a) (x := ro (T 27) z 3) (d1 := ds.getD 0 []) (d2 := ds.getD 1 []) rb hE9 hG9 ha ha1 ha2 w_w (by omega) hh29 hd19 hd29
                              refine M.callV [.int (nI (T 28).length), .int (ro (T 27) z 3), .int (nI (T 21).length), .int (bI rb)] dX12_redeems_307 mdX12_comes imX12_comes seX12_comes lk_X12_458 rfl rfl rfl rfl hcm ?_
                              rintro _ I2 F2 ⟨rfl, h02, hR2⟩
                              obtain ⟨y_a, y_b, y_n, y_w, y_c, y_r, y_x, y_q, y_k, y_f, y_t⟩ := hR2
                              refine M.iret dX12_redeems_310 rfl ?_
                              rw [opRed, if_neg hok, if_neg hlt7, hz7, opRed2, if_neg (show ¬ ¬ ro (T 23) (rn (T 27) z 1) 0 = nI c by rw [erq]; exact fun q => q c_109), if_neg (show ¬ ¬ ro (T 27) z 5 < 0 from fun q => q c_128), if_neg hnot, hrb, hgv]
                              show mP (opCom N B _ R _ _ ds W1 rb) _ _ _
                              rw [opCom, hacl]
                              exact ⟨rfl, h02, y_a, y_b, y_n, y_w, y_c, y_r, y_x, y_q, y_k, y_f, y_t⟩
                          · skip
                            have hyes : ro (T 27) z 4 ≤ N 25 ∨ ¬ fv g 2 = rdT (T 23) R (rn (T 27) z 1) ∨ ¬ b64 (shaL (fv g 9)) 43 = (T 25).getD (rn (T 27) z 1) [] := by
                              rw [erq, erd]
                              first | exact Or.inl c_163 | exact Or.inr (Or.inl (of_decide_eq_false ((bI_eq0 _).mp c_176))) | exact Or.inr (Or.inr (of_decide_eq_false ((bI_eq0 _).mp c_189)))
                            refine M.aload_nR dX12_redeems_192 rfl ?_
                            refine M.sipush (v := 400) dX12_redeems_193 (by decide) ?_
                            refine M.bipush (v := 7) dX12_redeems_196 (by decide) ?_
                            refine M.callV [.int 400, .int 7] dX12_redeems_198 mdX12_refuses imX12_refuses seX12_refuses lk_X12_421 rfl rfl rfl rfl (m_refuses_7 hA hSt 400) ?_
                            rintro _ I9 F9 ⟨rfl, e9, e8⟩
                            have e9 := e9.symm; subst e9; have e8 := e8.symm; subst e8
                            refine M.iret dX12_redeems_201 rfl ?_
                            rw [opRed, if_neg hok, if_neg hlt7, hz7, opRed2, if_neg (show ¬ ¬ ro (T 23) (rn (T 27) z 1) 0 = nI c by rw [erq]; exact fun q => q c_109), if_neg (show ¬ ¬ ro (T 27) z 5 < 0 from fun q => q c_128), if_pos hyes]
                            exact ⟨rfl, h00, q_a, mRb.fo rfl rfl, ⟨rfl, rfl, q_n.2.2⟩, q_w, q_c, q_r, q_x, q_q, q_k, q_f, q_t⟩
                    · skip
                      obtain ⟨f9, hf9, ef9⟩ := ge_f c_128 (w_k.2.2.2.1 z lt_z)
                      refine M.aload_nR dX12_redeems_131 rfl ?_
                      refine M.getr dX12_redeems_132 fl_X12_125 rfl rfl ?_
                      refine M.aload_nR dX12_redeems_135 rfl ?_
                      refine M.getr dX12_redeems_136 fl_X12_110 rfl rfl ?_
                      refine M.iload_n dX12_redeems_139 rfl ?_
                      refine M.ialdv (k9 := 44) (j := z) (g := F 44) (v := nI f9) dX12_redeems_140 rfl rfl rfl rfl (show z < 200 by omega) ((q_k.2.2.2.2.2.2 z lt_z).trans ef9) ?_
                      refine M.iconst (v := 1) dX12_redeems_141 (by decide) ?_
                      refine M.zast1 (k9 := 50) (j := f9) dX12_redeems_142 rfl rfl rfl (show f9 < 200 by omega) (by decide) ?_
                      refine M.aload_nR dX12_redeems_143 rfl ?_
                      refine M.sipush (v := 400) dX12_redeems_144 (by decide) ?_
                      refine M.bipush (v := 7) dX12_redeems_147 (by decide) ?_
                      refine M.callV [.int 400, .int 7] dX12_redeems_149 mdX12_refuses imX12_refuses seX12_refuses lk_X12_421 rfl rfl rfl rfl (m_refuses_7 hA hSt 400) ?_
                      rintro _ I9 F9 ⟨rfl, e9, e8⟩
                      have e9 := e9.symm; subst e9; have e8 := e8.symm; subst e8
                      refine M.iret dX12_redeems_152 rfl ?_
                      rw [opRed, if_neg hok, if_neg hlt7, hz7, opRed2, if_neg (show ¬ ¬ ro (T 23) (rn (T 27) z 1) 0 = nI c by rw [erq]; exact fun q => q c_109), if_pos c_128, rn_at ef9 (by omega)]
                      exact ⟨rfl, h00, q_a, mRb.fo rfl rfl, ⟨rfl, rfl, q_n.2.2⟩, q_w, q_c, q_r, q_x, q_q, q_k, q_f.back w_l.2.1 hf9 rfl rfl rfl rfl rfl rfl, q_t⟩
                  · skip
                    refine M.aload_nR dX12_redeems_112 rfl ?_
                    refine M.sipush (v := 400) dX12_redeems_113 (by decide) ?_
                    refine M.bipush (v := 7) dX12_redeems_116 (by decide) ?_
                    refine M.callV [.int 400, .int 7] dX12_redeems_118 mdX12_refuses imX12_refuses seX12_refuses lk_X12_421 rfl rfl rfl rfl (m_refuses_7 hA hSt 400) ?_
                    rintro _ I9 F9 ⟨rfl, e9, e8⟩
                    have e9 := e9.symm; subst e9; have e8 := e8.symm; subst e8
                    refine M.iret dX12_redeems_121 rfl ?_
                    rw [opRed, if_neg hok, if_neg hlt7, hz7, opRed2, erq, if_pos c_109]
                    exact ⟨rfl, h00, q_a, mRb.fo rfl rfl, ⟨rfl, rfl, q_n.2.2⟩, q_w, q_c, q_r, q_x, q_q, q_k, q_f, q_t⟩
                · skip
                  have hz9 : decide (fv g 8 = b64 ((T 21).getD (((T 27).getD z []).getD 0 0).toNatClampNeg []) 22) = decide (fv g 8 = b64 ((T 21).getD z8 []) 22) := by rw [ez8, nI_clamp (by omega)]
                  refine M.iinc (v := nI (z + 1)) (L' := [some (.ref m), some (.int (nI c)), some (.int (nI (z + 1))), none]) dX12_redeems_83 rfl (nI_1 z) (by decide) rfl rfl ?_
                  refine M.goto (tgt := 44) dX12_redeems_86 (by decide) ?_
                  exact ih_44 (z + 1) _ _ (by omega) (by omega) (hz.trans (fsti_st lt_z (hz9.trans ((bI_eq0 _).mp c_80))))
          have t9 := cut_44 ((T 27).length + 1) 0 (F 68) (F 69) (by omega) (by omega) rfl
          rw [hs_id] at t9
          exact t9
        · skip
          have hbad : (decide (0 < (fv g 8).length) && decide (0 < (fv g 2).length) && decide (0 < (fv g 9).length) && verS (fv g 9)) = false := by first | rw [(bI_eq0 _).mp c_6, Bool.false_and, Bool.false_and, Bool.false_and] | rw [(bI_eq0 _).mp c_14, Bool.and_false, Bool.false_and, Bool.false_and] | rw [(bI_eq0 _).mp c_23, Bool.and_false, Bool.false_and] | (rw [verS, (bI_eq0 _).mp c_30, Bool.and_false])
          refine M.aload_nR dX12_redeems_33 rfl ?_
          refine M.sipush (v := 400) dX12_redeems_34 (by decide) ?_
          refine M.iconst (v := 1) dX12_redeems_37 (by decide) ?_
          refine M.callV [.int 400, .int 1] dX12_redeems_38 mdX12_refuses imX12_refuses seX12_refuses lk_X12_421 rfl rfl rfl rfl (m_refuses_1 hA hSt 400) ?_
          rintro _ I9 F9 ⟨rfl, e9, e8⟩
          have e9 := e9.symm; subst e9; have e8 := e8.symm; subst e8
          refine M.iret dX12_redeems_41 rfl ?_
          rw [opRed, if_pos hbad]
          exact ⟨rfl, h00, q_a, mRb.fo rfl rfl, ⟨rfl, rfl, q_n.2.2⟩, q_w, q_c, q_r, q_x, q_q, q_k, q_f, q_t⟩

theorem p_turns {Λ : kL} {m : Nat} {A : Nat → Nat} {I : Nat → Int32} {F : Nat → Nat → Int32} (hA : mInj A) {N : Nat → Int32} {B : Nat → List Int32} {T R : Nat → List (List Int32)} (hR : mR I F N B T R) (hW : wf N B T R) (hSt : kSt Λ) (h00 : I 0 = 0) {g : fvs} (hv : vrl F 2000 g) {c : Nat} (hc : c < (T 3).length) : mCt Λ mX12_turns m A [.ref m, .int (nI c)] I F (mP (opTur N B T R g c)) := by
  refine mCt.of hA pn_X12 [some (.ref m), some (.int (nI c)), none, none, none, none] rfl (Nat.le_of_ble_eq_true rfl) fun X => ?_
  have hW9 := hW
  obtain ⟨q_a, q_b, q_n, q_w, q_c, q_r, q_x, q_q, q_k, q_f, q_t⟩ := hR
  obtain ⟨w_a, w_n, w_w, w_c, w_r, w_x, w_q, w_k, w_f, w_t, w_m, w_l⟩ := hW
  have hl := w_a.1
  have hc8 := w_c.1
  have hq200 := w_q.1
  have hk200 := w_k.1
  have ht1 := w_t.1
  have ht2 := w_t.2.2.2.2.1
  have hul := w_x.2.2.2.2
  have hd200 : (T 28).length ≤ 200 := by have := w_k.2.2.2.2; omega
  obtain ⟨a, ha1, ha2, ha⟩ := w_n
  have hacl : (N 27).toNatClampNeg = a := by rw [ha, nI_clamp (by omega)]
  refine M.aload_nR dX12_turns_0 rfl ?_
  refine M.bipush (v := 11) dX12_turns_1 (by decide) ?_
  refine M.callV [.int 11] dX12_turns_3 mdX12_has imX12_has seX12_has lk_X12_260 rfl rfl rfl rfl (m_hasV hA (F := F) hv (k := 11) (by decide)) ?_
  rintro _ I9 F9 ⟨rfl, e9, e8⟩
  have e9 := e9.symm; subst e9; have e8 := e8.symm; subst e8
  refine M.if_ne (tgt := 18) dX12_turns_6 (by decide) (fun c_6 => ?_) (fun c_6 => ?_)
  · skip
    have h0_11 := of_decide_eq_true (bt1 c_6)
    refine M.aload_nR dX12_turns_18 rfl ?_
    refine M.bipush (v := 11) dX12_turns_19 (by decide) ?_
    refine M.callV [.int 11] dX12_turns_21 mdX12_refreshOf imX12_refreshOf seX12_refreshOf lk_X12_476 rfl rfl rfl rfl (m_refreshOf hA (I := I) (F := F) (U := (T 21)) (C := (T 30)) q_t.2.2.2.2.2.2.2.1 ht2 (by omega) q_x.2.2.2 q_t.2.2.2.2.2.2.2.2.1 w_t.2.2.2.2.2.1 hv (k9 := 11) (by decide) h0_11) ?_
    rintro _ I9 _ ⟨a7, b7, rfl, e9, rfl⟩; have e9 := e9.symm; subst e9
    by_cases hlt : hfn (T 21) (T 30) (fv g 11) < (T 30).length
    · rw [if_pos hlt]
      obtain ⟨k, hk⟩ : ∃ k, k = hfn (T 21) (T 30) (fv g 11) := ⟨_, rfl⟩
      have hlk : hfn (T 21) (T 30) (fv g 11) < (T 30).length := hlt
      rw [← hk]
      rw [← hk] at hlt
      obtain ⟨f, hf, ef⟩ := w_t.2.2.2.2.2.2.1 k hlt
      have erf : rn (T 30) k 1 = f := rn_at ef (by omega)
      obtain ⟨b1, eb1⟩ := w_t.2.2.2.2.2.2.2 k hlt
      obtain ⟨b2, eb2⟩ := w_f.2 f hf
      refine M.istore_n (L' := [some (.ref m), some (.int (nI c)), some (.int (nI k)), none, none, none]) dX12_turns_24 (by decide) rfl rfl ?_
      refine M.iload_n dX12_turns_25 rfl ?_
      refine M.if_lt (tgt := 58) dX12_turns_26 (by decide) (fun c_26 => absurd c_26 (nI_pos (by omega))) (fun c_26 => ?_)
      refine M.aload_nR dX12_turns_29 rfl ?_
      refine M.getr dX12_turns_30 fl_X12_113 rfl rfl ?_
      refine M.aload_nR dX12_turns_33 rfl ?_
      refine M.getr dX12_turns_34 fl_X12_146 rfl rfl ?_
      refine M.iload_n dX12_turns_37 rfl ?_
      refine M.ialdv (k9 := 59) (j := k) (g := F 59) (v := nI f) dX12_turns_38 rfl rfl rfl rfl (show k < 300 by omega) ((q_t.2.2.2.2.2.2.2.2.2.1 k hlt).trans ef) ?_
      refine M.ialdv (k9 := 46) (j := f) (g := F 46) (v := ro (T 28) f 0) dX12_turns_39 rfl rfl rfl rfl (show f < 200 by omega) (q_f.2.1 f hf) ?_
      refine M.iload_n dX12_turns_40 rfl ?_
      refine M.icmp_ne (tgt := 58) dX12_turns_41 (by decide) (fun c_41 => ?_) (fun c_41 => ?_)
      · skip
        refine M.aload_nR dX12_turns_58 rfl ?_
        refine M.sipush (v := 400) dX12_turns_59 (by decide) ?_
        refine M.bipush (v := 7) dX12_turns_62 (by decide) ?_
        refine M.callV [.int 400, .int 7] dX12_turns_64 mdX12_refuses imX12_refuses seX12_refuses lk_X12_421 rfl rfl rfl rfl (m_refuses_7 hA hSt 400) ?_
        rintro _ I9 F9 ⟨rfl, e9, e8⟩
        have e9 := e9.symm; subst e9; have e8 := e8.symm; subst e8
        refine M.iret dX12_turns_67 rfl ?_
        have hor : ¬ ro (T 28) f 0 = nI c ∨ ro (T 28) f 4 = 1 := by first | exact Or.inl c_41 | exact Or.inr (by rw [show ro (T 28) f 4 = bI b2 from eb2, bt1 c_55]; rfl)
        rw [opTur, if_neg (fun q => q h0_11), if_neg (fun q => q hlk), ← hk, erf, opTur2, if_pos hor]
        exact ⟨rfl, h00, q_a, mRb.fo rfl rfl, ⟨rfl, rfl, q_n.2.2⟩, q_w, q_c, q_r, q_x, q_q, q_k, q_f, q_t⟩
      · skip
        refine M.aload_nR dX12_turns_44 rfl ?_
        refine M.getr dX12_turns_45 fl_X12_125 rfl rfl ?_
        refine M.aload_nR dX12_turns_48 rfl ?_
        refine M.getr dX12_turns_49 fl_X12_146 rfl rfl ?_
        refine M.iload_n dX12_turns_52 rfl ?_
        refine M.ialdv (k9 := 59) (j := k) (g := F 59) (v := nI f) dX12_turns_53 rfl rfl rfl rfl (show k < 300 by omega) ((q_t.2.2.2.2.2.2.2.2.2.1 k hlt).trans ef) ?_
        refine M.zaldv (k9 := 50) (j := f) (g := F 50) (v := bI b2) dX12_turns_54 rfl rfl rfl rfl (show f < 200 by omega) ((q_f.2.2.2.2.2.1 f hf).trans eb2) ?_
        refine M.if_eq (tgt := 68) dX12_turns_55 (by decide) (fun c_55 => ?_) (fun c_55 => ?_)
        · skip
          refine M.aload_nR dX12_turns_68 rfl ?_
          refine M.getr dX12_turns_69 fl_X12_146 rfl rfl ?_
          refine M.iload_n dX12_turns_72 rfl ?_
          refine M.ialdv (k9 := 59) (j := k) (g := F 59) (v := nI f) dX12_turns_73 rfl rfl rfl rfl (show k < 300 by omega) ((q_t.2.2.2.2.2.2.2.2.2.1 k hlt).trans ef) ?_
          refine M.istore_n (L' := [some (.ref m), some (.int (nI c)), some (.int (nI k)), some (.int (nI f)), none, none]) dX12_turns_74 (by decide) rfl rfl ?_
          refine M.aload_nR dX12_turns_75 rfl ?_
          refine M.getr dX12_turns_76 fl_X12_152 rfl rfl ?_
          refine M.iload_n dX12_turns_79 rfl ?_
          refine M.zaldv (k9 := 61) (j := k) (g := F 61) (v := bI b1) dX12_turns_80 rfl rfl rfl rfl (show k < 300 by omega) ((q_t.2.2.2.2.2.2.2.2.2.2.2.1 k hlt).trans eb1) ?_
          refine M.if_eq (tgt := 101) dX12_turns_81 (by decide) (fun c_81 => ?_) (fun c_81 => ?_)
          · skip
            refine M.aload_nR dX12_turns_101 rfl ?_
            refine M.geti (v := N 25) dX12_turns_102 fl_X12_366 rfl rfl q_n.2.2.1 ?_
            refine M.aload_nR dX12_turns_105 rfl ?_
            refine M.getr dX12_turns_106 fl_X12_149 rfl rfl ?_
            refine M.iload_n dX12_turns_109 rfl ?_
            refine M.ialdv (k9 := 60) (j := k) (g := F 60) (v := ro (T 30) k 2) dX12_turns_110 rfl rfl rfl rfl (show k < 300 by omega) (q_t.2.2.2.2.2.2.2.2.2.2.1 k hlt) ?_
            refine M.icmp_lt (tgt := 124) dX12_turns_111 (by decide) (fun c_111 => ?_) (fun c_111 => ?_)
            · skip
              refine M.aload_nR dX12_turns_124 rfl ?_
              refine M.iconst (v := 3) dX12_turns_125 (by decide) ?_
              refine M.callV [.int 3] dX12_turns_126 mdX12_has imX12_has seX12_has lk_X12_260 rfl rfl rfl rfl (m_hasV hA (F := (hs F a7 b7)) hv (k := 3) (by decide)) ?_
              rintro _ I9 F9 ⟨rfl, e9, e8⟩
              have e9 := e9.symm; subst e9; have e8 := e8.symm; subst e8
              refine M.if_eq (tgt := 139) dX12_turns_129 (by decide) (fun c_129 => ?_) (fun c_129 => ?_)
              · skip
                have htx : turX T g f = ro (T 28) f 2 := if_neg (of_decide_eq_false ((bI_eq0 _).mp c_129))
                refine M.aload_nR dX12_turns_139 rfl ?_
                refine M.getr dX12_turns_140 fl_X12_119 rfl rfl ?_
                refine M.iload_n dX12_turns_143 rfl ?_
                refine M.ialdv (k9 := 48) (j := f) (g := F 48) (v := ro (T 28) f 2) dX12_turns_144 rfl rfl rfl rfl (show f < 200 by omega) (q_f.2.2.2.1 f hf) ?_
                refine M.istore (L' := [some (.ref m), some (.int (nI c)), some (.int (nI k)), some (.int (nI f)), some (.int (ro (T 28) f 2)), none]) dX12_turns_145 (by decide) rfl rfl ?_
                rw [← htx]
                refine M.iload dX12_turns_147 rfl ?_
                refine M.if_lt (tgt := 166) dX12_turns_149 (by decide) (fun c_149 => ?_) (fun c_149 => ?_)
                · skip
                  have hbad : turX T g f < 0 ∨ ¬ wthn (turX T g f) (ro (T 28) f 2) = true := by first | exact Or.inl c_149 | exact Or.inr (fun q => c_163 (of_decide_eq_true q))
                  refine M.aload_nR dX12_turns_166 rfl ?_
                  refine M.sipush (v := 400) dX12_turns_167 (by decide) ?_
                  refine M.iconst (v := 5) dX12_turns_170 (by decide) ?_
                  refine M.callV [.int 400, .int 5] dX12_turns_171 mdX12_refuses imX12_refuses seX12_refuses lk_X12_421 rfl rfl rfl rfl (m_refuses_5 hA hSt 400) ?_
                  rintro _ I9 F9 ⟨rfl, e9, e8⟩
                  have e9 := e9.symm; subst e9; have e8 := e8.symm; subst e8
                  refine M.iret dX12_turns_174 rfl ?_
                  have hor : ¬ (¬ ro (T 28) f 0 = nI c ∨ ro (T 28) f 4 = 1) := fun q => q.elim (fun q => q c_41) (fun q => by rw [show ro (T 28) f 4 = bI b2 from eb2, (bI_eq0 _).mp c_55] at q; cases q)
                  rw [opTur, if_neg (fun q => q h0_11), if_neg (fun q => q hlk), ← hk, erf, opTur2, if_neg hor, if_neg (show ¬ ro (T 30) k 3 = 1 by rw [show ro (T 30) k 3 = bI b1 from eb1, (bI_eq0 _).mp c_81]; decide), if_neg (Int32.not_le.mpr c_111), if_pos hbad]
                  exact ⟨rfl, h00, q_a, mRb.fo rfl rfl, ⟨rfl, rfl, q_n.2.2⟩, q_w, q_c, q_r, q_x, q_q, q_k, q_f, q_t⟩
                · skip
                  refine M.iload dX12_turns_152 rfl ?_
                  refine M.aload_nR dX12_turns_154 rfl ?_
                  refine M.getr dX12_turns_155 fl_X12_119 rfl rfl ?_
                  refine M.iload_n dX12_turns_158 rfl ?_
                  refine M.ialdv (k9 := 48) (j := f) (g := F 48) (v := ro (T 28) f 2) dX12_turns_159 rfl rfl rfl rfl (show f < 200 by omega) (q_f.2.2.2.1 f hf) ?_
                  refine M.iconst (v := (-1)) dX12_turns_160 (by decide) ?_
                  refine M.ixor dX12_turns_161 ?_
                  refine M.iand dX12_turns_162 ?_
                  refine M.if_eq (tgt := 175) dX12_turns_163 (by decide) (fun c_163 => ?_) (fun c_163 => ?_)
                  · skip
                    have hgood : ¬ (turX T g f < 0 ∨ ¬ wthn (turX T g f) (ro (T 28) f 2) = true) := fun q => q.elim c_149 (fun q => q (decide_eq_true c_163))
                    refine M.aload_nR dX12_turns_175 rfl ?_
                    refine M.iconst (v := 1) dX12_turns_176 (by decide) ?_
                    have hgv9 := p_gives (Λ := Λ) (m := m) hA (I := I) (F := (hs F a7 b7)) ⟨q_a, q_b, q_n, q_w, q_c, q_r, q_x, q_q, q_k, q_f, q_t⟩ hW9 true
                    refine M.callV [.int 1] dX12_turns_177 mdX12_gives imX12_gives seX12_gives lk_X12_451 rfl rfl rfl rfl hgv9 ?_
                    rintro _ I1 F1 (⟨hgv, rfl, e9, e8⟩ | ⟨ds, W1, hgv, rfl, hI0, hR1⟩)
                    · have e9 := e9.symm; subst e9; have e8 := e8.symm; subst e8
                      refine M.istore (L' := [some (.ref m), some (.int (nI c)), some (.int (nI k)), some (.int (nI f)), some (.int (turX T g f)), some (.int (-1))]) dX12_turns_180 (by decide) rfl rfl ?_
                      refine M.iload dX12_turns_182 rfl ?_
                      refine M.if_ge (tgt := 197) dX12_turns_184 (by decide) (fun c_184 => absurd c_184 (by decide)) (fun c_184 => ?_)
                      refine M.aload_nR dX12_turns_187 rfl ?_
                      refine M.sipush (v := 503) dX12_turns_188 (by decide) ?_
                      refine M.bipush (v := 11) dX12_turns_191 (by decide) ?_
                      refine M.callV [.int 503, .int 11] dX12_turns_193 mdX12_refuses imX12_refuses seX12_refuses lk_X12_421 rfl rfl rfl rfl (m_refuses_11 hA hSt 503) ?_
                      rintro _ I9 F9 ⟨rfl, e9, e8⟩
                      have e9 := e9.symm; subst e9; have e8 := e8.symm; subst e8
                      refine M.iret dX12_turns_196 rfl ?_
                      have hor : ¬ (¬ ro (T 28) f 0 = nI c ∨ ro (T 28) f 4 = 1) := fun q => q.elim (fun q => q c_41) (fun q => by rw [show ro (T 28) f 4 = bI b2 from eb2, (bI_eq0 _).mp c_55] at q; cases q)
                      rw [opTur, if_neg (fun q => q h0_11), if_neg (fun q => q hlk), ← hk, erf, opTur2, if_neg hor, if_neg (show ¬ ro (T 30) k 3 = 1 by rw [show ro (T 30) k 3 = bI b1 from eb1, (bI_eq0 _).mp c_81]; decide), if_neg (Int32.not_le.mpr c_111), if_neg hgood, hgv]
                      exact ⟨rfl, h00, q_a, mRb.fo rfl rfl, ⟨rfl, rfl, q_n.2.2⟩, q_w, q_c, q_r, q_x, q_q, q_k, q_f, q_t⟩
                    · obtain ⟨z_a, z_b, z_n, z_w, z_c, z_r, z_x, z_q, z_k, z_f, z_t⟩ := hR1
                      obtain ⟨k1, k2, k3, k4, k5, k6, k7⟩ := gv_some hgv
                      have h4d := fun d hd => w_x.2.1 d (k4 d hd)
                      have hdn : 1 ≤ ds.length := by rw [k3]; split <;> decide
                      have hE9 : (T 29).length < 300 := by omega
                      have hh29 : true = true → (T 21).length < 799 := fun q => by have := k2 q; omega
                      have hG9 : true = true → (stc (T 30) k 3 1).length < 300 := fun q => by have := k2 q; rw [stc_len]; omega
                      have hd19 : tl (F1 23) (4 * (T 21).length) 4 = ds.getD 0 [] := ds_at z_x.2.2.2 hdn
                      have hd29 : true = true → tl (F1 23) (4 * ((T 21).length + 1)) 4 = ds.getD 1 [] := fun q => ds_at z_x.2.2.2 (by rw [k3, if_pos q]; decide)
                      refine M.istore (L' := [some (.ref m), some (.int (nI c)), some (.int (nI k)), some (.int (nI f)), some (.int (turX T g f)), some (.int (nI (T 21).length))]) dX12_turns_180 (by decide) rfl rfl ?_
                      refine M.iload dX12_turns_182 rfl ?_
                      refine M.if_ge (tgt := 197) dX12_turns_184 (by decide) (fun c_184 => ?_) (fun c_184 => absurd (nI_pos' (by omega)) c_184)
                      refine M.aload_nR dX12_turns_197 rfl ?_
                      refine M.getr dX12_turns_198 fl_X12_152 rfl rfl ?_
                      refine M.iload_n dX12_turns_201 rfl ?_
                      refine M.iconst (v := 1) dX12_turns_202 (by decide) ?_
                      refine M.zast1 (k9 := 61) (j := k) dX12_turns_203 rfl rfl rfl (show k < 300 by omega) (by decide) ?_
                      refine M.aload_nR dX12_turns_204 rfl ?_
                      refine M.getr dX12_turns_205 fl_X12_122 rfl rfl ?_
                      refine M.iload_n dX12_turns_208 rfl ?_
                      refine M.dup2 dX12_turns_209 rfl rfl ?_
                      refine M.ialdv (k9 := 49) (j := f) (g := F1 49) (v := ro (T 28) f 3) dX12_turns_210 rfl rfl rfl rfl (show f < 200 by omega) (z_f.2.2.2.2.1 f hf) ?_
                      refine M.iconst (v := 1) dX12_turns_211 (by decide) ?_
                      refine M.iadd dX12_turns_212 ?_
                      refine M.iast (k9 := 49) (j := f) dX12_turns_213 rfl rfl rfl (show f < 200 by omega) ?_
                      refine M.aload_nR dX12_turns_214 rfl ?_
                      refine M.iload_n dX12_turns_215 rfl ?_
                      refine M.iload dX12_turns_216 rfl ?_
                      refine M.iload dX12_turns_218 rfl ?_
                      refine M.iconst (v := 1) dX12_turns_220 (by decide) ?_
                      have hcm := p_comes (Λ := Λ) (m := m) hA hSt (I := I1) (F := (updF (updF F1 61 k 1) 49 f ((ro (T 28) f 3) + 1))) (N := N) (B := B) (T := (setT (setT (setT (setT T 20 W1) 21 (T 21 ++ ds)) 30 (stc (T 30) k 3 1)) 28 (stc (T 28) f 3 (ro (T 28) f 3 + 1)))) (R := R) ⟨z_a, z_b, z_n, z_w, z_c, z_r, z_x, z_q, z_k, z_f.turn w_l.2.1 hf rfl rfl rfl rfl rfl rfl, z_t.turned w_l.2.2.2.1 hlt rfl rfl rfl rfl rfl rfl rfl rfl rfl rfl rfl⟩ (hI0.trans h00) (h := (T 21).length) (f := f) (a := a) (x := turX T g f) (d1 := ds.getD 0 []) (d2 := ds.getD 1 []) true hE9 hG9 ha ha1 ha2 w_w (by omega) hh29 hd19 hd29
                      refine M.callV [.int (nI f), .int (turX T g f), .int (nI (T 21).length), .int 1] dX12_turns_221 mdX12_comes imX12_comes seX12_comes lk_X12_458 rfl rfl rfl rfl hcm ?_
                      rintro _ I2 F2 ⟨rfl, h02, hR2⟩
                      obtain ⟨y_a, y_b, y_n, y_w, y_c, y_r, y_x, y_q, y_k, y_f, y_t⟩ := hR2
                      refine M.iret dX12_turns_224 rfl ?_
                      have hor : ¬ (¬ ro (T 28) f 0 = nI c ∨ ro (T 28) f 4 = 1) := fun q => q.elim (fun q => q c_41) (fun q => by rw [show ro (T 28) f 4 = bI b2 from eb2, (bI_eq0 _).mp c_55] at q; cases q)
                      rw [opTur, if_neg (fun q => q h0_11), if_neg (fun q => q hlk), ← hk, erf, opTur2, if_neg hor, if_neg (show ¬ ro (T 30) k 3 = 1 by rw [show ro (T 30) k 3 = bI b1 from eb1, (bI_eq0 _).mp c_81]; decide), if_neg (Int32.not_le.mpr c_111), if_neg hgood, hgv]
                      show mP (opCom N B _ R _ _ ds W1 true) _ _ _
                      rw [opCom, hacl]
                      exact ⟨rfl, h02, y_a, y_b, y_n, y_w, y_c, y_r, y_x, y_q, y_k, y_f, y_t⟩
                  · skip
                    have hbad : turX T g f < 0 ∨ ¬ wthn (turX T g f) (ro (T 28) f 2) = true := by first | exact Or.inl c_149 | exact Or.inr (fun q => c_163 (of_decide_eq_true q))
                    refine M.aload_nR dX12_turns_166 rfl ?_
                    refine M.sipush (v := 400) dX12_turns_167 (by decide) ?_
                    refine M.iconst (v := 5) dX12_turns_170 (by decide) ?_
                    refine M.callV [.int 400, .int 5] dX12_turns_171 mdX12_refuses imX12_refuses seX12_refuses lk_X12_421 rfl rfl rfl rfl (m_refuses_5 hA hSt 400) ?_
                    rintro _ I9 F9 ⟨rfl, e9, e8⟩
                    have e9 := e9.symm; subst e9; have e8 := e8.symm; subst e8
                    refine M.iret dX12_turns_174 rfl ?_
                    have hor : ¬ (¬ ro (T 28) f 0 = nI c ∨ ro (T 28) f 4 = 1) := fun q => q.elim (fun q => q c_41) (fun q => by rw [show ro (T 28) f 4 = bI b2 from eb2, (bI_eq0 _).mp c_55] at q; cases q)
                    rw [opTur, if_neg (fun q => q h0_11), if_neg (fun q => q hlk), ← hk, erf, opTur2, if_neg hor, if_neg (show ¬ ro (T 30) k 3 = 1 by rw [show ro (T 30) k 3 = bI b1 from eb1, (bI_eq0 _).mp c_81]; decide), if_neg (Int32.not_le.mpr c_111), if_pos hbad]
                    exact ⟨rfl, h00, q_a, mRb.fo rfl rfl, ⟨rfl, rfl, q_n.2.2⟩, q_w, q_c, q_r, q_x, q_q, q_k, q_f, q_t⟩
              · skip
                have h0_3 := of_decide_eq_true (bt1 c_129)
                have htx : turX T g f = oI (scpS (T 2) (fv g 3)) := if_pos h0_3
                refine M.aload_nR dX12_turns_132 rfl ?_
                refine M.callV [] dX12_turns_133 mdX12_scopesOf imX12_scopesOf seX12_scopesOf lk_X12_369 rfl rfl rfl rfl (m_scopesOfV hA (I := I) (F := (hs F a7 b7)) q_w.1 w_w.1 q_w.2 w_w.2.1 hv h0_3) ?_
                rintro _ I9 F9 ⟨rfl, e9, e8⟩
                have e9 := e9.symm; subst e9; have e8 := e8.symm; subst e8
                refine M.goto (tgt := 145) dX12_turns_136 (by decide) ?_
                refine M.istore (L' := [some (.ref m), some (.int (nI c)), some (.int (nI k)), some (.int (nI f)), some (.int (oI (scpS (T 2) (fv g 3)))), none]) dX12_turns_145 (by decide) rfl rfl ?_
                rw [← htx]
                refine M.iload dX12_turns_147 rfl ?_
                refine M.if_lt (tgt := 166) dX12_turns_149 (by decide) (fun c_149 => ?_) (fun c_149 => ?_)
                · skip
                  have hbad : turX T g f < 0 ∨ ¬ wthn (turX T g f) (ro (T 28) f 2) = true := by first | exact Or.inl c_149 | exact Or.inr (fun q => c_163 (of_decide_eq_true q))
                  refine M.aload_nR dX12_turns_166 rfl ?_
                  refine M.sipush (v := 400) dX12_turns_167 (by decide) ?_
                  refine M.iconst (v := 5) dX12_turns_170 (by decide) ?_
                  refine M.callV [.int 400, .int 5] dX12_turns_171 mdX12_refuses imX12_refuses seX12_refuses lk_X12_421 rfl rfl rfl rfl (m_refuses_5 hA hSt 400) ?_
                  rintro _ I9 F9 ⟨rfl, e9, e8⟩
                  have e9 := e9.symm; subst e9; have e8 := e8.symm; subst e8
                  refine M.iret dX12_turns_174 rfl ?_
                  have hor : ¬ (¬ ro (T 28) f 0 = nI c ∨ ro (T 28) f 4 = 1) := fun q => q.elim (fun q => q c_41) (fun q => by rw [show ro (T 28) f 4 = bI b2 from eb2, (bI_eq0 _).mp c_55] at q; cases q)
                  rw [opTur, if_neg (fun q => q h0_11), if_neg (fun q => q hlk), ← hk, erf, opTur2, if_neg hor, if_neg (show ¬ ro (T 30) k 3 = 1 by rw [show ro (T 30) k 3 = bI b1 from eb1, (bI_eq0 _).mp c_81]; decide), if_neg (Int32.not_le.mpr c_111), if_pos hbad]
                  exact ⟨rfl, h00, q_a, mRb.fo rfl rfl, ⟨rfl, rfl, q_n.2.2⟩, q_w, q_c, q_r, q_x, q_q, q_k, q_f, q_t⟩
                · skip
                  refine M.iload dX12_turns_152 rfl ?_
                  refine M.aload_nR dX12_turns_154 rfl ?_
                  refine M.getr dX12_turns_155 fl_X12_119 rfl rfl ?_
                  refine M.iload_n dX12_turns_158 rfl ?_
                  refine M.ialdv (k9 := 48) (j := f) (g := F 48) (v := ro (T 28) f 2) dX12_turns_159 rfl rfl rfl rfl (show f < 200 by omega) (q_f.2.2.2.1 f hf) ?_
                  refine M.iconst (v := (-1)) dX12_turns_160 (by decide) ?_
                  refine M.ixor dX12_turns_161 ?_
                  refine M.iand dX12_turns_162 ?_
                  refine M.if_eq (tgt := 175) dX12_turns_163 (by decide) (fun c_163 => ?_) (fun c_163 => ?_)
                  · skip
                    have hgood : ¬ (turX T g f < 0 ∨ ¬ wthn (turX T g f) (ro (T 28) f 2) = true) := fun q => q.elim c_149 (fun q => q (decide_eq_true c_163))
                    refine M.aload_nR dX12_turns_175 rfl ?_
                    refine M.iconst (v := 1) dX12_turns_176 (by decide) ?_
                    have hgv9 := p_gives (Λ := Λ) (m := m) hA (I := I) (F := (hs F a7 b7)) ⟨q_a, q_b, q_n, q_w, q_c, q_r, q_x, q_q, q_k, q_f, q_t⟩ hW9 true
                    refine M.callV [.int 1] dX12_turns_177 mdX12_gives imX12_gives seX12_gives lk_X12_451 rfl rfl rfl rfl hgv9 ?_
                    rintro _ I1 F1 (⟨hgv, rfl, e9, e8⟩ | ⟨ds, W1, hgv, rfl, hI0, hR1⟩)
                    · have e9 := e9.symm; subst e9; have e8 := e8.symm; subst e8
                      refine M.istore (L' := [some (.ref m), some (.int (nI c)), some (.int (nI k)), some (.int (nI f)), some (.int (turX T g f)), some (.int (-1))]) dX12_turns_180 (by decide) rfl rfl ?_
                      refine M.iload dX12_turns_182 rfl ?_
                      refine M.if_ge (tgt := 197) dX12_turns_184 (by decide) (fun c_184 => absurd c_184 (by decide)) (fun c_184 => ?_)
                      refine M.aload_nR dX12_turns_187 rfl ?_
                      refine M.sipush (v := 503) dX12_turns_188 (by decide) ?_
                      refine M.bipush (v := 11) dX12_turns_191 (by decide) ?_
                      refine M.callV [.int 503, .int 11] dX12_turns_193 mdX12_refuses imX12_refuses seX12_refuses lk_X12_421 rfl rfl rfl rfl (m_refuses_11 hA hSt 503) ?_
                      rintro _ I9 F9 ⟨rfl, e9, e8⟩
                      have e9 := e9.symm; subst e9; have e8 := e8.symm; subst e8
                      refine M.iret dX12_turns_196 rfl ?_
                      have hor : ¬ (¬ ro (T 28) f 0 = nI c ∨ ro (T 28) f 4 = 1) := fun q => q.elim (fun q => q c_41) (fun q => by rw [show ro (T 28) f 4 = bI b2 from eb2, (bI_eq0 _).mp c_55] at q; cases q)
                      rw [opTur, if_neg (fun q => q h0_11), if_neg (fun q => q hlk), ← hk, erf, opTur2, if_neg hor, if_neg (show ¬ ro (T 30) k 3 = 1 by rw [show ro (T 30) k 3 = bI b1 from eb1, (bI_eq0 _).mp c_81]; decide), if_neg (Int32.not_le.mpr c_111), if_neg hgood, hgv]
                      exact ⟨rfl, h00, q_a, mRb.fo rfl rfl, ⟨rfl, rfl, q_n.2.2⟩, q_w, q_c, q_r, q_x, q_q, q_k, q_f, q_t⟩
                    · obtain ⟨z_a, z_b, z_n, z_w, z_c, z_r, z_x, z_q, z_k, z_f, z_t⟩ := hR1
                      obtain ⟨k1, k2, k3, k4, k5, k6, k7⟩ := gv_some hgv
                      have h4d := fun d hd => w_x.2.1 d (k4 d hd)
                      have hdn : 1 ≤ ds.length := by rw [k3]; split <;> decide
                      have hE9 : (T 29).length < 300 := by omega
                      have hh29 : true = true → (T 21).length < 799 := fun q => by have := k2 q; omega
                      have hG9 : true = true → (stc (T 30) k 3 1).length < 300 := fun q => by have := k2 q; rw [stc_len]; omega
                      have hd19 : tl (F1 23) (4 * (T 21).length) 4 = ds.getD 0 [] := ds_at z_x.2.2.2 hdn
                      have hd29 : true = true → tl (F1 23) (4 * ((T 21).length + 1)) 4 = ds.getD 1 [] := fun q => ds_at z_x.2.2.2 (by rw [k3, if_pos q]; decide)
                      refine M.istore (L' := [some (.ref m), some (.int (nI c)), some (.int (nI k)), some (.int (nI f)), some (.int (turX T g f)), some (.int (nI (T 21).length))]) dX12_turns_180 (by decide) rfl rfl ?_
                      refine M.iload dX12_turns_182 rfl ?_
                      refine M.if_ge (tgt := 197) dX12_turns_184 (by decide) (fun c_184 => ?_) (fun c_184 => absurd (nI_pos' (by omega)) c_184)
                      refine M.aload_nR dX12_turns_197 rfl ?_
                      refine M.getr dX12_turns_198 fl_X12_152 rfl rfl ?_
                      refine M.iload_n dX12_turns_201 rfl ?_
                      refine M.iconst (v := 1) dX12_turns_202 (by decide) ?_
                      refine M.zast1 (k9 := 61) (j := k) dX12_turns_203 rfl rfl rfl (show k < 300 by omega) (by decide) ?_
                      refine M.aload_nR dX12_turns_204 rfl ?_
                      refine M.getr dX12_turns_205 fl_X12_122 rfl rfl ?_
                      refine M.iload_n dX12_turns_208 rfl ?_
                      refine M.dup2 dX12_turns_209 rfl rfl ?_
                      refine M.ialdv (k9 := 49) (j := f) (g := F1 49) (v := ro (T 28) f 3) dX12_turns_210 rfl rfl rfl rfl (show f < 200 by omega) (z_f.2.2.2.2.1 f hf) ?_
                      refine M.iconst (v := 1) dX12_turns_211 (by decide) ?_
                      refine M.iadd dX12_turns_212 ?_
                      refine M.iast (k9 := 49) (j := f) dX12_turns_213 rfl rfl rfl (show f < 200 by omega) ?_
                      refine M.aload_nR dX12_turns_214 rfl ?_
                      refine M.iload_n dX12_turns_215 rfl ?_
                      refine M.iload dX12_turns_216 rfl ?_
                      refine M.iload dX12_turns_218 rfl ?_
                      refine M.iconst (v := 1) dX12_turns_220 (by decide) ?_
                      have hcm := p_comes (Λ := Λ) (m := m) hA hSt (I := I1) (F := (updF (updF F1 61 k 1) 49 f ((ro (T 28) f 3) + 1))) (N := N) (B := B) (T := (setT (setT (setT (setT T 20 W1) 21 (T 21 ++ ds)) 30 (stc (T 30) k 3 1)) 28 (stc (T 28) f 3 (ro (T 28) f 3 + 1)))) (R := R) ⟨z_a, z_b, z_n, z_w, z_c, z_r, z_x, z_q, z_k, z_f.turn w_l.2.1 hf rfl rfl rfl rfl rfl rfl, z_t.turned w_l.2.2.2.1 hlt rfl rfl rfl rfl rfl rfl rfl rfl rfl rfl rfl⟩ (hI0.trans h00) (h := (T 21).length) (f := f) (a := a) (x := turX T g f) (d1 := ds.getD 0 []) (d2 := ds.getD 1 []) true hE9 hG9 ha ha1 ha2 w_w (by omega) hh29 hd19 hd29
                      refine M.callV [.int (nI f), .int (turX T g f), .int (nI (T 21).length), .int 1] dX12_turns_221 mdX12_comes imX12_comes seX12_comes lk_X12_458 rfl rfl rfl rfl hcm ?_
                      rintro _ I2 F2 ⟨rfl, h02, hR2⟩
                      obtain ⟨y_a, y_b, y_n, y_w, y_c, y_r, y_x, y_q, y_k, y_f, y_t⟩ := hR2
                      refine M.iret dX12_turns_224 rfl ?_
                      have hor : ¬ (¬ ro (T 28) f 0 = nI c ∨ ro (T 28) f 4 = 1) := fun q => q.elim (fun q => q c_41) (fun q => by rw [show ro (T 28) f 4 = bI b2 from eb2, (bI_eq0 _).mp c_55] at q; cases q)
                      rw [opTur, if_neg (fun q => q h0_11), if_neg (fun q => q hlk), ← hk, erf, opTur2, if_neg hor, if_neg (show ¬ ro (T 30) k 3 = 1 by rw [show ro (T 30) k 3 = bI b1 from eb1, (bI_eq0 _).mp c_81]; decide), if_neg (Int32.not_le.mpr c_111), if_neg hgood, hgv]
                      show mP (opCom N B _ R _ _ ds W1 true) _ _ _
                      rw [opCom, hacl]
                      exact ⟨rfl, h02, y_a, y_b, y_n, y_w, y_c, y_r, y_x, y_q, y_k, y_f, y_t⟩
                  · skip
                    have hbad : turX T g f < 0 ∨ ¬ wthn (turX T g f) (ro (T 28) f 2) = true := by first | exact Or.inl c_149 | exact Or.inr (fun q => c_163 (of_decide_eq_true q))
                    refine M.aload_nR dX12_turns_166 rfl ?_
                    refine M.sipush (v := 400) dX12_turns_167 (by decide) ?_
                    refine M.iconst (v := 5) dX12_turns_170 (by decide) ?_
                    refine M.callV [.int 400, .int 5] dX12_turns_171 mdX12_refuses imX12_refuses seX12_refuses lk_X12_421 rfl rfl rfl rfl (m_refuses_5 hA hSt 400) ?_
                    rintro _ I9 F9 ⟨rfl, e9, e8⟩
                    have e9 := e9.symm; subst e9; have e8 := e8.symm; subst e8
                    refine M.iret dX12_turns_174 rfl ?_
                    have hor : ¬ (¬ ro (T 28) f 0 = nI c ∨ ro (T 28) f 4 = 1) := fun q => q.elim (fun q => q c_41) (fun q => by rw [show ro (T 28) f 4 = bI b2 from eb2, (bI_eq0 _).mp c_55] at q; cases q)
                    rw [opTur, if_neg (fun q => q h0_11), if_neg (fun q => q hlk), ← hk, erf, opTur2, if_neg hor, if_neg (show ¬ ro (T 30) k 3 = 1 by rw [show ro (T 30) k 3 = bI b1 from eb1, (bI_eq0 _).mp c_81]; decide), if_neg (Int32.not_le.mpr c_111), if_pos hbad]
                    exact ⟨rfl, h00, q_a, mRb.fo rfl rfl, ⟨rfl, rfl, q_n.2.2⟩, q_w, q_c, q_r, q_x, q_q, q_k, q_f, q_t⟩
            · skip
              refine M.aload_nR dX12_turns_114 rfl ?_
              refine M.sipush (v := 400) dX12_turns_115 (by decide) ?_
              refine M.bipush (v := 7) dX12_turns_118 (by decide) ?_
              refine M.callV [.int 400, .int 7] dX12_turns_120 mdX12_refuses imX12_refuses seX12_refuses lk_X12_421 rfl rfl rfl rfl (m_refuses_7 hA hSt 400) ?_
              rintro _ I9 F9 ⟨rfl, e9, e8⟩
              have e9 := e9.symm; subst e9; have e8 := e8.symm; subst e8
              refine M.iret dX12_turns_123 rfl ?_
              have hor : ¬ (¬ ro (T 28) f 0 = nI c ∨ ro (T 28) f 4 = 1) := fun q => q.elim (fun q => q c_41) (fun q => by rw [show ro (T 28) f 4 = bI b2 from eb2, (bI_eq0 _).mp c_55] at q; cases q)
              rw [opTur, if_neg (fun q => q h0_11), if_neg (fun q => q hlk), ← hk, erf, opTur2, if_neg hor, if_neg (show ¬ ro (T 30) k 3 = 1 by rw [show ro (T 30) k 3 = bI b1 from eb1, (bI_eq0 _).mp c_81]; decide), if_pos (Int32.not_lt.mp c_111)]
              exact ⟨rfl, h00, q_a, mRb.fo rfl rfl, ⟨rfl, rfl, q_n.2.2⟩, q_w, q_c, q_r, q_x, q_q, q_k, q_f, q_t⟩
          · skip
            refine M.aload_nR dX12_turns_84 rfl ?_
            refine M.getr dX12_turns_85 fl_X12_125 rfl rfl ?_
            refine M.iload_n dX12_turns_88 rfl ?_
            refine M.iconst (v := 1) dX12_turns_89 (by decide) ?_
            refine M.zast1 (k9 := 50) (j := f) dX12_turns_90 rfl rfl rfl (show f < 200 by omega) (by decide) ?_
            refine M.aload_nR dX12_turns_91 rfl ?_
            refine M.sipush (v := 400) dX12_turns_92 (by decide) ?_
            refine M.bipush (v := 7) dX12_turns_95 (by decide) ?_
            refine M.callV [.int 400, .int 7] dX12_turns_97 mdX12_refuses imX12_refuses seX12_refuses lk_X12_421 rfl rfl rfl rfl (m_refuses_7 hA hSt 400) ?_
            rintro _ I9 F9 ⟨rfl, e9, e8⟩
            have e9 := e9.symm; subst e9; have e8 := e8.symm; subst e8
            refine M.iret dX12_turns_100 rfl ?_
            have hor : ¬ (¬ ro (T 28) f 0 = nI c ∨ ro (T 28) f 4 = 1) := fun q => q.elim (fun q => q c_41) (fun q => by rw [show ro (T 28) f 4 = bI b2 from eb2, (bI_eq0 _).mp c_55] at q; cases q)
            rw [opTur, if_neg (fun q => q h0_11), if_neg (fun q => q hlk), ← hk, erf, opTur2, if_neg hor, if_pos (show ro (T 30) k 3 = 1 by rw [show ro (T 30) k 3 = bI b1 from eb1, bt1 c_81]; rfl)]
            exact ⟨rfl, h00, q_a, mRb.fo rfl rfl, ⟨rfl, rfl, q_n.2.2⟩, q_w, q_c, q_r, q_x, q_q, q_k, q_f.back w_l.2.1 hf rfl rfl rfl rfl rfl rfl, q_t⟩
        · skip
          refine M.aload_nR dX12_turns_58 rfl ?_
          refine M.sipush (v := 400) dX12_turns_59 (by decide) ?_
          refine M.bipush (v := 7) dX12_turns_62 (by decide) ?_
          refine M.callV [.int 400, .int 7] dX12_turns_64 mdX12_refuses imX12_refuses seX12_refuses lk_X12_421 rfl rfl rfl rfl (m_refuses_7 hA hSt 400) ?_
          rintro _ I9 F9 ⟨rfl, e9, e8⟩
          have e9 := e9.symm; subst e9; have e8 := e8.symm; subst e8
          refine M.iret dX12_turns_67 rfl ?_
          have hor : ¬ ro (T 28) f 0 = nI c ∨ ro (T 28) f 4 = 1 := by first | exact Or.inl c_41 | exact Or.inr (by rw [show ro (T 28) f 4 = bI b2 from eb2, bt1 c_55]; rfl)
          rw [opTur, if_neg (fun q => q h0_11), if_neg (fun q => q hlk), ← hk, erf, opTur2, if_pos hor]
          exact ⟨rfl, h00, q_a, mRb.fo rfl rfl, ⟨rfl, rfl, q_n.2.2⟩, q_w, q_c, q_r, q_x, q_q, q_k, q_f, q_t⟩
    · rw [if_neg hlt]
      refine M.istore_n (L' := [some (.ref m), some (.int (nI c)), some (.int (-1)), none, none, none]) dX12_turns_24 (by decide) rfl rfl ?_
      refine M.iload_n dX12_turns_25 rfl ?_
      refine M.if_lt (tgt := 58) dX12_turns_26 (by decide) (fun c_26 => ?_) (fun c_26 => absurd (by decide) c_26)
      refine M.aload_nR dX12_turns_58 rfl ?_
      refine M.sipush (v := 400) dX12_turns_59 (by decide) ?_
      refine M.bipush (v := 7) dX12_turns_62 (by decide) ?_
      refine M.callV [.int 400, .int 7] dX12_turns_64 mdX12_refuses imX12_refuses seX12_refuses lk_X12_421 rfl rfl rfl rfl (m_refuses_7 hA hSt 400) ?_
      rintro _ I9 F9 ⟨rfl, e9, e8⟩
      have e9 := e9.symm; subst e9; have e8 := e8.symm; subst e8
      refine M.iret dX12_turns_67 rfl ?_
      rw [opTur, if_neg (fun q => q h0_11), if_pos hlt]
      exact ⟨rfl, h00, q_a, mRb.fo rfl rfl, ⟨rfl, rfl, q_n.2.2⟩, q_w, q_c, q_r, q_x, q_q, q_k, q_f, q_t⟩
  · skip
    have hno := of_decide_eq_false ((bI_eq0 _).mp c_6)
    refine M.aload_nR dX12_turns_9 rfl ?_
    refine M.sipush (v := 400) dX12_turns_10 (by decide) ?_
    refine M.iconst (v := 1) dX12_turns_13 (by decide) ?_
    refine M.callV [.int 400, .int 1] dX12_turns_14 mdX12_refuses imX12_refuses seX12_refuses lk_X12_421 rfl rfl rfl rfl (m_refuses_1 hA hSt 400) ?_
    rintro _ I9 F9 ⟨rfl, e9, e8⟩
    have e9 := e9.symm; subst e9; have e8 := e8.symm; subst e8
    refine M.iret dX12_turns_17 rfl ?_
    rw [opTur, if_pos hno]
    exact ⟨rfl, h00, q_a, mRb.fo rfl rfl, ⟨rfl, rfl, q_n.2.2⟩, q_w, q_c, q_r, q_x, q_q, q_k, q_f, q_t⟩
