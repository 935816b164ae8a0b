/-! the class: tokens are given -/
theorem setT_id (T : Nat → List (List Int32)) (k : Nat) : setT T k (T k) = T := by
  funext j
  rw [setT]
  by_cases h : j = k
  · rw [if_pos h, h]
  · rw [if_neg h]
theorem setT_n {T : Nat → List (List Int32)} {k j : Nat} {v : List (List Int32)} (h : j ≠ k) : setT T k v j = T j := if_neg h
theorem setT_s {T : Nat → List (List Int32)} {k : Nat} {v : List (List Int32)} : setT T k v k = v := if_pos rfl
theorem rl_stc {C : List (List Int32)} {n k c : Nat} {x : Int32} (h : rl C n) : rl (stc C k c x) n := fun m hm => by
  rw [stc_len] at hm
  rw [stc, getD_set]
  by_cases e : k = m ∧ m < C.length
  · rw [if_pos e, List.length_set, e.1]; exact h m hm
  · rw [if_neg e]; exact h m hm
theorem lwr_ne {C : List (List Int32)} {k c d b : Nat} {x : Int32} (h : lwr C d b) (hc : c ≠ d) : lwr (stc C k c x) d b := fun n hn => by
  rw [stc_len] at hn
  obtain ⟨j, hj, e⟩ := h n hn
  exact ⟨j, hj, (ro_ne (Or.inl hc)).trans e⟩
theorem zro_stc {C : List (List Int32)} {k c : Nat} {b : Bool} (h : zro C c) : zro (stc C k c (bI b)) c := fun n hn => by
  rw [stc_len] at hn
  obtain ⟨b', e⟩ := h n hn
  have e' : ro C n c = bI b' := e
  have e2 := ro_stc (C := C) (n := k) (c := c) (m := n) (d := c) (x := bI b)
  by_cases q : k = n ∧ n < C.length ∧ c = c ∧ c < (C.getD k []).length
  · exact ⟨b, e2.trans (if_pos q)⟩
  · exact ⟨b', (e2.trans (if_neg q)).trans e'⟩
theorem zro_ne {C : List (List Int32)} {k c d : Nat} {x : Int32} (h : zro C d) (hc : c ≠ d) : zro (stc C k c x) d := fun n hn => by
  rw [stc_len] at hn
  obtain ⟨b', e⟩ := h n hn
  exact ⟨b', (ro_ne (Or.inl hc)).trans e⟩
theorem wf_back {N : Nat → Int32} {B : Nat → List Int32} {T R : Nat → List (List Int32)} (h : wf N B T R) (f : Nat) : wf N B (setT T 28 (stc (T 28) f 4 1)) R := by
  obtain ⟨w_a, w_n, w_w, w_c, w_r, w_x, w_q, w_k, w_f, w_t, w_m, w_l⟩ := h
  refine ⟨w_a, w_n, w_w, w_c, w_r, w_x, w_q, ?_, ?_, ?_, w_m, ?_⟩
  · show wfk (T 27) (T 23) (stc (T 28) f 4 1) (T 21)
    rw [wfk, stc_len]
    exact w_k
  · exact ⟨lwr_ne w_f.1 (by decide), zro_stc (b := true) w_f.2⟩
  · show wft (T 29) (T 30) (T 21) (stc (T 28) f 4 1)
    rw [wft, stc_len]
    exact w_t
  · exact ⟨w_l.1, rl_stc w_l.2.1, w_l.2.2⟩
theorem revD_ro {T : Nat → List (List Int32)} {g : fvs} {c f : Nat} : ro (revD T g c) f 0 = ro (T 28) f 0 := by
  rw [revD]
  by_cases h : hfn (T 21) (T 30) (fv g 12) < (T 30).length ∧ ro (T 28) (rn (T 30) (hfn (T 21) (T 30) (fv g 12)) 1) 0 = nI c
  · rw [if_pos h, ro_ne (Or.inl (by decide))]
  · rw [if_neg h]
theorem cdl_le (a n : Nat) : (cdl a n).length ≤ n := by
  induction n with
  | zero => exact Nat.le_refl 0
  | succ n ih =>
    rw [cdl, List.length_append]
    by_cases h : 10 ^ n ≤ a
    · rw [if_pos h, List.length_singleton]; omega
    · rw [if_neg h]; exact (show 0 + (cdl a n).length ≤ n + 1 by omega)

theorem q_revoke {Λ : kL} {S : Nat → Nat} {G : Nat → kc} {D : kh} (hS : cInj S) {A L : Nat → List Nat} {N : Nat → Int32} {B : Nat → List Int32} {T R : Nat → List (List Int32)} (hR : cR Λ S G D A L N B T R) (hW : wf N B T R) (hSt : kSt Λ) : cCt Λ mX11_revoke 0 0 S [.ref (S 0)] G D (cP Λ S (opRev N B T R)) := by
  refine cCt.of hS pn_X11 [some (.ref (S 0)), none, none, none] rfl (Nat.le_of_ble_eq_true rfl) fun X => ?_
  have hR0 := hR; have hW0 := hW
  obtain ⟨p_a, p_b, p_n, p_k, p_f, p_h, p_w, p_c, p_r, p_q, p_o, p_m, p_t, p_d⟩ := hR
  obtain ⟨w_a, w_n, w_w, w_c, w_r, w_x, w_q, w_k, w_f, w_t, w_m, w_l⟩ := hW
  have p_a9 := p_a; obtain ⟨ft, a1, a2, a3, a4, a5, a6⟩ := p_a9
  have p_b9 := p_b; obtain ⟨fo9, b1, b2, b3, b4, b5, b6⟩ := p_b9
  refine C.aload_nR dX11_revoke_0 rfl ?_
  refine C.callVS0 (k9 := 0) [] dX11_revoke_1 mdX11_readForm imX11_readForm seX11_readForm kc_12 rfl p_n lk_X11_187 rfl rfl rfl rfl (k_readForm hS hR0 hW0 hSt) ?_
  rintro _ G1 D9 ⟨e8, hR1, hres⟩; have e8 := e8.symm; subst e8
  obtain ⟨B1, hB1⟩ : ∃ B1, B1 = setB B 0 [] := ⟨_, rfl⟩
  rw [← hB1] at hR1
  have hW1 : wf N B1 T R := by rw [hB1]; exact ⟨⟨Nat.zero_le _, bts_nil, hW0.1.2.2⟩, hW0.2⟩
  clear a1 a2 a3 a4 a5 a6 b1 b2 b3 b4 b5 b6 p_a p_b p_n p_k p_f p_h p_w p_c p_r p_q p_o p_m p_t p_d
  have hR2 := hR1; obtain ⟨p_a, p_b, p_n, p_k, p_f, p_h, p_w, p_c, p_r, p_q, p_o, p_m, p_t, p_d⟩ := hR2
  have p_a9 := p_a; obtain ⟨ft, a1, a2, a3, a4, a5, a6⟩ := p_a9
  have p_b9 := p_b; obtain ⟨fo9, b1, b2, b3, b4, b5, b6⟩ := p_b9
  rcases hres with ⟨g, hfm, rfl, hG⟩ | ⟨hfm, rfl⟩
  · skip
    have hf9_1 := hG.1.2.2.2.2.1; obtain ⟨to_1, bq_1, nq_1, fq_1, _, _⟩ := hf9_1
    have ht9_1 := hG.2.2.1; obtain ⟨bt_1, ff_1, gt_1, gr_1, _⟩ := ht9_1
    have hf9_10 := hG.1.2.2.2.2.2.2.2.2.2.2.2.2.2.1; obtain ⟨to_10, bq_10, nq_10, fq_10, _, _⟩ := hf9_10
    have ht9_10 := hG.2.2.2.2.2.2.2.2.2.2.2.1; obtain ⟨bt_10, ff_10, gt_10, gr_10, _⟩ := ht9_10
    have hf9_12 := hG.1.2.2.2.2.2.2.2.2.2.2.2.2.2.2.2; obtain ⟨to_12, bq_12, nq_12, fq_12, _, _⟩ := hf9_12
    have ht9_12 := hG.2.2.2.2.2.2.2.2.2.2.2.2.2; obtain ⟨bt_12, ff_12, gt_12, gr_12, _⟩ := ht9_12
    refine C.if_ne (tgt := 16) dX11_revoke_4 (by decide) (fun c_4 => ?_) (fun c_4 => absurd c_4 (by decide))
    refine C.aload_nR dX11_revoke_16 rfl ?_
    refine C.callVS0 (k9 := 0) [] dX11_revoke_17 mdX11_whoAsks imX11_whoAsks seX11_whoAsks kc_12 rfl p_n lk_X11_291 rfl rfl rfl rfl (k_whoAsks hS hR1 hW1 hG) ?_
    rintro _ _ _ (⟨hwh, hlt, rfl, e9, e8⟩ | ⟨hwh, rfl, e9, e8⟩)
    · have e9 := e9.symm; subst e9; have e8 := e8.symm; subst e8
      have hCc := p_c.2.2.2 _ hlt
      obtain ⟨i9, s9, u1⟩ := hCc.cell
      have hwc : (whoT T g).toNatClampNeg = (fnd (T 3) (fv g 1)) := by rw [whoT, (whoS_pos hwh).1, nI_clamp (by have := w_c.1; omega)]
      refine C.astore_n (L' := [some (.ref (S 0)), some (.ref ((A 7).getD (fnd (T 3) (fv g 1)) 0)), none, none]) dX11_revoke_20 (by decide) rfl rfl ?_
      refine C.aload_nR dX11_revoke_21 rfl ?_
      refine C.ifnonnullR (tgt := 35) dX11_revoke_22 (by decide) ?_
      refine C.aload_nR dX11_revoke_35 rfl ?_
      refine C.getS (k9 := 0) (fs := [.ref (S 1), .ref (S 2), .ref (S 3), .ref (S 4), .ref (S 5), .ref (S 6), .ref (S 7), .ref (S 8), .ref (S 9), .ref (S 10), .ref (S 11), .ref (S 12), .int (N 26), .int (N 27), .int (N 28), .int (N 25), .int (N 5), .int (N 6)]) dX11_revoke_36 fl_X11_24 rfl p_n rfl ?_
      refine C.getS (k9 := 3) (fs := [.ref (S 15), .ref (S 17), .ref (S 18), .ref (S 19), .ref (S 20), .ref (S 21), .ref (S 22), .ref (S 23), .ref (S 24), .ref (S 25), .ref (S 26), .ref (S 27), .ref (S 28), .ref (S 29), .ref (S 30), .ref (S 44)]) dX11_revoke_39 fl_X11_310 rfl p_k.1 rfl ?_
      refine C.callVS0 (k9 := 30) [] dX11_revoke_42 mdX3_isThere imX3_isThere seX3_isThere kc_4 rfl fq_12 lk_X11_285 rfl rfl rfl rfl (cCt.w0 (R := fun r => r = some (.int (bI (decide (0 < (fv g 12).length))))) fun σ9 h9 => c_Field_isThere (h9.at (k := 30) rfl fq_12) (h9.at (k := 43) rfl gt_12) (show (fv g 12).length ≤ 100000 from (show tV S G1 D (S 43) (fv g 12) from tS.v hG.2.2.2.2.2.2.2.2.2.2.2.2.2 (by decide) (by decide)).le)) ?_
      rintro _ G9 D9 ⟨rfl, e9, e8⟩
      have e9 := e9.symm; subst e9; have e8 := e8.symm; subst e8
      refine C.if_ne (tgt := 57) dX11_revoke_45 (by decide) (fun c_45 => ?_) (fun c_45 => ?_)
      · skip
        have h12 : 0 < (fv g 12).length := of_decide_eq_true (bt1 c_45)
        have cut_98 : ∀ (D1 : kh) (T1 : Nat → List (List Int32)), (T1 = setT T 28 (revD T g (fnd (T 3) (fv g 1)))) → (cR Λ S G1 D1 A L N B1 T1 R) → (wf N B1 T1 R) → (D1 ((A 7).getD (fnd (T 3) (fv g 1)) 0) = some (oCl (nI (fnd (T 3) (fv g 1))) i9 s9 (ro (T 5) (fnd (T 3) (fv g 1)) 1) (decide (ro (T 5) (fnd (T 3) (fv g 1)) 2 = 1)) ((A 13).getD (fnd (T 3) (fv g 1)) 0))) → C Λ X mX11_revoke 0 0 S (cP Λ S (opRev N B T R)) 0 0 G1 D1 98 [some (.ref (S 0)), some (.ref ((A 7).getD (fnd (T 3) (fv g 1)) 0)), none, none] [] := by
          intro D1 T1 e1 hRz hWz u1z
          have e28 : T1 28 = revD T g (fnd (T 3) (fv g 1)) := by rw [e1]; rfl
          have e29 : T1 29 = T 29 := by rw [e1]; rfl
          have e21 : T1 21 = T 21 := by rw [e1]; rfl
          have hRz9 := hRz; obtain ⟨p_a, p_b, p_n, p_k, p_f, p_h, p_w, p_c, p_r, p_q, p_o, p_m, p_t, p_d⟩ := hRz9
          have hWz9 := hWz; obtain ⟨w_a, w_n, w_w, w_c, w_r, w_x, w_q, w_k, w_f, w_t, w_m, w_l⟩ := hWz9
          have p_b9 := p_b; obtain ⟨fo9, b1, b2, b3, b4, b5, b6⟩ := p_b9
          refine C.aload_nR dX11_revoke_98 rfl ?_
          refine C.aload_nR dX11_revoke_99 rfl ?_
          refine C.getS (k9 := 0) (fs := [.ref (S 1), .ref (S 2), .ref (S 3), .ref (S 4), .ref (S 5), .ref (S 6), .ref (S 7), .ref (S 8), .ref (S 9), .ref (S 10), .ref (S 11), .ref (S 12), .int (N 26), .int (N 27), .int (N 28), .int (N 25), .int (N 5), .int (N 6)]) dX11_revoke_100 fl_X11_24 rfl p_n rfl ?_
          refine C.getS (k9 := 3) (fs := [.ref (S 15), .ref (S 17), .ref (S 18), .ref (S 19), .ref (S 20), .ref (S 21), .ref (S 22), .ref (S 23), .ref (S 24), .ref (S 25), .ref (S 26), .ref (S 27), .ref (S 28), .ref (S 29), .ref (S 30), .ref (S 44)]) dX11_revoke_103 fl_X11_310 rfl p_k.1 rfl ?_
          refine C.getS (k9 := 30) (fs := [.ref (kSa Λ RX4 89), .ref (S 43), .int (bI to_12)]) dX11_revoke_106 fl_X11_199 rfl fq_12 rfl ?_
          refine C.callVS0 (k9 := 0) [.ref (S 43)] dX11_revoke_109 mdX11_accessOf imX11_accessOf seX11_accessOf kc_12 rfl p_n lk_X11_334 rfl rfl rfl rfl (k_accessOf hS hRz hWz (fun σ9 h9 => (show tV S G1 D1 (S 43) (fv g 12) from tS.v hG.2.2.2.2.2.2.2.2.2.2.2.2.2 (by decide) (by decide)).tx h9)) ?_
          rintro _ _ _ (⟨hk9, rfl, e9, e8⟩ | ⟨hk9, rfl, e9, e8⟩)
          · have e9 := e9.symm; subst e9; have e8 := e8.symm; subst e8
            have u5 := p_t.2.2.2.2.2.2.2.1 _ hk9
            have lt_f9 : (rn (T1 29) (hfn (T1 21) (T1 29) (fv g 12)) 1) < (T1 28).length := w_t.2.2.1.rn hk9 (by have := w_k.2.2.2.2; have := w_k.1; omega)
            have u6 := p_m.2.2.2 _ lt_f9
            refine C.astore_n (L' := [some (.ref (S 0)), some (.ref ((A 7).getD (fnd (T 3) (fv g 1)) 0)), none, some (.ref ((A 11).getD (hfn (T1 21) (T1 29) (fv g 12)) 0))]) dX11_revoke_112 (by decide) rfl rfl ?_
            refine C.aload_nR dX11_revoke_113 rfl ?_
            refine C.ifnullR dX11_revoke_114 ?_
            refine C.aload_nR dX11_revoke_117 rfl ?_
            refine C.getD dX11_revoke_118 fl_X11_317 u5 rfl ?_
            refine C.getD dX11_revoke_121 fl_X11_323 u6 rfl ?_
            refine C.aload_nR dX11_revoke_124 rfl ?_
            refine C.getD dX11_revoke_125 fl_X11_328 u1z rfl ?_
            refine C.icmp_ne (tgt := 136) dX11_revoke_128 (by decide) (fun c_128 => ?_) (fun c_128 => ?_)
            · skip
              refine C.aload_nR dX11_revoke_136 rfl ?_
              refine C.sipush (v := 200) dX11_revoke_137 (by decide) ?_
              refine C.iconst (v := 0) dX11_revoke_140 (by decide) ?_
              refine C.callVS0 (k9 := 0) [.int 200, .int 0] dX11_revoke_141 mdX11_answer imX11_answer seX11_answer kc_12 rfl p_n lk_X11_240 rfl rfl rfl rfl (k_answer hS (N := N) (show G1 0 = oGs S N from p_n) (show tO S G1 2 14 6200 (B1 1) from p_b) 200 0) ?_
              rintro _ _ D9 ⟨rfl, rfl, e8⟩; have e8 := e8.symm; subst e8
              refine C.iret dX11_revoke_144 rfl ?_
              rw [opRev, hfm]
              show cP Λ S (opRev1 N (setB B 0 []) T R g) _ _ _
              rw [← hB1, opRev1, if_neg hwh, if_neg (fun q => q h12), hwc, ← e1]
              rw [show setT T1 29 (revA T g (fnd (T 3) (fv g 1))) = T1 from by rw [revA, if_neg (fun q => c_128 (by rw [e21, e29, e28, revD_ro]; exact q.2)), ← e29, setT_id]]
              exact ⟨rfl, A, L, p_a, ⟨fo9, rfl, b2, Nat.zero_le _, by decide, rfl, bts_nil⟩, rfl, p_k, p_f, p_h, p_w, p_c, p_r, p_q, p_o, p_m, p_t, p_d⟩
            · skip
              refine C.aload_nR dX11_revoke_131 rfl ?_
              refine C.iconst (v := 1) dX11_revoke_132 (by decide) ?_
              refine C.putD (fs' := [.ref ((A 10).getD (rn (T1 29) (hfn (T1 21) (T1 29) (fv g 12)) 1) 0), .int (ro (T1 29) (hfn (T1 21) (T1 29) (fv g 12)) 2), .int (ro (T1 29) (hfn (T1 21) (T1 29) (fv g 12)) 3), .int 1]) dX11_revoke_133 fp_X11_337 (fun h => by cases h) u5 rfl rfl (Nat.le_of_ble_eq_true rfl) rfl ?_
              have h_1 : (kup D1 ((A 11).getD (hfn (T1 21) (T1 29) (fv g 12)) 0) (.inr (11, [.ref ((A 10).getD (rn (T1 29) (hfn (T1 21) (T1 29) (fv g 12)) 1) 0), .int (ro (T1 29) (hfn (T1 21) (T1 29) (fv g 12)) 2), .int (ro (T1 29) (hfn (T1 21) (T1 29) (fv g 12)) 3), .int 1]))) ((A 7).getD (fnd (T 3) (fv g 1)) 0) = some (.inr (1, [.int (nI (fnd (T 3) (fv g 1))), .ref i9, s9, .int (ro (T 5) (fnd (T 3) (fv g 1)) 1), .int (bI (decide (ro (T 5) (fnd (T 3) (fv g 1)) 2 = 1))), .ref ((A 13).getD (fnd (T 3) (fv g 1)) 0)])) := kup_i (kne_oo u1z u5 (by decide)) u1z
              have h_2 : (kup D1 ((A 11).getD (hfn (T1 21) (T1 29) (fv g 12)) 0) (.inr (11, [.ref ((A 10).getD (rn (T1 29) (hfn (T1 21) (T1 29) (fv g 12)) 1) 0), .int (ro (T1 29) (hfn (T1 21) (T1 29) (fv g 12)) 2), .int (ro (T1 29) (hfn (T1 21) (T1 29) (fv g 12)) 3), .int 1]))) ((A 11).getD (hfn (T1 21) (T1 29) (fv g 12)) 0) = some (.inr (11, [.ref ((A 10).getD (rn (T1 29) (hfn (T1 21) (T1 29) (fv g 12)) 1) 0), .int (ro (T1 29) (hfn (T1 21) (T1 29) (fv g 12)) 2), .int (ro (T1 29) (hfn (T1 21) (T1 29) (fv g 12)) 3), .int 1])) := kup_s _ _ _
              have h_3 : (kup D1 ((A 11).getD (hfn (T1 21) (T1 29) (fv g 12)) 0) (.inr (11, [.ref ((A 10).getD (rn (T1 29) (hfn (T1 21) (T1 29) (fv g 12)) 1) 0), .int (ro (T1 29) (hfn (T1 21) (T1 29) (fv g 12)) 2), .int (ro (T1 29) (hfn (T1 21) (T1 29) (fv g 12)) 3), .int 1]))) ((A 10).getD (rn (T1 29) (hfn (T1 21) (T1 29) (fv g 12)) 1) 0) = some (.inr (3, [.int (nI (rn (T1 29) (hfn (T1 21) (T1 29) (fv g 12)) 1)), .int (ro (T1 28) (rn (T1 29) (hfn (T1 21) (T1 29) (fv g 12)) 1) 0), .int (ro (T1 28) (rn (T1 29) (hfn (T1 21) (T1 29) (fv g 12)) 1) 1), .int (ro (T1 28) (rn (T1 29) (hfn (T1 21) (T1 29) (fv g 12)) 1) 2), .int (bI (decide (ro (T1 28) (rn (T1 29) (hfn (T1 21) (T1 29) (fv g 12)) 1) 4 = 1))), .int (ro (T1 28) (rn (T1 29) (hfn (T1 21) (T1 29) (fv g 12)) 1) 3)])) := kup_i (kne_oo u6 u5 (by decide)) u6
              refine C.aload_nR dX11_revoke_136 rfl ?_
              refine C.sipush (v := 200) dX11_revoke_137 (by decide) ?_
              refine C.iconst (v := 0) dX11_revoke_140 (by decide) ?_
              refine C.callVS0 (k9 := 0) [.int 200, .int 0] dX11_revoke_141 mdX11_answer imX11_answer seX11_answer kc_12 rfl p_n lk_X11_240 rfl rfl rfl rfl (k_answer hS (N := N) (show G1 0 = oGs S N from p_n) (show tO S G1 2 14 6200 (B1 1) from p_b) 200 0) ?_
              rintro _ _ D9 ⟨rfl, rfl, e8⟩; have e8 := e8.symm; subst e8
              refine C.iret dX11_revoke_144 rfl ?_
              rw [opRev, hfm]
              show cP Λ S (opRev1 N (setB B 0 []) T R g) _ _ _
              rw [← hB1, opRev1, if_neg hwh, if_neg (fun q => q h12), hwc, ← e1]
              have hrA : revA T g (fnd (T 3) (fv g 1)) = stc (T1 29) (hfn (T1 21) (T1 29) (fv g 12)) 4 1 := by rw [e21, e29] at hk9 c_128 ⊢; rw [e28, revD_ro] at c_128; rw [revA, if_pos ⟨hk9, c_128⟩]
              rw [hrA]
              have hdk9 : dk 11 D1 (kup D1 ((A 11).getD (hfn (T1 21) (T1 29) (fv g 12)) 0) (.inr (11, [.ref ((A 10).getD (rn (T1 29) (hfn (T1 21) (T1 29) (fv g 12)) 1) 0), .int (ro (T1 29) (hfn (T1 21) (T1 29) (fv g 12)) 2), .int (ro (T1 29) (hfn (T1 21) (T1 29) (fv g 12)) 3), .int 1]))) := dk.up u5
              exact ⟨rfl, A, L, p_a, ⟨fo9, rfl, b2, Nat.zero_le _, by decide, rfl, bts_nil⟩, rfl, p_k, p_f, p_h, ⟨p_w.1, p_w.2.dk hdk9 (by decide) (by decide)⟩, ⟨p_c.1, p_c.2.dk hdk9 (by decide) (by decide) (by decide)⟩, p_r.dk hdk9 (by decide) (by decide) (by decide), ⟨p_q.1, p_q.2.dk hdk9 (by decide) (by decide) (by decide)⟩, ⟨p_o.1, p_o.2.dk hdk9 (by decide)⟩, ⟨p_m.1, p_m.2.dk hdk9 (by decide)⟩, ⟨p_t.1, p_t.2.1, cTo_rvk p_t.2.2 w_l.2.2.1 hk9⟩, ⟨p_d.1, p_d.2.1, p_d.2.2.dk hdk9 (by decide) (by decide) (by decide) (by decide)⟩⟩
          · have e9 := e9.symm; subst e9; have e8 := e8.symm; subst e8
            refine C.astore_nN (L' := [some (.ref (S 0)), some (.ref ((A 7).getD (fnd (T 3) (fv g 1)) 0)), none, some (.null)]) dX11_revoke_112 (by decide) rfl rfl ?_
            refine C.aload_nN dX11_revoke_113 rfl ?_
            refine C.ifnullN (tgt := 136) dX11_revoke_114 (by decide) ?_
            refine C.aload_nR dX11_revoke_136 rfl ?_
            refine C.sipush (v := 200) dX11_revoke_137 (by decide) ?_
            refine C.iconst (v := 0) dX11_revoke_140 (by decide) ?_
            refine C.callVS0 (k9 := 0) [.int 200, .int 0] dX11_revoke_141 mdX11_answer imX11_answer seX11_answer kc_12 rfl p_n lk_X11_240 rfl rfl rfl rfl (k_answer hS (N := N) (show G1 0 = oGs S N from p_n) (show tO S G1 2 14 6200 (B1 1) from p_b) 200 0) ?_
            rintro _ _ D9 ⟨rfl, rfl, e8⟩; have e8 := e8.symm; subst e8
            refine C.iret dX11_revoke_144 rfl ?_
            rw [opRev, hfm]
            show cP Λ S (opRev1 N (setB B 0 []) T R g) _ _ _
            rw [← hB1, opRev1, if_neg hwh, if_neg (fun q => q h12), hwc, ← e1]
            rw [show setT T1 29 (revA T g (fnd (T 3) (fv g 1))) = T1 from by rw [revA, if_neg (fun q => hk9 (by rw [e21, e29]; exact q.1)), ← e29, setT_id]]
            exact ⟨rfl, A, L, p_a, ⟨fo9, rfl, b2, Nat.zero_le _, by decide, rfl, bts_nil⟩, rfl, p_k, p_f, p_h, p_w, p_c, p_r, p_q, p_o, p_m, p_t, p_d⟩
        refine C.aload_nR dX11_revoke_57 rfl ?_
        refine C.aload_nR dX11_revoke_58 rfl ?_
        refine C.getS (k9 := 0) (fs := [.ref (S 1), .ref (S 2), .ref (S 3), .ref (S 4), .ref (S 5), .ref (S 6), .ref (S 7), .ref (S 8), .ref (S 9), .ref (S 10), .ref (S 11), .ref (S 12), .int (N 26), .int (N 27), .int (N 28), .int (N 25), .int (N 5), .int (N 6)]) dX11_revoke_59 fl_X11_24 rfl p_n rfl ?_
        refine C.getS (k9 := 3) (fs := [.ref (S 15), .ref (S 17), .ref (S 18), .ref (S 19), .ref (S 20), .ref (S 21), .ref (S 22), .ref (S 23), .ref (S 24), .ref (S 25), .ref (S 26), .ref (S 27), .ref (S 28), .ref (S 29), .ref (S 30), .ref (S 44)]) dX11_revoke_62 fl_X11_310 rfl p_k.1 rfl ?_
        refine C.getS (k9 := 30) (fs := [.ref (kSa Λ RX4 89), .ref (S 43), .int (bI to_12)]) dX11_revoke_65 fl_X11_199 rfl fq_12 rfl ?_
        refine C.callVS0 (k9 := 0) [.ref (S 43)] dX11_revoke_68 mdX11_refreshOf imX11_refreshOf seX11_refreshOf kc_12 rfl p_n lk_X11_313 rfl rfl rfl rfl (k_refreshOf hS hR1 hW1 (fun σ9 h9 => (show tV S G1 D (S 43) (fv g 12) from tS.v hG.2.2.2.2.2.2.2.2.2.2.2.2.2 (by decide) (by decide)).tx h9)) ?_
        rintro _ _ _ (⟨hk, rfl, e9, e8⟩ | ⟨hk, rfl, e9, e8⟩)
        · have e9 := e9.symm; subst e9; have e8 := e8.symm; subst e8
          obtain ⟨sc9, u3⟩ := p_t.2.2.2.2.2.2.2.2 _ hk
          have lt_f : (rn (T 30) (hfn (T 21) (T 30) (fv g 12)) 1) < (T 28).length := w_t.2.2.2.2.2.2.1.rn hk (by have := w_k.2.2.2.2; have := w_k.1; omega)
          have u4 := p_m.2.2.2 _ lt_f
          refine C.astore_n (L' := [some (.ref (S 0)), some (.ref ((A 7).getD (fnd (T 3) (fv g 1)) 0)), some (.ref ((A 12).getD (hfn (T 21) (T 30) (fv g 12)) 0)), none]) dX11_revoke_71 (by decide) rfl rfl ?_
          refine C.aload_nR dX11_revoke_72 rfl ?_
          refine C.ifnullR dX11_revoke_73 ?_
          refine C.aload_nR dX11_revoke_76 rfl ?_
          refine C.getD dX11_revoke_77 fl_X11_317 u3 rfl ?_
          refine C.getD dX11_revoke_80 fl_X11_323 u4 rfl ?_
          refine C.aload_nR dX11_revoke_83 rfl ?_
          refine C.getD dX11_revoke_84 fl_X11_328 u1 rfl ?_
          refine C.icmp_ne (tgt := 98) dX11_revoke_87 (by decide) (fun c_87 => ?_) (fun c_87 => ?_)
          · skip
            refine C.drop (i := 2) (L' := [some (.ref (S 0)), some (.ref ((A 7).getD (fnd (T 3) (fv g 1)) 0)), none, none]) rfl ?_
            exact cut_98 D T (by rw [revD, if_neg (fun q => c_87 q.2), setT_id]) hR1 hW1 u1
          · skip
            refine C.aload_nR dX11_revoke_90 rfl ?_
            refine C.getD dX11_revoke_91 fl_X11_317 u3 rfl ?_
            refine C.iconst (v := 1) dX11_revoke_94 (by decide) ?_
            refine C.putD (fs' := [.int (nI (rn (T 30) (hfn (T 21) (T 30) (fv g 12)) 1)), .int (ro (T 28) (rn (T 30) (hfn (T 21) (T 30) (fv g 12)) 1) 0), .int (ro (T 28) (rn (T 30) (hfn (T 21) (T 30) (fv g 12)) 1) 1), .int (ro (T 28) (rn (T 30) (hfn (T 21) (T 30) (fv g 12)) 1) 2), .int 1, .int (ro (T 28) (rn (T 30) (hfn (T 21) (T 30) (fv g 12)) 1) 3)]) dX11_revoke_95 fp_X11_331 (fun h => by cases h) u4 rfl rfl (Nat.le_of_ble_eq_true rfl) rfl ?_
            have h_4 : (kup D ((A 10).getD (rn (T 30) (hfn (T 21) (T 30) (fv g 12)) 1) 0) (.inr (3, [.int (nI (rn (T 30) (hfn (T 21) (T 30) (fv g 12)) 1)), .int (ro (T 28) (rn (T 30) (hfn (T 21) (T 30) (fv g 12)) 1) 0), .int (ro (T 28) (rn (T 30) (hfn (T 21) (T 30) (fv g 12)) 1) 1), .int (ro (T 28) (rn (T 30) (hfn (T 21) (T 30) (fv g 12)) 1) 2), .int 1, .int (ro (T 28) (rn (T 30) (hfn (T 21) (T 30) (fv g 12)) 1) 3)]))) ((A 7).getD (fnd (T 3) (fv g 1)) 0) = some (.inr (1, [.int (nI (fnd (T 3) (fv g 1))), .ref i9, s9, .int (ro (T 5) (fnd (T 3) (fv g 1)) 1), .int (bI (decide (ro (T 5) (fnd (T 3) (fv g 1)) 2 = 1))), .ref ((A 13).getD (fnd (T 3) (fv g 1)) 0)])) := kup_i (kne_oo u1 u4 (by decide)) u1
            have h_5 : (kup D ((A 10).getD (rn (T 30) (hfn (T 21) (T 30) (fv g 12)) 1) 0) (.inr (3, [.int (nI (rn (T 30) (hfn (T 21) (T 30) (fv g 12)) 1)), .int (ro (T 28) (rn (T 30) (hfn (T 21) (T 30) (fv g 12)) 1) 0), .int (ro (T 28) (rn (T 30) (hfn (T 21) (T 30) (fv g 12)) 1) 1), .int (ro (T 28) (rn (T 30) (hfn (T 21) (T 30) (fv g 12)) 1) 2), .int 1, .int (ro (T 28) (rn (T 30) (hfn (T 21) (T 30) (fv g 12)) 1) 3)]))) ((A 12).getD (hfn (T 21) (T 30) (fv g 12)) 0) = some (.inr (11, [.ref ((A 10).getD (rn (T 30) (hfn (T 21) (T 30) (fv g 12)) 1) 0), .int sc9, .int (ro (T 30) (hfn (T 21) (T 30) (fv g 12)) 2), .int (bI (decide (ro (T 30) (hfn (T 21) (T 30) (fv g 12)) 3 = 1)))])) := kup_i (kne_oo u3 u4 (by decide)) u3
            have h_6 : (kup D ((A 10).getD (rn (T 30) (hfn (T 21) (T 30) (fv g 12)) 1) 0) (.inr (3, [.int (nI (rn (T 30) (hfn (T 21) (T 30) (fv g 12)) 1)), .int (ro (T 28) (rn (T 30) (hfn (T 21) (T 30) (fv g 12)) 1) 0), .int (ro (T 28) (rn (T 30) (hfn (T 21) (T 30) (fv g 12)) 1) 1), .int (ro (T 28) (rn (T 30) (hfn (T 21) (T 30) (fv g 12)) 1) 2), .int 1, .int (ro (T 28) (rn (T 30) (hfn (T 21) (T 30) (fv g 12)) 1) 3)]))) ((A 10).getD (rn (T 30) (hfn (T 21) (T 30) (fv g 12)) 1) 0) = some (.inr (3, [.int (nI (rn (T 30) (hfn (T 21) (T 30) (fv g 12)) 1)), .int (ro (T 28) (rn (T 30) (hfn (T 21) (T 30) (fv g 12)) 1) 0), .int (ro (T 28) (rn (T 30) (hfn (T 21) (T 30) (fv g 12)) 1) 1), .int (ro (T 28) (rn (T 30) (hfn (T 21) (T 30) (fv g 12)) 1) 2), .int 1, .int (ro (T 28) (rn (T 30) (hfn (T 21) (T 30) (fv g 12)) 1) 3)])) := kup_s _ _ _
            refine C.drop (i := 2) (L' := [some (.ref (S 0)), some (.ref ((A 7).getD (fnd (T 3) (fv g 1)) 0)), none, none]) rfl ?_
            have hdk : dk 3 D (kup D ((A 10).getD (rn (T 30) (hfn (T 21) (T 30) (fv g 12)) 1) 0) (.inr (3, [.int (nI (rn (T 30) (hfn (T 21) (T 30) (fv g 12)) 1)), .int (ro (T 28) (rn (T 30) (hfn (T 21) (T 30) (fv g 12)) 1) 0), .int (ro (T 28) (rn (T 30) (hfn (T 21) (T 30) (fv g 12)) 1) 1), .int (ro (T 28) (rn (T 30) (hfn (T 21) (T 30) (fv g 12)) 1) 2), .int 1, .int (ro (T 28) (rn (T 30) (hfn (T 21) (T 30) (fv g 12)) 1) 3)]))) := dk.up u4
            exact cut_98 _ _ rfl (by rw [revD, if_pos ⟨hk, c_87⟩]; exact ⟨p_a, p_b, p_n, p_k, p_f, p_h, ⟨p_w.1, p_w.2.dk hdk (by decide) (by decide)⟩, ⟨p_c.1, p_c.2.dk hdk (by decide) (by decide) (by decide)⟩, p_r.dk hdk (by decide) (by decide) (by decide), ⟨p_q.1, p_q.2.dk hdk (by decide) (by decide) (by decide)⟩, ⟨p_o.1, p_o.2.dk hdk (by decide)⟩, ⟨p_m.1, cFm_back p_m.2 w_l.2.1 lt_f⟩, ⟨p_t.1, p_t.2.1, p_t.2.2.dk hdk (by decide)⟩, ⟨p_d.1, p_d.2.1, p_d.2.2.dk hdk (by decide) (by decide) (by decide) (by decide)⟩⟩) (by rw [revD, if_pos ⟨hk, c_87⟩]; exact wf_back hW1 _) h_4
        · have e9 := e9.symm; subst e9; have e8 := e8.symm; subst e8
          refine C.astore_nN (L' := [some (.ref (S 0)), some (.ref ((A 7).getD (fnd (T 3) (fv g 1)) 0)), some (.null), none]) dX11_revoke_71 (by decide) rfl rfl ?_
          refine C.aload_nN dX11_revoke_72 rfl ?_
          refine C.ifnullN (tgt := 98) dX11_revoke_73 (by decide) ?_
          refine C.drop (i := 2) (L' := [some (.ref (S 0)), some (.ref ((A 7).getD (fnd (T 3) (fv g 1)) 0)), none, none]) rfl ?_
          exact cut_98 D T (by rw [revD, if_neg (fun q => hk q.1), setT_id]) hR1 hW1 u1
      · skip
        have h12 : ¬ 0 < (fv g 12).length := of_decide_eq_false ((bI_eq0 _).mp c_45)
        refine C.aload_nR dX11_revoke_48 rfl ?_
        refine C.sipush (v := 400) dX11_revoke_49 (by decide) ?_
        refine C.iconst (v := 1) dX11_revoke_52 (by decide) ?_
        refine C.callVS0 (k9 := 0) [.int 400, .int 1] dX11_revoke_53 mdX11_deny imX11_deny seX11_deny kc_12 rfl p_n lk_X11_288 rfl rfl rfl rfl (k_deny_1 hS hSt (N := N) (show G1 0 = oGs S N from p_n) (show tO S G1 2 14 6200 (B1 1) from p_b) 400) ?_
        rintro _ _ D9 ⟨f9, hf1, hf2, rfl, rfl, e8⟩; have e8 := e8.symm; subst e8
        refine C.iret dX11_revoke_56 rfl ?_
        rw [opRev, hfm]
        show cP Λ S (opRev1 N (setB B 0 []) T R g) _ _ _
        rw [← hB1, opRev1, if_neg hwh, if_pos h12]
        exact ⟨rfl, A, L, p_a, (tO.gW (by decide) (by decide) (by decide) hf1 hf2), rfl, p_k, p_f, p_h, p_w, p_c, p_r, p_q, p_o, p_m, p_t, p_d⟩
    · have e9 := e9.symm; subst e9; have e8 := e8.symm; subst e8
      refine C.astore_nN (L' := [some (.ref (S 0)), some (.null), none, none]) dX11_revoke_20 (by decide) rfl rfl ?_
      refine C.aload_nN dX11_revoke_21 rfl ?_
      refine C.ifnonnullN dX11_revoke_22 ?_
      refine C.aload_nR dX11_revoke_25 rfl ?_
      refine C.sipush (v := 401) dX11_revoke_26 (by decide) ?_
      refine C.bipush (v := 6) dX11_revoke_29 (by decide) ?_
      refine C.callVS0 (k9 := 0) [.int 401, .int 6] dX11_revoke_31 mdX11_deny imX11_deny seX11_deny kc_12 rfl p_n lk_X11_288 rfl rfl rfl rfl (k_deny_6 hS hSt (N := N) (show G1 0 = oGs S N from p_n) (show tO S G1 2 14 6200 (B1 1) from p_b) 401) ?_
      rintro _ _ D9 ⟨f9, hf1, hf2, rfl, rfl, e8⟩; have e8 := e8.symm; subst e8
      refine C.iret dX11_revoke_34 rfl ?_
      rw [opRev, hfm]
      show cP Λ S (opRev1 N (setB B 0 []) T R g) _ _ _
      rw [← hB1, opRev1, if_pos hwh]
      exact ⟨rfl, A, L, p_a, (tO.gW (by decide) (by decide) (by decide) hf1 hf2), rfl, p_k, p_f, p_h, p_w, p_c, p_r, p_q, p_o, p_m, p_t, p_d⟩
  · skip
    refine C.if_ne (tgt := 16) dX11_revoke_4 (by decide) (fun c_4 => absurd c_4 (fun z => z rfl)) (fun c_4 => ?_)
    refine C.aload_nR dX11_revoke_7 rfl ?_
    refine C.sipush (v := 400) dX11_revoke_8 (by decide) ?_
    refine C.iconst (v := 1) dX11_revoke_11 (by decide) ?_
    refine C.callVS0 (k9 := 0) [.int 400, .int 1] dX11_revoke_12 mdX11_deny imX11_deny seX11_deny kc_12 rfl p_n lk_X11_288 rfl rfl rfl rfl (k_deny_1 hS hSt (N := N) (show G1 0 = oGs S N from p_n) (show tO S G1 2 14 6200 (B1 1) from p_b) 400) ?_
    rintro _ _ D9 ⟨f9, hf1, hf2, rfl, rfl, e8⟩; have e8 := e8.symm; subst e8
    refine C.iret dX11_revoke_15 rfl ?_
    rw [opRev, hfm]
    show cP Λ S (rfs N (setB B 0 []) T R 400 1 sb_invalid_request) _ _ _
    rw [← hB1]
    exact ⟨rfl, A, L, p_a, (tO.gW (by decide) (by decide) (by decide) hf1 hf2), rfl, p_k, p_f, p_h, p_w, p_c, p_r, p_q, p_o, p_m, p_t, p_d⟩
