/-! the class: client, consent -/
theorem gN_at {l : List Nat} {q n : Nat} (h : n = l.length) : (l ++ [q]).getD n 0 = q := by subst h; exact gN_appr
theorem gD_at {C : List (List Int32)} {r : List Int32} {n : Nat} (h : n = C.length) : (C ++ [r]).getD n [] = r := by subst h; exact getD_appr
theorem ro_at {C : List (List Int32)} {r : List Int32} {n c : Nat} (h : n = C.length) : ro (C ++ [r]) n c = r.getD c 0 := by rw [ro, gD_at h]
theorem ro_lt {C : List (List Int32)} {r : List Int32} {n c : Nat} (h : n < C.length) : ro (C ++ [r]) n c = ro C n c := by rw [ro, getD_appl h, ro]
theorem rn_lt {C : List (List Int32)} {r : List Int32} {n c : Nat} (h : n < C.length) : rn (C ++ [r]) n c = rn C n c := by rw [rn, ro_lt h, rn]
theorem bI_dec (b : Bool) : decide (bI b = 1) = b := by cases b <;> decide
theorem cC_el {D : kh} {l rl : List Nat} {T3 T4 T5 : List (List Int32)} (h : cC D l rl T3 T4 T5) : kEl D 1 (rv l) := el_of fun k hk => by
  obtain ⟨i, s, h1, -⟩ := h.2.2 k (by rw [← h.1]; exact hk)
  exact ⟨_, h1⟩
theorem cC_app {D D' : kh} {l rl : List Nat} {T3 T4 T5 : List (List Int32)} (h : cC D l rl T3 T4 T5) (hd : dm D D') (h4 : T4.length = T3.length) (h5 : T5.length = T3.length) {a r i : Nat} {s : Value} {id sec sec' : List Int32} {cf rf : Bool} {x : Int32} (u1 : D' a = some (oCl (nI T3.length) i s x rf r)) (u2 : tx D' i id) (u3 : if cf = true then ∃ q, s = .ref q ∧ tx D' q sec else s = .null) (hs : cf = true → sec' = sec) : cC D' (l ++ [a]) (rl ++ [r]) (T3 ++ [id]) (T4 ++ [sec']) (T5 ++ [[bI cf, x, bI rf]]) := by
  refine ⟨by rw [List.length_append, List.length_append, h.1]; rfl, by rw [List.length_append, List.length_append, h.2.1]; rfl, fun c hc => ?_⟩
  rw [List.length_append, List.length_singleton] at hc
  by_cases e : c = T3.length
  · rw [gN_at (e.trans h.1.symm), gN_at (e.trans h.2.1.symm), gD_at e, gD_at (e.trans h4.symm), cfS, ro_at (e.trans h5.symm), ro_at (e.trans h5.symm), ro_at (e.trans h5.symm), e]
    show cC1 D' a r T3.length id sec' (decide (bI cf = 1)) x (decide (bI rf = 1))
    rw [bI_dec, bI_dec]
    refine ⟨i, s, u1, u2, ?_⟩
    cases cf with
    | true => obtain ⟨q, e1, e2⟩ := u3; exact ⟨q, e1, by rw [hs rfl]; exact e2⟩
    | false => exact u3
  · rw [gN_appl (by rw [h.1]; omega), gN_appl (by rw [h.2.1]; omega), getD_appl (by omega), getD_appl (by omega), cfS, ro_lt (by omega), ro_lt (by omega), ro_lt (by omega)]
    exact (h.2.2 c (by omega)).mono hd
theorem cRd_new {D D' : kh} {rl : List Nat} {A : Nat → List Nat} {R : Nat → List (List Int32)} (h : cRd D rl A R) (hd : dm D D') {r n : Nat} (hn : n = rl.length) (hr : ∀ b c, D b = some c → b < r) (u : D' r = some (kLi [])) (hR : R n = []) : cRd D' (rl ++ [r]) (setA A n []) R := by
  refine ⟨h.1.app fun i hi => Nat.ne_of_lt (hr _ _ (h.2 i hi).1), fun c hc => ?_⟩
  rw [List.length_append, List.length_singleton] at hc
  by_cases e : c = n
  · rw [gN_at (e.trans hn), e, setA_s, hR]
    exact ⟨u, rfl, fun k hk => absurd hk (Nat.not_lt_zero k)⟩
  · rw [gN_appl (by omega), setA_n _ _ e]
    exact ⟨hd _ _ (h.2 c (by omega)).1, (h.2 c (by omega)).2.mono hd⟩
theorem cQs_lc {D : kh} {l lc : List Nat} {Q H S : List (List Int32)} {R : Nat → List (List Int32)} (h : cQs D l lc Q H S R) (hk : ∀ n, n < Q.length → rn Q n 0 < lc.length) (a : Nat) : cQs D l (lc ++ [a]) Q H S R := ⟨h.1, h.2.1, fun n hn => by rw [gN_appl (hk n hn)]; exact h.2.2 n hn⟩
theorem cCo_el {D : kh} {l lq lf : List Nat} {K : List (List Int32)} (h : cCo D l lq lf K) : kEl D 2 (rv l) := el_of fun k hk => ⟨_, h.2.2 k (by rw [← h.1]; exact hk)⟩
theorem cCo_new {D : kh} {l lq lf : List Nat} {K : List (List Int32)} (h : cCo D l lq lf K) {a k : Nat} {hh ow sc en : Int32} (hk : k < 2 ^ 31) (ha : D a = some (oCo (lq.getD k 0) ow sc en .null)) (hn : ∀ i, i < l.length → l.getD i 0 ≠ a) : cCo D (l ++ [a]) lq lf (K ++ [[hh, nI k, ow, sc, en, -1]]) := by
  refine ⟨by rw [List.length_append, List.length_append, h.1]; rfl, h.2.1.app hn, fun n hn => ?_⟩
  rw [List.length_append, List.length_singleton] at hn
  by_cases e : n = K.length
  · rw [gN_at (e.trans h.1.symm), famRef, rn, ro_at e, ro_at e, ro_at e, ro_at e, ro_at e, rn, ro_at e]
    show D a = some (oCo (lq.getD (nI k).toNatClampNeg 0) ow sc en (if (-1 : Int32) < 0 then .null else .ref (lf.getD (-1 : Int32).toNatClampNeg 0)))
    rw [nI_clamp hk, if_pos (by decide)]
    exact ha
  · rw [gN_appl (by rw [h.1]; omega), famRef, rn_lt (by omega), rn_lt (by omega), ro_lt (by omega), ro_lt (by omega), ro_lt (by omega), ro_lt (by omega)]
    exact h.2.2 n (by omega)
theorem rdT_stc (Q : List (List Int32)) (R : Nat → List (List Int32)) (n m : Nat) (x : Int32) : rdT (stc Q n 3 x) R m = rdT Q R m := by
  rw [rdT, rdT, rn, rn, ro_ne (Or.inl (by decide)), ro_ne (Or.inl (by decide)), rn, rn]
theorem cQs_close {D : kh} {l lc : List Nat} {Q H S : List (List Int32)} {R : Nat → List (List Int32)} (h : cQs D l lc Q H S R) (hl : rl Q 4) {n : Nat} (hn : n < Q.length) {cl r c s : Nat} {x : Int32} {op : Bool} (u : D (l.getD n 0) = some (oRq cl r x c s op)) : cQs (kup D (l.getD n 0) (oRq cl r x c s false)) l lc (stc Q n 3 0) H S R := by
  refine ⟨by rw [stc_len]; exact h.1, h.2.1, fun m hm => ?_⟩
  rw [stc_len] at hm
  have hk : dk 8 D (kup D (l.getD n 0) (oRq cl r x c s false)) := dk.up (c0 := oRq cl r x c s op) u
  obtain ⟨r1, c1, s1, g1, g2, g3, g4⟩ := h.2.2 m hm
  rw [rdT_stc, rn, ro_ne (Or.inl (by decide)), ro_ne (Or.inl (by decide)), ro_stc, ← rn]
  by_cases e : n = m
  · subst e
    rw [u] at g1
    injection g1 with g1; injection g1 with g1; injection g1 with _ g1; injection g1 with e1 g1; injection g1 with e2 g1; injection g1 with e3 g1; injection g1 with e4 g1; injection g1 with e5 g1
    rw [if_pos ⟨rfl, hn, rfl, by rw [hl n hn]; decide⟩]
    injection e1 with e1; injection e2 with e2; injection e3 with e3; injection e4 with e4; injection e5 with e5
    subst e2; subst e4; subst e5
    rw [← e1, ← e3]
    exact ⟨_, _, _, kup_s _ _ _, g2.dk hk (by decide) (by decide), g3.dk hk (by decide) (by decide), g4.dk hk (by decide) (by decide)⟩
  · rw [if_neg (fun q => e q.1)]
    exact ⟨r1, c1, s1, kup_i (fun z => e (h.2.1 n m (by rw [h.1]; exact hn) (by rw [h.1]; exact hm) z.symm)) g1, g2.dk hk (by decide) (by decide), g3.dk hk (by decide) (by decide), g4.dk hk (by decide) (by decide)⟩
theorem sb_den : sb_errorDenied = sb_errorIs ++ sb_access_denied := rfl

theorem q_client {Λ : kL} {S : Nat → Nat} {G : Nat → kc} {D : kh} (hS : cInj S) (hX : kXo Λ) {A L : Nat → List Nat} {N : Nat → Int32} {B : Nat → List Int32} {T R : Nat → List (List Int32)} (hR : cR Λ S G D A L N B T R) (hW : wf N B T R) (hJ : kJd Λ) (cf : Bool) (x : Int32) (rf : Bool) : eCt Λ mX11_client 8 2060 S [.ref (S 0), .int (bI cf), .int x, .int (bI rf)] G D (eP Λ S (opClient N B T R cf x rf) xl_s) := by
  refine eCt.of hS pn_X11 [some (.ref (S 0)), some (.int (bI cf)), some (.int x), some (.int (bI rf)), none] rfl (Nat.le_of_ble_eq_true rfl) fun X hNo => ?_
  have hR0 := hR; have hW0 := hW
  obtain ⟨p_a, p_b, p_n, p_k, p_f, p_h, p_w, p_c, p_r, p_q, p_o, p_m, p_t, p_d⟩ := hR
  obtain ⟨w_a, w_n, w_w, w_c, w_r, w_x, w_q, w_k, w_f, w_t, w_m, w_l⟩ := hW
  have p_a9 := p_a; obtain ⟨ft, a1, a2, a3, a4, a5, a6⟩ := p_a9
  have p_b9 := p_b; obtain ⟨fo9, b1, b2, b3, b4, b5, b6⟩ := p_b9
  refine E.aload_nR dX11_client_0 rfl ?_
  refine E.iload_n dX11_client_1 rfl ?_
  refine E.iload_n dX11_client_2 rfl ?_
  refine E.iload_n dX11_client_3 rfl ?_
  have hct : cCt Λ mX11_clientOnTape 6 2020 S [.ref (S 0), .int (bI cf), .int x, .int (bI rf)] G D (cotQ S G D (B 0) (T 3).length cf x rf) := by cases cf; exact k_cot_F hS hR0 hW0 hJ x rf; exact k_cot_T hS hR0 hW0 hJ x rf
  refine E.less (bc' := 2 + 6) (bs' := 40 + 2020) (by omega) (by omega) ?_
  refine E.callVS (k9 := 0) [.int (bI cf), .int x, .int (bI rf)] dX11_client_4 mdX11_clientOnTape imX11_clientOnTape seX11_clientOnTape kc_12 rfl p_n lk_X11_133 rfl rfl rfl rfl hct ?_
  rintro _ G9 D2 ⟨e9, hdm, hres⟩; have e9 := e9.symm; subst e9
  rcases hres with ⟨hgd, rfl⟩ | ⟨hgd, a9, rl9, i9, s9, rfl, hna, hnr, u1, u2, u3, u4⟩
  · skip
    refine E.astoreN (L' := [some (.ref (S 0)), some (.int (bI cf)), some (.int x), some (.int (bI rf)), some (.null)]) dX11_client_7 (by decide) rfl rfl ?_
    refine E.aload_nR dX11_client_9 rfl ?_
    refine E.getS (k9 := 0) (fs := [.ref (S 1), .ref (S 2), .ref (S 3), .ref (S 4), .ref (S 5), .ref (S 6), .ref (S 7), .ref (S 8), .ref (S 9), .ref (S 10), .ref (S 11), .ref (S 12), .int (N 26), .int (N 27), .int (N 28), .int (N 25), .int (N 5), .int (N 6)]) dX11_client_10 fl_X11_14 rfl p_n rfl ?_
    refine E.callVS0 (k9 := 1) [] dX11_client_13 mdX9_clear imX9_clear seX9_clear kc_10 rfl a1 lk_X11_109 rfl rfl rfl rfl (cCt.w1 (R := fun r => r = none) (i := 1) hS (by decide) fun σ9 h9 => c_Text_clear (h9.at (k := 1) rfl a1)) ?_
    rintro _ _ D9 ⟨rfl, rfl, e8⟩; have e8 := e8.symm; subst e8
    refine E.aloadN dX11_client_16 rfl ?_
    refine E.ifnullN (tgt := 41) dX11_client_18 (by decide) ?_
    refine E.less (bc' := 1 + 1) (bs' := 34 + 6) (by omega) (by omega) ?_
    refine E.throw hX hNo tw_ia sr_X11_149 rfl rfl dX11_client_41 dX11_client_44 (Or.inl ⟨dX11_client_45, dX11_client_47, dX11_client_50⟩) ?_
    rw [opClient, if_pos (by rw [hgd]; rfl)]
    exact ⟨0, rfl, rfl, A, L, ⟨ft, rfl, a2, Nat.zero_le _, by decide, rfl, bts_nil⟩, p_b, p_n, p_k, p_f, p_h, ⟨p_w.1, p_w.2.mono hdm⟩, ⟨p_c.1, p_c.2.mono hdm⟩, p_r.mono hdm, ⟨p_q.1, p_q.2.mono hdm⟩, ⟨p_o.1, p_o.2.mono hdm⟩, ⟨p_m.1, p_m.2.mono hdm⟩, ⟨p_t.1, p_t.2.1, p_t.2.2.mono hdm⟩, ⟨p_d.1, p_d.2.1, p_d.2.2.mono hdm⟩⟩
  · skip
    refine E.astore (L' := [some (.ref (S 0)), some (.int (bI cf)), some (.int x), some (.int (bI rf)), some (.ref a9)]) dX11_client_7 (by decide) rfl rfl ?_
    refine E.aload_nR dX11_client_9 rfl ?_
    refine E.getS (k9 := 0) (fs := [.ref (S 1), .ref (S 2), .ref (S 3), .ref (S 4), .ref (S 5), .ref (S 6), .ref (S 7), .ref (S 8), .ref (S 9), .ref (S 10), .ref (S 11), .ref (S 12), .int (N 26), .int (N 27), .int (N 28), .int (N 25), .int (N 5), .int (N 6)]) dX11_client_10 fl_X11_14 rfl p_n rfl ?_
    refine E.callVS0 (k9 := 1) [] dX11_client_13 mdX9_clear imX9_clear seX9_clear kc_10 rfl a1 lk_X11_109 rfl rfl rfl rfl (cCt.w1 (R := fun r => r = none) (i := 1) hS (by decide) fun σ9 h9 => c_Text_clear (h9.at (k := 1) rfl a1)) ?_
    rintro _ _ D9 ⟨rfl, rfl, e8⟩; have e8 := e8.symm; subst e8
    have hR1 : cR Λ S (updG G 1 (.inr (10, [.ref (S 13), .int (nI 0), .int 0]))) D2 A L N (setB B 0 []) T R := ⟨⟨ft, rfl, a2, Nat.zero_le _, by decide, rfl, bts_nil⟩, p_b, p_n, p_k, p_f, p_h, ⟨p_w.1, p_w.2.mono hdm⟩, ⟨p_c.1, p_c.2.mono hdm⟩, p_r.mono hdm, ⟨p_q.1, p_q.2.mono hdm⟩, ⟨p_o.1, p_o.2.mono hdm⟩, ⟨p_m.1, p_m.2.mono hdm⟩, ⟨p_t.1, p_t.2.1, p_t.2.2.mono hdm⟩, ⟨p_d.1, p_d.2.1, p_d.2.2.mono hdm⟩⟩
    have hW1 : wf N (setB B 0 []) T R := ⟨⟨Nat.zero_le _, bts_nil, hW0.1.2.2⟩, hW0.2⟩
    refine E.aloadR dX11_client_16 rfl ?_
    refine E.ifnullR dX11_client_18 ?_
    refine E.aload_nR dX11_client_21 rfl ?_
    refine E.iload_n dX11_client_22 rfl ?_
    refine E.callVS0 (k9 := 0) [.int x] dX11_client_23 mdX11_areScopes imX11_areScopes seX11_areScopes kc_12 rfl p_n lk_X11_137 rfl rfl rfl rfl (k_areScopes hS hR1 hW1 x) ?_
    rintro _ G9 D9 ⟨rfl, e9, e8⟩
    have e9 := e9.symm; subst e9; have e8 := e8.symm; subst e8
    refine E.if_eq (tgt := 41) dX11_client_26 (by decide) (fun c_26 => ?_) (fun c_26 => ?_)
    · skip
      refine E.less (bc' := 1 + 1) (bs' := 34 + 6) (by omega) (by omega) ?_
      refine E.throw hX hNo tw_ia sr_X11_149 rfl rfl dX11_client_41 dX11_client_44 (Or.inl ⟨dX11_client_45, dX11_client_47, dX11_client_50⟩) ?_
      rw [opClient, if_pos (by rw [hgd, (bI_eq0 _).mp c_26]; rfl)]
      exact ⟨0, rfl, rfl, A, L, ⟨ft, rfl, a2, Nat.zero_le _, by decide, rfl, bts_nil⟩, p_b, p_n, p_k, p_f, p_h, ⟨p_w.1, p_w.2.mono hdm⟩, ⟨p_c.1, p_c.2.mono hdm⟩, p_r.mono hdm, ⟨p_q.1, p_q.2.mono hdm⟩, ⟨p_o.1, p_o.2.mono hdm⟩, ⟨p_m.1, p_m.2.mono hdm⟩, ⟨p_t.1, p_t.2.1, p_t.2.2.mono hdm⟩, ⟨p_d.1, p_d.2.1, p_d.2.2.mono hdm⟩⟩
    · skip
      refine E.aload_nR dX11_client_29 rfl ?_
      refine E.aloadR dX11_client_30 rfl ?_
      refine E.getD dX11_client_32 fl_X11_140 u1 rfl ?_
      refine E.callVS0 (k9 := 0) [.ref i9] dX11_client_35 mdX11_clientOf imX11_clientOf seX11_clientOf kc_12 rfl p_n lk_X11_145 rfl rfl rfl rfl (k_clientOf_D hS (N := N) (show (updG G 1 (.inr (10, [.ref (S 13), .int (nI 0), .int 0]))) 0 = oGs S N from p_n) p_c.1 (p_c.2.mono hdm) w_c.1 u2) ?_
      rintro _ _ _ (⟨hlt, rfl, e9, e8⟩ | ⟨hlt, rfl, e9, e8⟩)
      · have e9 := e9.symm; subst e9; have e8 := e8.symm; subst e8
        refine E.ifnullR dX11_client_38 ?_
        refine E.less (bc' := 1 + 1) (bs' := 34 + 6) (by omega) (by omega) ?_
        refine E.throw hX hNo tw_ia sr_X11_149 rfl rfl dX11_client_41 dX11_client_44 (Or.inl ⟨dX11_client_45, dX11_client_47, dX11_client_50⟩) ?_
        rw [opClient, if_pos (by rw [hgd, decide_eq_false (show ¬ fnd (T 3) ((B 0).take (idL (B 0))) = (T 3).length by omega), Bool.and_false])]
        exact ⟨0, rfl, rfl, A, L, ⟨ft, rfl, a2, Nat.zero_le _, by decide, rfl, bts_nil⟩, p_b, p_n, p_k, p_f, p_h, ⟨p_w.1, p_w.2.mono hdm⟩, ⟨p_c.1, p_c.2.mono hdm⟩, p_r.mono hdm, ⟨p_q.1, p_q.2.mono hdm⟩, ⟨p_o.1, p_o.2.mono hdm⟩, ⟨p_m.1, p_m.2.mono hdm⟩, ⟨p_t.1, p_t.2.1, p_t.2.2.mono hdm⟩, ⟨p_d.1, p_d.2.1, p_d.2.2.mono hdm⟩⟩
      · have e9 := e9.symm; subst e9; have e8 := e8.symm; subst e8
        have hne : fnd (T 3) ((B 0).take (idL (B 0))) = (T 3).length := Nat.le_antisymm (fnd_le _ _) (Nat.le_of_not_lt hlt)
        have hok : (gdC (B 0) cf && decide (0 ≤ x ∧ x < 1 <<< (nI (T 2).length &&& 31)) && decide (fnd (T 3) ((B 0).take (idL (B 0))) = (T 3).length)) = true := by rw [hgd, bt1 c_26, decide_eq_true hne]; rfl
        have hrv := rv_len (A 7)
        have h73 := p_c.2.1
        have h8 := w_c.1
        refine E.ifnullN (tgt := 51) dX11_client_38 (by decide) ?_
        refine E.aload_nR dX11_client_51 rfl ?_
        refine E.getS (k9 := 0) (fs := [.ref (S 1), .ref (S 2), .ref (S 3), .ref (S 4), .ref (S 5), .ref (S 6), .ref (S 7), .ref (S 8), .ref (S 9), .ref (S 10), .ref (S 11), .ref (S 12), .int (N 26), .int (N 27), .int (N 28), .int (N 25), .int (N 5), .int (N 6)]) dX11_client_52 fl_X11_49 rfl p_n rfl ?_
        refine E.callLS0 (k9 := 7) [] dX11_client_55 mdJx4a65c_size_8abf5 imJx4a65c_size_8abf5 seJx4a65c_size_8abf5 rfl p_c.1 lk_X11_123 rfl rfl rfl rfl (cCt.w0 (R := fun r => r = some (.int (nI (rv (A 7)).length))) fun σ9 h9 => c_list_size (h9.at (k := 7) rfl p_c.1)) ?_
        rintro _ G9 D9 ⟨rfl, e9, e8⟩
        have e9 := e9.symm; subst e9; have e8 := e8.symm; subst e8
        refine E.bipush (v := 8) dX11_client_58 (by decide) ?_
        refine E.icmp_lt (tgt := 73) dX11_client_60 (by decide) (fun c_60 => ?_) (fun c_60 => ?_)
        · skip
          have h7 : (T 3).length < 8 := by have h9 := c_60; rw [hrv, h73] at h9; exact (nI_ltI (b := 8) (by omega) (by decide)).mp h9
          refine E.aload_nR dX11_client_73 rfl ?_
          refine E.getS (k9 := 0) (fs := [.ref (S 1), .ref (S 2), .ref (S 3), .ref (S 4), .ref (S 5), .ref (S 6), .ref (S 7), .ref (S 8), .ref (S 9), .ref (S 10), .ref (S 11), .ref (S 12), .int (N 26), .int (N 27), .int (N 28), .int (N 25), .int (N 5), .int (N 6)]) dX11_client_74 fl_X11_49 rfl p_n rfl ?_
          refine E.aloadR dX11_client_77 rfl ?_
          refine E.less (bc' := 1 + 1) (bs' := (40 - (2 * (rv (A 7)).length + 10)) + (2 * (rv (A 7)).length + 10)) (by omega) (by omega) ?_
          refine E.callLS (k9 := 7) [.ref a9] dX11_client_79 mdJx4a65c_add_9ea2d imJx4a65c_add_9ea2d seJx4a65c_add_9ea2d rfl p_c.1 lk_X11_129 rfl rfl rfl rfl (cCt.w1 (R := fun r => r = some (.int 1)) (i := 7) hS (by decide) fun σ9 h9 => c_list_add (h9.at (k := 7) rfl p_c.1) kc_1 ca_1 hJ ((cC_el (p_c.2.mono hdm)).mono h9.2.1) (h9.2.1 _ _ u1) (by omega)) ?_
          rintro _ _ D9 ⟨rfl, rfl, e8⟩
          have e8 := e8.symm; subst e8
          refine E.pop dX11_client_82 rfl ?_
          refine E.aload_nR dX11_client_83 rfl ?_
          refine E.getS (k9 := 0) (fs := [.ref (S 1), .ref (S 2), .ref (S 3), .ref (S 4), .ref (S 5), .ref (S 6), .ref (S 7), .ref (S 8), .ref (S 9), .ref (S 10), .ref (S 11), .ref (S 12), .int (N 26), .int (N 27), .int (N 28), .int (N 25), .int (N 5), .int (N 6)]) dX11_client_84 fl_X11_49 rfl p_n rfl ?_
          refine E.callLS0 (k9 := 7) [] dX11_client_87 mdJx4a65c_size_8abf5 imJx4a65c_size_8abf5 seJx4a65c_size_8abf5 rfl rfl lk_X11_123 rfl rfl rfl rfl (cCt.w0 (R := fun r => r = some (.int (nI ((rv (A 7)) ++ [Value.ref a9]).length))) fun σ9 h9 => c_list_size (h9.at (k := 7) rfl rfl)) ?_
          rintro _ G9 D9 ⟨rfl, e9, e8⟩
          have e9 := e9.symm; subst e9; have e8 := e8.symm; subst e8
          refine E.iconst (v := 1) dX11_client_90 (by decide) ?_
          refine E.isub dX11_client_91 ?_
          rw [show (nI ((rv (A 7)) ++ [Value.ref a9]).length) - 1 = nI (T 3).length from (by rw [List.length_append, hrv, h73]; exact pk_sub (a := (T 3).length + 1) (b := 1) (by omega))]
          refine E.iret dX11_client_92 rfl ?_
          rw [opClient, if_neg (by rw [hok]; decide), if_neg (by omega)]
          have hq0 : ∀ n, n < (T 23).length → rn (T 23) n 0 < (A 7).length := fun n hn => by obtain ⟨c8, r8, e1, -, e3, -⟩ := w_q.2.2.2.2.2.2 n hn; rw [rn, e1, nI_clamp (by omega), h73]; exact e3
          exact ⟨rfl, rfl, setA (setA A 7 (A 7 ++ [a9])) 13 (A 13 ++ [rl9]), setA L (T 3).length [], ⟨ft, rfl, a2, Nat.zero_le _, by decide, rfl, bts_nil⟩, p_b, p_n, p_k, p_f, p_h, ⟨p_w.1, p_w.2.mono hdm⟩, ⟨congrArg kLi (rv_app _ _), cC_app p_c.2 hdm w_c.2.2.1 w_c.2.2.2.1 u1 u2 u3 (fun e => if_pos e)⟩, (cRd_new p_r hdm (p_c.2.2.1).symm hnr u4 ((w_r _).2.1 (Nat.le_refl _))), ⟨p_q.1, cQs_lc (p_q.2.mono hdm) hq0 a9⟩, ⟨p_o.1, p_o.2.mono hdm⟩, ⟨p_m.1, p_m.2.mono hdm⟩, ⟨p_t.1, p_t.2.1, p_t.2.2.mono hdm⟩, ⟨p_d.1, p_d.2.1, p_d.2.2.mono hdm⟩⟩
        · skip
          refine E.less (bc' := 1 + 1) (bs' := 34 + 6) (by omega) (by omega) ?_
          refine E.throw hX hNo tw_uo sr_X11_151 rfl rfl dX11_client_63 dX11_client_66 (Or.inl ⟨dX11_client_67, dX11_client_69, dX11_client_72⟩) ?_
          have h88 : (T 3).length = 8 := by rw [hrv, h73] at c_60; have := (nI_leI (a := 8) (by decide) (by omega)).mp (Int32.not_lt.mp c_60); omega
          rw [opClient, if_neg (by rw [hok]; decide), if_pos h88]
          exact ⟨1, rfl, rfl, A, L, ⟨ft, rfl, a2, Nat.zero_le _, by decide, rfl, bts_nil⟩, p_b, p_n, p_k, p_f, p_h, ⟨p_w.1, p_w.2.mono hdm⟩, ⟨p_c.1, p_c.2.mono hdm⟩, p_r.mono hdm, ⟨p_q.1, p_q.2.mono hdm⟩, ⟨p_o.1, p_o.2.mono hdm⟩, ⟨p_m.1, p_m.2.mono hdm⟩, ⟨p_t.1, p_t.2.1, p_t.2.2.mono hdm⟩, ⟨p_d.1, p_d.2.1, p_d.2.2.mono hdm⟩⟩

theorem kEl.dk9 {D D2 : kh} {l : List Value} (h : kEl D 2 l) (hd : dk 6 D D2) : kEl D2 2 l := fun v hv => by
  obtain ⟨y, fs, h1, h2⟩ := h v hv
  exact ⟨y, fs, h1, hd _ _ h2 (show 2 ≠ 6 by decide)⟩

theorem k_sendCode {Λ : kL} {S : Nat → Nat} {G : Nat → kc} {D : kh} (hS : cInj S) {A L : Nat → List Nat} {N : Nat → Int32} {B : Nat → List Int32} {T R : Nat → List (List Int32)} (hR : cR Λ S G D A L N B T R) (hSt : kSt Λ) (hJ : kJd Λ) (hx60 : (T 20).length ≤ 60) (hu : (T 21).length + 1 ≤ 800) (hM : (T 22).length = (T 21).length) (hc2 : (T 27).length < 200) {d : List Int32} {W1 : List (List Int32)} (htk : tk1 (T 21) (T 20) = some (d, W1)) {a k : Nat} {ow sc en : Int32} (hk : k < (T 23).length) (hk2 : k < 200) (ha : D a = some (oCo ((A 8).getD k 0) ow sc en .null)) (hna : ∀ i, i < (A 9).length → (A 9).getD i 0 ≠ a) (hxl : (rdT (T 23) R k).length ≤ 80) (hyl : ((T 26).getD k []).length ≤ 2000) : cCt Λ mX11_sendCode 2 2200 S [.ref (S 0), .ref a] G D (cP Λ S (nI (T 27).length, 0, ans N 302 0, setB B 1 (locT T R k (sb_codeIs ++ b64 d 22)), setT (setT (setT (setT T 20 W1) 21 (T 21 ++ [d])) 22 (T 22 ++ [[0, nI (T 27).length]])) 27 (T 27 ++ [[nI (T 21).length, nI k, ow, sc, en, -1]]), R)) := by
  refine cCt.of hS pn_X11 [some (.ref (S 0)), some (.ref a)] rfl (Nat.le_of_ble_eq_true rfl) fun X => ?_
  obtain ⟨p_a, p_b, p_n, p_k, p_f, p_h, p_w, p_c, p_r, p_q, p_o, p_m, p_t, p_d⟩ := hR
  have p_b9 := p_b; obtain ⟨fo9, b1, b2, b3, b4, b5, b6⟩ := p_b9
  obtain ⟨r9, c9, s9, u2, hx1, hx3, hx2⟩ := p_q.2.2.2 _ hk
  have l_ci : sb_codeIs.length = 5 := rfl
  have hr9 := rv_len (A 9); have ho9 := p_o.2.1
  refine C.aload_nR dX11_sendCode_0 rfl ?_
  refine C.sipush (v := 302) dX11_sendCode_1 (by decide) ?_
  refine C.iconst (v := 0) dX11_sendCode_4 (by decide) ?_
  refine C.callVS0 (k9 := 0) [.int 302, .int 0] dX11_sendCode_5 mdX11_answer imX11_answer seX11_answer kc_12 rfl p_n lk_X11_240 rfl rfl rfl rfl (k_answer hS (N := N) (show G 0 = oGs S N from p_n) (show tO S G 2 14 6200 (B 1) from p_b) 302 0) ?_
  rintro _ _ D9 ⟨rfl, rfl, e8⟩; have e8 := e8.symm; subst e8
  refine C.pop dX11_sendCode_8 rfl ?_
  refine C.aload_nR dX11_sendCode_9 rfl ?_
  refine C.aload_nR dX11_sendCode_10 rfl ?_
  refine C.getD dX11_sendCode_11 fl_X11_357 ha rfl ?_
  refine C.getD dX11_sendCode_14 fl_X11_268 u2 rfl ?_
  refine C.callVS0 (k9 := 0) [.ref r9] dX11_sendCode_17 mdX11_startLocation imX11_startLocation seX11_startLocation kc_12 rfl rfl lk_X11_437 rfl rfl rfl rfl (k_startLocation hS (N := ans N 302 0) rfl (show tO S (gA S G N 302 0) 2 14 6200 [] from ⟨fo9, rfl, b2, Nat.zero_le _, by decide, rfl, bts_nil⟩) (Or.inl hx1) (by show 0 + (rdT (T 23) R k).length + 1 ≤ 6200; omega)) ?_
  rintro _ _ D9 ⟨f9_1, h_f9_1, b_f9_1, rfl, rfl, e8⟩; have e8 := e8.symm; subst e8
  rw [List.nil_append] at h_f9_1 b_f9_1 ⊢
  refine C.aload_nR dX11_sendCode_20 rfl ?_
  refine C.getS (k9 := 0) (fs := [.ref (S 1), .ref (S 2), .ref (S 3), .ref (S 4), .ref (S 5), .ref (S 6), .ref (S 7), .ref (S 8), .ref (S 9), .ref (S 10), .ref (S 11), .ref (S 12), .int (N 26), .int (N 27), .int (N 28), .int (N 25), .int 302, .int 0]) dX11_sendCode_21 fl_X11_18 rfl rfl rfl ?_
  refine C.ldcwS dX11_sendCode_24 sr_X11_453 ?_
  refine C.callVS0 (k9 := 2) [.ref (kSa Λ RX11 453)] dX11_sendCode_27 mdX9_addWord imX9_addWord seX9_addWord kc_10 rfl rfl lk_X11_443 rfl rfl rfl rfl (o_addWord hS (show tO S (gW S (gA S G N 302 0) 2 14 6200 f9_1 ((rdT (T 23) R k) ++ [plc (rdT (T 23) R k)]).length) 2 14 6200 ((rdT (T 23) R k) ++ [plc (rdT (T 23) R k)]) from (tO.gW (by decide) (by simp only [List.length_append, List.length_singleton, b64_len, l_ci]; have := st_len ((T 26).getD k []); omega) (by decide) h_f9_1 b_f9_1)) rfl rfl (st_X11_453 hSt) sb_codeIs_b (by simp only [List.length_append, List.length_singleton, b64_len, l_ci]; have := st_len ((T 26).getD k []); omega)) ?_
  rintro _ _ D9 ⟨f9_2, h_f9_2, b_f9_2, rfl, rfl, e8⟩; have e8 := e8.symm; subst e8
  rw [gW_gW _ _ _ _ _ _ _ (by decide)]
  refine C.aload_nR dX11_sendCode_30 rfl ?_
  refine C.getS (k9 := 0) (fs := [.ref (S 1), .ref (S 2), .ref (S 3), .ref (S 4), .ref (S 5), .ref (S 6), .ref (S 7), .ref (S 8), .ref (S 9), .ref (S 10), .ref (S 11), .ref (S 12), .int (N 26), .int (N 27), .int (N 28), .int (N 25), .int 302, .int 0]) dX11_sendCode_31 fl_X11_31 rfl rfl rfl ?_
  refine C.iconst (v := 0) dX11_sendCode_34 (by decide) ?_
  refine C.aload_nR dX11_sendCode_35 rfl ?_
  refine C.getS (k9 := 0) (fs := [.ref (S 1), .ref (S 2), .ref (S 3), .ref (S 4), .ref (S 5), .ref (S 6), .ref (S 7), .ref (S 8), .ref (S 9), .ref (S 10), .ref (S 11), .ref (S 12), .int (N 26), .int (N 27), .int (N 28), .int (N 25), .int 302, .int 0]) dX11_sendCode_36 fl_X11_55 rfl rfl rfl ?_
  refine C.callLS0 (k9 := 9) [] dX11_sendCode_39 mdJx4a65c_size_8abf5 imJx4a65c_size_8abf5 seJx4a65c_size_8abf5 rfl p_o.1 lk_X11_123 rfl rfl rfl rfl (cCt.w0 (R := fun r => r = some (.int (nI (rv (A 9)).length))) fun σ9 h9 => c_list_size (h9.at (k := 9) rfl p_o.1)) ?_
  rintro _ G9 D9 ⟨rfl, e9, e8⟩
  have e9 := e9.symm; subst e9; have e8 := e8.symm; subst e8
  refine C.aload_nR dX11_sendCode_42 rfl ?_
  refine C.getS (k9 := 0) (fs := [.ref (S 1), .ref (S 2), .ref (S 3), .ref (S 4), .ref (S 5), .ref (S 6), .ref (S 7), .ref (S 8), .ref (S 9), .ref (S 10), .ref (S 11), .ref (S 12), .int (N 26), .int (N 27), .int (N 28), .int (N 25), .int 302, .int 0]) dX11_sendCode_43 fl_X11_18 rfl rfl rfl ?_
  rw [rv_len (A 9), p_o.2.1]
  refine C.less (bc' := 1 + 1) (bs' := 500 + 1700) (by omega) (by omega) ?_
  refine C.callVS (k9 := 4) [.int 0, .int (nI (T 27).length), .ref (S 2)] dX11_sendCode_46 mdX6_make imX6_make seX6_make kc_7 rfl p_k.2.1 lk_X11_455 rfl rfl rfl rfl (k_make hS hJ (G := (gW S (gA S G N 302 0) 2 14 6200 f9_2 (((rdT (T 23) R k) ++ [plc (rdT (T 23) R k)]) ++ sb_codeIs).length)) p_k.2.1 p_d.1 p_d.2.1 p_d.2.2 hM hx60 (by omega) htk (show tO S (gW S (gA S G N 302 0) 2 14 6200 f9_2 (((rdT (T 23) R k) ++ [plc (rdT (T 23) R k)]) ++ sb_codeIs).length) 2 14 6200 (((rdT (T 23) R k) ++ [plc (rdT (T 23) R k)]) ++ sb_codeIs) from (tO.gW (by decide) (by simp only [List.length_append, List.length_singleton, b64_len, l_ci]; have := st_len ((T 26).getD k []); omega) (by decide) h_f9_2 b_f9_2)) (by simp only [List.length_append, List.length_singleton, b64_len, l_ci]; have := st_len ((T 26).getD k []); omega) 0 _) ?_
  rintro _ _ Dm ⟨rfl, ym, lwm, fm, h_fm, b_fm, rfl, dkm, hHm⟩
  refine C.aload_nR dX11_sendCode_49 rfl ?_
  refine C.aload_nR dX11_sendCode_50 rfl ?_
  refine C.getD dX11_sendCode_51 fl_X11_357 (dkm _ _ ha (show 2 ≠ 6 by decide)) rfl ?_
  refine C.getD dX11_sendCode_54 fl_X11_271 (dkm _ _ u2 (show 8 ≠ 6 by decide)) rfl ?_
  refine C.callVS0 (k9 := 0) [.ref s9] dX11_sendCode_57 mdX11_endLocation imX11_endLocation seX11_endLocation kc_12 rfl rfl lk_X11_450 rfl rfl rfl rfl (k_endLocation hS hSt (N := ans N 302 0) rfl (show tO S (gW S (updG (updG (gW S (gA S G N 302 0) 2 14 6200 f9_2 (((rdT (T 23) R k) ++ [plc (rdT (T 23) R k)]) ++ sb_codeIs).length) 45 (kLi (rv lwm))) 46 (kLi (rv (A 46 ++ [ym])))) 2 14 6200 fm ((((rdT (T 23) R k) ++ [plc (rdT (T 23) R k)]) ++ sb_codeIs) ++ b64 d 22).length) 2 14 6200 ((((rdT (T 23) R k) ++ [plc (rdT (T 23) R k)]) ++ sb_codeIs) ++ b64 d 22) from (tO.gW (by decide) (by simp only [List.length_append, List.length_singleton, b64_len, l_ci]; have := st_len ((T 26).getD k []); omega) (by decide) h_fm b_fm)) (Or.inl (hx2.dk dkm (by decide) (by decide))) (by simp only [List.length_append, List.length_singleton, b64_len, l_ci]; have := st_len ((T 26).getD k []); omega)) ?_
  rintro _ _ D9 ⟨f9_3, h_f9_3, b_f9_3, rfl, rfl, e8⟩; have e8 := e8.symm; subst e8
  refine C.aload_nR dX11_sendCode_60 rfl ?_
  refine C.getS (k9 := 0) (fs := [.ref (S 1), .ref (S 2), .ref (S 3), .ref (S 4), .ref (S 5), .ref (S 6), .ref (S 7), .ref (S 8), .ref (S 9), .ref (S 10), .ref (S 11), .ref (S 12), .int (N 26), .int (N 27), .int (N 28), .int (N 25), .int 302, .int 0]) dX11_sendCode_61 fl_X11_55 rfl rfl rfl ?_
  refine C.aload_nR dX11_sendCode_64 rfl ?_
  refine C.less (bc' := 0 + 1) (bs' := (500 - (2 * (rv (A 9)).length + 10)) + (2 * (rv (A 9)).length + 10)) (by omega) (by omega) ?_
  refine C.callLS (k9 := 9) [.ref a] dX11_sendCode_65 mdJx4a65c_add_9ea2d imJx4a65c_add_9ea2d seJx4a65c_add_9ea2d rfl p_o.1 lk_X11_129 rfl rfl rfl rfl (cCt.w1 (R := fun r => r = some (.int 1)) (i := 9) hS (by decide) fun σ9 h9 => c_list_add (h9.at (k := 9) rfl p_o.1) kc_2 ca_2 hJ (((cCo_el p_o.2).dk9 dkm).mono h9.2.1) (h9.2.1 _ _ (dkm _ _ ha (show 2 ≠ 6 by decide))) (by rw [rv_len]; omega)) ?_
  rintro _ _ D9 ⟨rfl, rfl, e8⟩
  have e8 := e8.symm; subst e8
  refine C.pop dX11_sendCode_68 rfl ?_
  refine C.aload_nR dX11_sendCode_69 rfl ?_
  refine C.getS (k9 := 0) (fs := [.ref (S 1), .ref (S 2), .ref (S 3), .ref (S 4), .ref (S 5), .ref (S 6), .ref (S 7), .ref (S 8), .ref (S 9), .ref (S 10), .ref (S 11), .ref (S 12), .int (N 26), .int (N 27), .int (N 28), .int (N 25), .int 302, .int 0]) dX11_sendCode_70 fl_X11_55 rfl rfl rfl ?_
  refine C.callLS0 (k9 := 9) [] dX11_sendCode_73 mdJx4a65c_size_8abf5 imJx4a65c_size_8abf5 seJx4a65c_size_8abf5 rfl rfl lk_X11_123 rfl rfl rfl rfl (cCt.w0 (R := fun r => r = some (.int (nI ((rv (A 9)) ++ [Value.ref a]).length))) fun σ9 h9 => c_list_size (h9.at (k := 9) rfl rfl)) ?_
  rintro _ G9 D9 ⟨rfl, e9, e8⟩
  have e9 := e9.symm; subst e9; have e8 := e8.symm; subst e8
  refine C.iconst (v := 1) dX11_sendCode_76 (by decide) ?_
  refine C.isub dX11_sendCode_77 ?_
  rw [show (nI ((rv (A 9)) ++ [Value.ref a]).length) - 1 = nI (T 27).length from (by rw [List.length_append, rv_len, p_o.2.1]; exact pk_sub (a := (T 27).length + 1) (b := 1) (by omega))]
  refine C.iret dX11_sendCode_78 rfl ?_
  have et : (((((rdT (T 23) R k) ++ [plc (rdT (T 23) R k)]) ++ sb_codeIs) ++ b64 d 22) ++ stS ((T 26).getD k [])) = locT T R k (sb_codeIs ++ b64 d 22) := by rw [locT]; simp only [List.append_assoc]
  have hta : tO S (updG (gW S (gW S (updG (updG (gW S (gA S G N 302 0) 2 14 6200 f9_2 (((rdT (T 23) R k) ++ [plc (rdT (T 23) R k)]) ++ sb_codeIs).length) 45 (kLi (rv lwm))) 46 (kLi (rv (A 46 ++ [ym])))) 2 14 6200 fm ((((rdT (T 23) R k) ++ [plc (rdT (T 23) R k)]) ++ sb_codeIs) ++ b64 d 22).length) 2 14 6200 f9_3 (((((rdT (T 23) R k) ++ [plc (rdT (T 23) R k)]) ++ sb_codeIs) ++ b64 d 22) ++ stS ((T 26).getD k [])).length) 9 (kLi ((rv (A 9)) ++ [Value.ref a]))) 2 14 6200 (((((rdT (T 23) R k) ++ [plc (rdT (T 23) R k)]) ++ sb_codeIs) ++ b64 d 22) ++ stS ((T 26).getD k [])) := (show tO S (gW S (gW S (updG (updG (gW S (gA S G N 302 0) 2 14 6200 f9_2 (((rdT (T 23) R k) ++ [plc (rdT (T 23) R k)]) ++ sb_codeIs).length) 45 (kLi (rv lwm))) 46 (kLi (rv (A 46 ++ [ym])))) 2 14 6200 fm ((((rdT (T 23) R k) ++ [plc (rdT (T 23) R k)]) ++ sb_codeIs) ++ b64 d 22).length) 2 14 6200 f9_3 (((((rdT (T 23) R k) ++ [plc (rdT (T 23) R k)]) ++ sb_codeIs) ++ b64 d 22) ++ stS ((T 26).getD k [])).length) 2 14 6200 (((((rdT (T 23) R k) ++ [plc (rdT (T 23) R k)]) ++ sb_codeIs) ++ b64 d 22) ++ stS ((T 26).getD k [])) from (tO.gW (by decide) (by simp only [List.length_append, List.length_singleton, b64_len, l_ci]; have := st_len ((T 26).getD k []); omega) (by decide) h_f9_3 b_f9_3))
  rw [et] at hta
  rw [et]
  exact ⟨rfl, setA (setA (setA A 45 lwm) 46 (A 46 ++ [ym])) 9 (A 9 ++ [a]), L, p_a, hta, rfl, p_k, p_f, p_h, ⟨p_w.1, p_w.2.dk dkm (by decide) (by decide)⟩, ⟨p_c.1, p_c.2.dk dkm (by decide) (by decide) (by decide)⟩, p_r.dk dkm (by decide) (by decide) (by decide), ⟨p_q.1, p_q.2.dk dkm (by decide) (by decide) (by decide)⟩, ⟨congrArg kLi (rv_app _ _), cCo_new (p_o.2.dk dkm (by decide)) (by omega) (dkm _ _ ha (show 2 ≠ 6 by decide)) hna⟩, ⟨p_m.1, p_m.2.dk dkm (by decide)⟩, ⟨p_t.1, p_t.2.1, p_t.2.2.dk dkm (by decide)⟩, ⟨rfl, rfl, hHm⟩⟩

theorem q_consent_T {Λ : kL} {S : Nat → Nat} {G : Nat → kc} {D : kh} (hS : cInj S) (hX : kXo Λ) {A L : Nat → List Nat} {N : Nat → Int32} {B : Nat → List Int32} {T R : Nat → List (List Int32)} (hR : cR Λ S G D A L N B T R) (hW : wf N B T R) (hSt : kSt Λ) (hJ : kJd Λ) (q o x : Int32) : eCt Λ mX11_consent 4 2300 S [.ref (S 0), .int q, .int o, .int x, .int 1] G D (eP Λ S (opConsent N B T R q o x true) xl_c) := by
  refine eCt.of hS pn_X11 [some (.ref (S 0)), some (.int q), some (.int o), some (.int x), some (.int 1), none] rfl (Nat.le_of_ble_eq_true rfl) fun X hNo => ?_
  have hR0 := hR; have hW0 := hW
  obtain ⟨p_a, p_b, p_n, p_k, p_f, p_h, p_w, p_c, p_r, p_q, p_o, p_m, p_t, p_d⟩ := hR
  obtain ⟨w_a, w_n, w_w, w_c, w_r, w_x, w_q, w_k, w_f, w_t, w_m, w_l⟩ := hW
  have p_a9 := p_a; obtain ⟨ft, a1, a2, a3, a4, a5, a6⟩ := p_a9
  have p_b9 := p_b; obtain ⟨fo9, b1, b2, b3, b4, b5, b6⟩ := p_b9
  refine E.iload_n dX11_consent_0 rfl ?_
  refine E.if_lt (tgt := 32) dX11_consent_1 (by decide) (fun c_1 => ?_) (fun c_1 => ?_)
  · skip
    refine E.less (bc' := 3 + 1) (bs' := 2294 + 6) (by omega) (by omega) ?_
    refine E.throw hX hNo tw_ns sr_X11_250 rfl rfl dX11_consent_32 dX11_consent_35 (Or.inl ⟨dX11_consent_36, dX11_consent_38, dX11_consent_41⟩) ?_
    rw [opConsent, if_pos (Or.inl c_1)]
    exact ⟨0, rfl, rfl, A, L, p_a, p_b, p_n, p_k, p_f, p_h, p_w, p_c, p_r, p_q, p_o, p_m, p_t, p_d⟩
  · skip
    refine E.iload_n dX11_consent_4 rfl ?_
    refine E.aload_nR dX11_consent_5 rfl ?_
    refine E.getS (k9 := 0) (fs := [.ref (S 1), .ref (S 2), .ref (S 3), .ref (S 4), .ref (S 5), .ref (S 6), .ref (S 7), .ref (S 8), .ref (S 9), .ref (S 10), .ref (S 11), .ref (S 12), .int (N 26), .int (N 27), .int (N 28), .int (N 25), .int (N 5), .int (N 6)]) dX11_consent_6 fl_X11_52 rfl p_n rfl ?_
    refine E.callLS0 (k9 := 8) [] dX11_consent_9 mdJx4a65c_size_8abf5 imJx4a65c_size_8abf5 seJx4a65c_size_8abf5 rfl p_q.1 lk_X11_123 rfl rfl rfl rfl (cCt.w0 (R := fun r => r = some (.int (nI (rv (A 8)).length))) fun σ9 h9 => c_list_size (h9.at (k := 8) rfl p_q.1)) ?_
    rintro _ G9 D9 ⟨rfl, e9, e8⟩
    have e9 := e9.symm; subst e9; have e8 := e8.symm; subst e8
    refine E.icmp_ge (tgt := 32) dX11_consent_12 (by decide) (fun c_12 => ?_) (fun c_12 => ?_)
    · skip
      refine E.less (bc' := 3 + 1) (bs' := 2294 + 6) (by omega) (by omega) ?_
      refine E.throw hX hNo tw_ns sr_X11_250 rfl rfl dX11_consent_32 dX11_consent_35 (Or.inl ⟨dX11_consent_36, dX11_consent_38, dX11_consent_41⟩) ?_
      rw [opConsent, if_pos (Or.inr (Or.inl (by rw [rv_len, p_q.2.1] at c_12; exact c_12)))]
      exact ⟨0, rfl, rfl, A, L, p_a, p_b, p_n, p_k, p_f, p_h, p_w, p_c, p_r, p_q, p_o, p_m, p_t, p_d⟩
    · skip
      rw [rv_len, p_q.2.1] at c_12
      obtain ⟨k, hkx, hk⟩ : ∃ k, q = nI k ∧ k < (T 23).length := ⟨_, oix_eq c_1, oix_lt c_1 (Int32.not_le.mp c_12) (by have := w_q.1; omega)⟩
      subst hkx
      rw [opConsent, nI_clamp (by have := w_q.1; omega)]
      obtain ⟨r9, c9, s9, u2, hx1, hx3, hx2⟩ := p_q.2.2.2 _ hk
      refine E.aload_nR dX11_consent_15 rfl ?_
      refine E.getS (k9 := 0) (fs := [.ref (S 1), .ref (S 2), .ref (S 3), .ref (S 4), .ref (S 5), .ref (S 6), .ref (S 7), .ref (S 8), .ref (S 9), .ref (S 10), .ref (S 11), .ref (S 12), .int (N 26), .int (N 27), .int (N 28), .int (N 25), .int (N 5), .int (N 6)]) dX11_consent_16 fl_X11_52 rfl p_n rfl ?_
      refine E.iload_n dX11_consent_19 rfl ?_
      refine E.callLS0 (k9 := 8) [.int (nI k)] dX11_consent_20 mdJx4a65c_get_915e3 imJx4a65c_get_915e3 seJx4a65c_get_915e3 rfl p_q.1 lk_X11_163 rfl rfl rfl rfl (cCt.w0 (R := fun r => r = some (.ref ((A 8).getD k 0))) fun σ9 h9 => c_list_get (h9.at (k := 8) rfl p_q.1) (rv_at (by rw [p_q.2.1]; exact hk))) ?_
      rintro _ G9 D9 ⟨rfl, e9, e8⟩
      have e9 := e9.symm; subst e9; have e8 := e8.symm; subst e8
      refine E.castD dX11_consent_23 cl_X11_228 cs_8 kc_8 u2 ?_
      refine E.getD dX11_consent_26 fl_X11_244 u2 rfl ?_
      refine E.if_ne (tgt := 42) dX11_consent_29 (by decide) (fun c_29 => ?_) (fun c_29 => ?_)
      · skip
        have hop : ro (T 23) k 3 = 1 := of_decide_eq_true (bt1 c_29)
        have hno : ¬ (nI k < 0 ∨ nI (T 23).length ≤ nI k ∨ ro (T 23) k 3 = 0) := fun z => z.elim c_1 fun z => z.elim c_12 fun z => absurd (hop.symm.trans z) (by decide)
        rw [if_neg hno]
        have hk2 : k < 200 := by have := w_q.1; omega
        obtain ⟨c8, r8, e81, e82, e83, e84⟩ := w_q.2.2.2.2.2.2 _ hk
        have hrd : rdT (T 23) R k = (R c8).getD r8 [] := by rw [rdT, rn, rn, e81, e82, nI_clamp (by have := w_c.1; omega), nI_clamp (by have := (w_r c8).1; omega)]
        have hxl : (rdT (T 23) R k).length ≤ 80 := by rw [hrd]; exact ((w_r c8).2.2 _ e84).2.1
        have hyl : ((T 26).getD k []).length ≤ 2000 := (w_q.2.2.2.2.2.1 k (by rw [w_q.2.2.1]; exact hk)).2.1
        refine E.aload_nR dX11_consent_42 rfl ?_
        refine E.getS (k9 := 0) (fs := [.ref (S 1), .ref (S 2), .ref (S 3), .ref (S 4), .ref (S 5), .ref (S 6), .ref (S 7), .ref (S 8), .ref (S 9), .ref (S 10), .ref (S 11), .ref (S 12), .int (N 26), .int (N 27), .int (N 28), .int (N 25), .int (N 5), .int (N 6)]) dX11_consent_43 fl_X11_52 rfl p_n rfl ?_
        refine E.iload_n dX11_consent_46 rfl ?_
        refine E.callLS0 (k9 := 8) [.int (nI k)] dX11_consent_47 mdJx4a65c_get_915e3 imJx4a65c_get_915e3 seJx4a65c_get_915e3 rfl p_q.1 lk_X11_163 rfl rfl rfl rfl (cCt.w0 (R := fun r => r = some (.ref ((A 8).getD k 0))) fun σ9 h9 => c_list_get (h9.at (k := 8) rfl p_q.1) (rv_at (by rw [p_q.2.1]; exact hk))) ?_
        rintro _ G9 D9 ⟨rfl, e9, e8⟩
        have e9 := e9.symm; subst e9; have e8 := e8.symm; subst e8
        refine E.castD dX11_consent_50 cl_X11_228 cs_8 kc_8 u2 ?_
        refine E.astore (L' := [some (.ref (S 0)), some (.int (nI k)), some (.int o), some (.int x), some (.int 1), some (.ref ((A 8).getD k 0))]) dX11_consent_53 (by decide) rfl rfl ?_
        refine E.iload dX11_consent_55 rfl ?_
        refine E.if_eq (tgt := 87) dX11_consent_57 (by decide) (fun c_57 => absurd c_57 (by decide)) (fun c_57 => ?_)
        refine E.iload_n dX11_consent_60 rfl ?_
        refine E.if_eq (tgt := 76) dX11_consent_61 (by decide) (fun c_61 => ?_) (fun c_61 => ?_)
        · skip
          refine E.less (bc' := 3 + 1) (bs' := 2294 + 6) (by omega) (by omega) ?_
          refine E.throw hX hNo tw_ia sr_X11_258 rfl rfl dX11_consent_76 dX11_consent_79 (Or.inr ⟨dX11_consent_80, dX11_consent_83, dX11_consent_86⟩) ?_
          rw [if_pos ⟨rfl, Or.inl c_61⟩]
          exact ⟨1, rfl, rfl, A, L, p_a, p_b, p_n, p_k, p_f, p_h, p_w, p_c, p_r, p_q, p_o, p_m, p_t, p_d⟩
        · skip
          refine E.iload_n dX11_consent_64 rfl ?_
          refine E.aloadR dX11_consent_65 rfl ?_
          refine E.getD dX11_consent_67 fl_X11_253 u2 rfl ?_
          refine E.callS0 [.int x, .int (ro (T 23) k 2)] dX11_consent_70 mdX11_isWithin ssX11_isWithin lk_X11_254 rfl rfl rfl rfl (cCt.w0 (R := fun r => r = some (.int (bI (wthn x (ro (T 23) k 2))))) fun σ9 h9 => c_isWithin x (ro (T 23) k 2)) ?_
          rintro _ G9 D9 ⟨rfl, e9, e8⟩
          have e9 := e9.symm; subst e9; have e8 := e8.symm; subst e8
          refine E.if_ne (tgt := 87) dX11_consent_73 (by decide) (fun c_73 => ?_) (fun c_73 => ?_)
          · skip
            rw [if_neg (fun z => z.2.elim c_61 fun z => z (bt1 c_73)), if_pos rfl, opConY]
            refine E.iload dX11_consent_87 rfl ?_
            refine E.if_eq (tgt := 127) dX11_consent_89 (by decide) (fun c_89 => absurd c_89 (by decide)) (fun c_89 => ?_)
            refine E.aload_nR dX11_consent_92 rfl ?_
            refine E.getS (k9 := 0) (fs := [.ref (S 1), .ref (S 2), .ref (S 3), .ref (S 4), .ref (S 5), .ref (S 6), .ref (S 7), .ref (S 8), .ref (S 9), .ref (S 10), .ref (S 11), .ref (S 12), .int (N 26), .int (N 27), .int (N 28), .int (N 25), .int (N 5), .int (N 6)]) dX11_consent_93 fl_X11_55 rfl p_n rfl ?_
            refine E.callLS0 (k9 := 9) [] dX11_consent_96 mdJx4a65c_size_8abf5 imJx4a65c_size_8abf5 seJx4a65c_size_8abf5 rfl p_o.1 lk_X11_123 rfl rfl rfl rfl (cCt.w0 (R := fun r => r = some (.int (nI (rv (A 9)).length))) fun σ9 h9 => c_list_size (h9.at (k := 9) rfl p_o.1)) ?_
            rintro _ G9 D9 ⟨rfl, e9, e8⟩
            have e9 := e9.symm; subst e9; have e8 := e8.symm; subst e8
            refine E.sipush (v := 200) dX11_consent_99 (by decide) ?_
            refine E.icmp_ge (tgt := 116) dX11_consent_102 (by decide) (fun c_102 => ?_) (fun c_102 => ?_)
            · skip
              refine E.less (bc' := 3 + 1) (bs' := 2294 + 6) (by omega) (by omega) ?_
              refine E.throw hX hNo tw_is sr_X11_265 rfl rfl dX11_consent_116 dX11_consent_119 (Or.inr ⟨dX11_consent_120, dX11_consent_123, dX11_consent_126⟩) ?_
              have h200 : (T 27).length = 200 := by rw [rv_len, p_o.2.1] at c_102; have := (nI_leI (a := 200) (by decide) (by have := w_k.1; omega)).mp c_102; have := w_k.1; omega
              rw [if_pos h200]
              exact ⟨2, rfl, rfl, A, L, p_a, p_b, p_n, p_k, p_f, p_h, p_w, p_c, p_r, p_q, p_o, p_m, p_t, p_d⟩
            · skip
              have hn2 : ¬ (T 27).length = 200 := fun z => c_102 (by rw [rv_len, p_o.2.1, z]; decide)
              refine E.aload_nR dX11_consent_105 rfl ?_
              refine E.getS (k9 := 0) (fs := [.ref (S 1), .ref (S 2), .ref (S 3), .ref (S 4), .ref (S 5), .ref (S 6), .ref (S 7), .ref (S 8), .ref (S 9), .ref (S 10), .ref (S 11), .ref (S 12), .int (N 26), .int (N 27), .int (N 28), .int (N 25), .int (N 5), .int (N 6)]) dX11_consent_106 fl_X11_31 rfl p_n rfl ?_
              refine E.iconst (v := 1) dX11_consent_109 (by decide) ?_
              refine E.callVS0 (k9 := 4) [.int 1] dX11_consent_110 mdX6_canMake imX6_canMake seX6_canMake kc_7 rfl p_k.2.1 lk_X11_260 rfl rfl rfl rfl (k_canMake_1 hS p_k.2.1 p_d.1 p_d.2.1 p_d.2.2 w_x.1 (by have := w_x.2.2.2.2; have := w_k.1; have := w_t.1; have := w_t.2.2.2.2.1; omega)) ?_
              rintro _ G9 D9 ⟨rfl, e9, e8⟩
              have e9 := e9.symm; subst e9; have e8 := e8.symm; subst e8
              refine E.if_ne (tgt := 127) dX11_consent_113 (by decide) (fun c_113 => ?_) (fun c_113 => ?_)
              · skip
                have h9 : (tk1 (T 21) (T 20)).isSome = true := bt1 c_113
                obtain ⟨⟨d, W1⟩, htk⟩ := Option.isSome_iff_exists.mp h9
                rw [if_neg hn2, htk]
                have hc8 : cQs (kup D ((A 8).getD k 0) (oRq ((A 7).getD (rn (T 23) k 0) 0) r9 (ro (T 23) k 2) c9 s9 false)) (A 8) (A 7) (stc (T 23) k 3 0) (T 25) (T 26) R := cQs_close p_q.2 w_l.2.2.2.2.1 hk u2
                have dk8 : dk 8 D (kup D ((A 8).getD k 0) (oRq ((A 7).getD (rn (T 23) k 0) 0) r9 (ro (T 23) k 2) c9 s9 false)) := dk.up (c0 := oRq ((A 7).getD (rn (T 23) k 0) 0) r9 (ro (T 23) k 2) c9 s9 (decide (ro (T 23) k 3 = 1))) u2
                refine E.aloadR dX11_consent_127 rfl ?_
                refine E.iconst (v := 0) dX11_consent_129 (by decide) ?_
                refine E.putD (fs' := [.ref ((A 7).getD (rn (T 23) k 0) 0), .ref r9, .int (ro (T 23) k 2), .ref c9, .ref s9, .int 0]) dX11_consent_130 fp_X11_244 (fun h => by cases h) u2 rfl rfl (Nat.le_of_ble_eq_true rfl) rfl ?_
                have h_1 : (kup D ((A 8).getD k 0) (.inr (8, [.ref ((A 7).getD (rn (T 23) k 0) 0), .ref r9, .int (ro (T 23) k 2), .ref c9, .ref s9, .int 0]))) ((A 8).getD k 0) = some (.inr (8, [.ref ((A 7).getD (rn (T 23) k 0) 0), .ref r9, .int (ro (T 23) k 2), .ref c9, .ref s9, .int 0])) := kup_s _ _ _
                have hR1 : cR Λ S G (kup D ((A 8).getD k 0) (.inr (8, [.ref ((A 7).getD (rn (T 23) k 0) 0), .ref r9, .int (ro (T 23) k 2), .ref c9, .ref s9, .int 0]))) A L N B (setT T 23 (stc (T 23) k 3 0)) R := ⟨p_a, p_b, p_n, p_k, p_f, p_h, ⟨p_w.1, p_w.2.dk dk8 (by decide) (by decide)⟩, ⟨p_c.1, p_c.2.dk dk8 (by decide) (by decide) (by decide)⟩, p_r.dk dk8 (by decide) (by decide) (by decide), ⟨p_q.1, hc8⟩, ⟨p_o.1, p_o.2.dk dk8 (by decide)⟩, ⟨p_m.1, p_m.2.dk dk8 (by decide)⟩, ⟨p_t.1, p_t.2.1, p_t.2.2.dk dk8 (by decide)⟩, ⟨p_d.1, p_d.2.1, p_d.2.2.dk dk8 (by decide) (by decide) (by decide) (by decide)⟩⟩
                have u3 := h_1
                have dk8 : dk 8 D (kup D ((A 8).getD k 0) (.inr (8, [.ref ((A 7).getD (rn (T 23) k 0) 0), .ref r9, .int (ro (T 23) k 2), .ref c9, .ref s9, .int 0]))) := dk8
                obtain ⟨D1, hD1⟩ : ∃ D1, D1 = (kup D ((A 8).getD k 0) (.inr (8, [.ref ((A 7).getD (rn (T 23) k 0) 0), .ref r9, .int (ro (T 23) k 2), .ref c9, .ref s9, .int 0]))) := ⟨_, rfl⟩
                rw [← hD1] at hR1 dk8 u3 ⊢
                refine E.iload dX11_consent_133 rfl ?_
                refine E.if_ne (tgt := 154) dX11_consent_135 (by decide) (fun c_135 => ?_) (fun c_135 => absurd c_135 (by decide))
                refine E.aload_nR dX11_consent_154 rfl ?_
                refine E.less (bc' := 3 + 1) (bs' := 2295 + 5) (by omega) (by omega) ?_
                refine E.new dX11_consent_155 nw_X11_273 (fun q_2 hb_3 hl_4 => ?_)
                have h_5 : (kup D1 q_2 (.inr (2, [.null, .int 0, .int 0, .int 0, .null]))) ((A 8).getD k 0) = some (.inr (8, [.ref ((A 7).getD (rn (T 23) k 0) 0), .ref r9, .int (ro (T 23) k 2), .ref c9, .ref s9, .int 0])) := kup_i (Nat.ne_of_lt (hl_4 _ _ u3)) u3
                have h_6 : (kup D1 q_2 (.inr (2, [.null, .int 0, .int 0, .int 0, .null]))) q_2 = some (.inr (2, [.null, .int 0, .int 0, .int 0, .null])) := kup_s _ _ _
                refine E.dup dX11_consent_158 rfl ?_
                refine E.aloadR dX11_consent_159 rfl ?_
                refine E.iload_n dX11_consent_161 rfl ?_
                refine E.iload_n dX11_consent_162 rfl ?_
                refine E.aload_nR dX11_consent_163 rfl ?_
                refine E.getS (k9 := 0) (fs := [.ref (S 1), .ref (S 2), .ref (S 3), .ref (S 4), .ref (S 5), .ref (S 6), .ref (S 7), .ref (S 8), .ref (S 9), .ref (S 10), .ref (S 11), .ref (S 12), .int (N 26), .int (N 27), .int (N 28), .int (N 25), .int (N 5), .int (N 6)]) dX11_consent_164 fl_X11_77 rfl p_n rfl ?_
                refine E.aload_nR dX11_consent_167 rfl ?_
                refine E.getS (k9 := 0) (fs := [.ref (S 1), .ref (S 2), .ref (S 3), .ref (S 4), .ref (S 5), .ref (S 6), .ref (S 7), .ref (S 8), .ref (S 9), .ref (S 10), .ref (S 11), .ref (S 12), .int (N 26), .int (N 27), .int (N 28), .int (N 25), .int (N 5), .int (N 6)]) dX11_consent_168 fl_X11_67 rfl p_n rfl ?_
                refine E.iadd dX11_consent_171 ?_
                refine E.callI0 [.ref ((A 8).getD k 0), .int o, .int x, .int ((N 25) + (N 26))] dX11_consent_172 mdX1_init ⟨rfl, rfl⟩ imX1_init lk_X11_275 rfl rfl rfl rfl (cCt.d1 (R := fun r => r = none) h_6 fun σ9 h9 => c_Code_init _ _ _ _ (h9.2.1 _ _ h_6)) ?_
                rintro _ G9 _ ⟨rfl, e9, rfl⟩; have e9 := e9.symm; subst e9
                have h_7 : (kup (kup D1 q_2 (.inr (2, [.null, .int 0, .int 0, .int 0, .null]))) q_2 (.inr (2, [.ref ((A 8).getD k 0), .int o, .int x, .int ((N 25) + (N 26)), .null]))) q_2 = some (.inr (2, [.ref ((A 8).getD k 0), .int o, .int x, .int ((N 25) + (N 26)), .null])) := kup_s _ _ _
                have dm9 : dm D1 (kup (kup D1 q_2 (.inr (2, [.null, .int 0, .int 0, .int 0, .null]))) q_2 (.inr (2, [.ref ((A 8).getD k 0), .int o, .int x, .int ((N 25) + (N 26)), .null]))) := fun a c ha => kup_i (Nat.ne_of_lt (hl_4 _ _ ha)) (kup_i (Nat.ne_of_lt (hl_4 _ _ ha)) ha)
                clear p_a p_b p_n p_k p_f p_h p_w p_c p_r p_q p_o p_m p_t p_d
                obtain ⟨p_a, p_b, p_n, p_k, p_f, p_h, p_w, p_c, p_r, p_q, p_o, p_m, p_t, p_d⟩ := hR1
                have hR2 : cR Λ S G (kup (kup D1 q_2 (.inr (2, [.null, .int 0, .int 0, .int 0, .null]))) q_2 (.inr (2, [.ref ((A 8).getD k 0), .int o, .int x, .int ((N 25) + (N 26)), .null]))) A L N B (setT T 23 (stc (T 23) k 3 0)) R := ⟨p_a, p_b, p_n, p_k, p_f, p_h, ⟨p_w.1, p_w.2.mono dm9⟩, ⟨p_c.1, p_c.2.mono dm9⟩, p_r.mono dm9, ⟨p_q.1, p_q.2.mono dm9⟩, ⟨p_o.1, p_o.2.mono dm9⟩, ⟨p_m.1, p_m.2.mono dm9⟩, ⟨p_t.1, p_t.2.1, p_t.2.2.mono dm9⟩, ⟨p_d.1, p_d.2.1, p_d.2.2.mono dm9⟩⟩
                have hna9 : ∀ i, i < (A 9).length → (A 9).getD i 0 ≠ q_2 := fun i hi => Nat.ne_of_lt (hl_4 _ _ (p_o.2.2.2 i (by rw [← p_o.2.1]; exact hi)))
                have hct := k_sendCode hS (T := setT T 23 (stc (T 23) k 3 0)) hR2 hSt hJ w_x.1 (show (T 21).length + 1 ≤ 800 by have := w_x.2.2.2.2; have := w_k.1; have := w_t.1; have := w_t.2.2.2.2.1; omega) w_m.1 (show (T 27).length < 200 by have := w_k.1; omega) htk (k := k) (by show k < (stc (T 23) k 3 0).length; rw [stc_len]; exact hk) hk2 h_7 hna9 (by show (rdT (stc (T 23) k 3 0) R k).length ≤ 80; rw [rdT_stc]; exact hxl) hyl
                refine E.less (bc' := 1 + 2) (bs' := 95 + 2200) (by omega) (by omega) ?_
                refine E.callVS (k9 := 0) [.ref q_2] dX11_consent_175 mdX11_sendCode imX11_sendCode seX11_sendCode kc_12 rfl p_n lk_X11_278 rfl rfl rfl rfl hct ?_
                rintro _ G9 D9 ⟨rfl, hst9⟩
                refine E.iret dX11_consent_178 rfl ?_
                have el : locT (setT T 23 (stc (T 23) k 3 0)) R k (sb_codeIs ++ b64 d 22) = locT T R k (sb_codeIs ++ b64 d 22) := by show (rdT (stc (T 23) k 3 0) R k ++ [plc (rdT (stc (T 23) k 3 0) R k)]) ++ _ ++ stS ((T 26).getD k []) = _; rw [rdT_stc]; rfl
                rw [el] at hst9
                exact ⟨rfl, rfl, hst9⟩
              · skip
                refine E.less (bc' := 3 + 1) (bs' := 2294 + 6) (by omega) (by omega) ?_
                refine E.throw hX hNo tw_is sr_X11_265 rfl rfl dX11_consent_116 dX11_consent_119 (Or.inr ⟨dX11_consent_120, dX11_consent_123, dX11_consent_126⟩) ?_
                have htn : tk1 (T 21) (T 20) = none := by have h9 : (tk1 (T 21) (T 20)).isSome = false := (bI_eq0 _).mp c_113; cases hz : tk1 (T 21) (T 20) with | none => rfl | some z => (rw [hz] at h9; cases h9)
                rw [if_neg hn2, htn]
                exact ⟨2, rfl, rfl, A, L, p_a, p_b, p_n, p_k, p_f, p_h, p_w, p_c, p_r, p_q, p_o, p_m, p_t, p_d⟩
          · skip
            refine E.less (bc' := 3 + 1) (bs' := 2294 + 6) (by omega) (by omega) ?_
            refine E.throw hX hNo tw_ia sr_X11_258 rfl rfl dX11_consent_76 dX11_consent_79 (Or.inr ⟨dX11_consent_80, dX11_consent_83, dX11_consent_86⟩) ?_
            rw [if_pos ⟨rfl, Or.inr (by rw [(bI_eq0 _).mp c_73]; decide)⟩]
            exact ⟨1, rfl, rfl, A, L, p_a, p_b, p_n, p_k, p_f, p_h, p_w, p_c, p_r, p_q, p_o, p_m, p_t, p_d⟩
      · skip
        refine E.less (bc' := 3 + 1) (bs' := 2294 + 6) (by omega) (by omega) ?_
        refine E.throw hX hNo tw_ns sr_X11_250 rfl rfl dX11_consent_32 dX11_consent_35 (Or.inl ⟨dX11_consent_36, dX11_consent_38, dX11_consent_41⟩) ?_
        rw [if_pos (Or.inr (Or.inr (zro_no w_q.2.2.2.1 hk (of_decide_eq_false ((bI_eq0 _).mp c_29)))))]
        exact ⟨0, rfl, rfl, A, L, p_a, p_b, p_n, p_k, p_f, p_h, p_w, p_c, p_r, p_q, p_o, p_m, p_t, p_d⟩

theorem q_consent_F {Λ : kL} {S : Nat → Nat} {G : Nat → kc} {D : kh} (hS : cInj S) (hX : kXo Λ) {A L : Nat → List Nat} {N : Nat → Int32} {B : Nat → List Int32} {T R : Nat → List (List Int32)} (hR : cR Λ S G D A L N B T R) (hW : wf N B T R) (hSt : kSt Λ) (hJ : kJd Λ) (q o x : Int32) : eCt Λ mX11_consent 4 2300 S [.ref (S 0), .int q, .int o, .int x, .int 0] G D (eP Λ S (opConsent N B T R q o x false) xl_c) := by
  refine eCt.of hS pn_X11 [some (.ref (S 0)), some (.int q), some (.int o), some (.int x), some (.int 0), none] rfl (Nat.le_of_ble_eq_true rfl) fun X hNo => ?_
  have hR0 := hR; have hW0 := hW
  obtain ⟨p_a, p_b, p_n, p_k, p_f, p_h, p_w, p_c, p_r, p_q, p_o, p_m, p_t, p_d⟩ := hR
  obtain ⟨w_a, w_n, w_w, w_c, w_r, w_x, w_q, w_k, w_f, w_t, w_m, w_l⟩ := hW
  have p_a9 := p_a; obtain ⟨ft, a1, a2, a3, a4, a5, a6⟩ := p_a9
  have p_b9 := p_b; obtain ⟨fo9, b1, b2, b3, b4, b5, b6⟩ := p_b9
  refine E.iload_n dX11_consent_0 rfl ?_
  refine E.if_lt (tgt := 32) dX11_consent_1 (by decide) (fun c_1 => ?_) (fun c_1 => ?_)
  · skip
    refine E.less (bc' := 3 + 1) (bs' := 2294 + 6) (by omega) (by omega) ?_
    refine E.throw hX hNo tw_ns sr_X11_250 rfl rfl dX11_consent_32 dX11_consent_35 (Or.inl ⟨dX11_consent_36, dX11_consent_38, dX11_consent_41⟩) ?_
    rw [opConsent, if_pos (Or.inl c_1)]
    exact ⟨0, rfl, rfl, A, L, p_a, p_b, p_n, p_k, p_f, p_h, p_w, p_c, p_r, p_q, p_o, p_m, p_t, p_d⟩
  · skip
    refine E.iload_n dX11_consent_4 rfl ?_
    refine E.aload_nR dX11_consent_5 rfl ?_
    refine E.getS (k9 := 0) (fs := [.ref (S 1), .ref (S 2), .ref (S 3), .ref (S 4), .ref (S 5), .ref (S 6), .ref (S 7), .ref (S 8), .ref (S 9), .ref (S 10), .ref (S 11), .ref (S 12), .int (N 26), .int (N 27), .int (N 28), .int (N 25), .int (N 5), .int (N 6)]) dX11_consent_6 fl_X11_52 rfl p_n rfl ?_
    refine E.callLS0 (k9 := 8) [] dX11_consent_9 mdJx4a65c_size_8abf5 imJx4a65c_size_8abf5 seJx4a65c_size_8abf5 rfl p_q.1 lk_X11_123 rfl rfl rfl rfl (cCt.w0 (R := fun r => r = some (.int (nI (rv (A 8)).length))) fun σ9 h9 => c_list_size (h9.at (k := 8) rfl p_q.1)) ?_
    rintro _ G9 D9 ⟨rfl, e9, e8⟩
    have e9 := e9.symm; subst e9; have e8 := e8.symm; subst e8
    refine E.icmp_ge (tgt := 32) dX11_consent_12 (by decide) (fun c_12 => ?_) (fun c_12 => ?_)
    · skip
      refine E.less (bc' := 3 + 1) (bs' := 2294 + 6) (by omega) (by omega) ?_
      refine E.throw hX hNo tw_ns sr_X11_250 rfl rfl dX11_consent_32 dX11_consent_35 (Or.inl ⟨dX11_consent_36, dX11_consent_38, dX11_consent_41⟩) ?_
      rw [opConsent, if_pos (Or.inr (Or.inl (by rw [rv_len, p_q.2.1] at c_12; exact c_12)))]
      exact ⟨0, rfl, rfl, A, L, p_a, p_b, p_n, p_k, p_f, p_h, p_w, p_c, p_r, p_q, p_o, p_m, p_t, p_d⟩
    · skip
      rw [rv_len, p_q.2.1] at c_12
      obtain ⟨k, hkx, hk⟩ : ∃ k, q = nI k ∧ k < (T 23).length := ⟨_, oix_eq c_1, oix_lt c_1 (Int32.not_le.mp c_12) (by have := w_q.1; omega)⟩
      subst hkx
      rw [opConsent, nI_clamp (by have := w_q.1; omega)]
      obtain ⟨r9, c9, s9, u2, hx1, hx3, hx2⟩ := p_q.2.2.2 _ hk
      refine E.aload_nR dX11_consent_15 rfl ?_
      refine E.getS (k9 := 0) (fs := [.ref (S 1), .ref (S 2), .ref (S 3), .ref (S 4), .ref (S 5), .ref (S 6), .ref (S 7), .ref (S 8), .ref (S 9), .ref (S 10), .ref (S 11), .ref (S 12), .int (N 26), .int (N 27), .int (N 28), .int (N 25), .int (N 5), .int (N 6)]) dX11_consent_16 fl_X11_52 rfl p_n rfl ?_
      refine E.iload_n dX11_consent_19 rfl ?_
      refine E.callLS0 (k9 := 8) [.int (nI k)] dX11_consent_20 mdJx4a65c_get_915e3 imJx4a65c_get_915e3 seJx4a65c_get_915e3 rfl p_q.1 lk_X11_163 rfl rfl rfl rfl (cCt.w0 (R := fun r => r = some (.ref ((A 8).getD k 0))) fun σ9 h9 => c_list_get (h9.at (k := 8) rfl p_q.1) (rv_at (by rw [p_q.2.1]; exact hk))) ?_
      rintro _ G9 D9 ⟨rfl, e9, e8⟩
      have e9 := e9.symm; subst e9; have e8 := e8.symm; subst e8
      refine E.castD dX11_consent_23 cl_X11_228 cs_8 kc_8 u2 ?_
      refine E.getD dX11_consent_26 fl_X11_244 u2 rfl ?_
      refine E.if_ne (tgt := 42) dX11_consent_29 (by decide) (fun c_29 => ?_) (fun c_29 => ?_)
      · skip
        have hop : ro (T 23) k 3 = 1 := of_decide_eq_true (bt1 c_29)
        have hno : ¬ (nI k < 0 ∨ nI (T 23).length ≤ nI k ∨ ro (T 23) k 3 = 0) := fun z => z.elim c_1 fun z => z.elim c_12 fun z => absurd (hop.symm.trans z) (by decide)
        rw [if_neg hno]
        have hk2 : k < 200 := by have := w_q.1; omega
        obtain ⟨c8, r8, e81, e82, e83, e84⟩ := w_q.2.2.2.2.2.2 _ hk
        have hrd : rdT (T 23) R k = (R c8).getD r8 [] := by rw [rdT, rn, rn, e81, e82, nI_clamp (by have := w_c.1; omega), nI_clamp (by have := (w_r c8).1; omega)]
        have hxl : (rdT (T 23) R k).length ≤ 80 := by rw [hrd]; exact ((w_r c8).2.2 _ e84).2.1
        have hyl : ((T 26).getD k []).length ≤ 2000 := (w_q.2.2.2.2.2.1 k (by rw [w_q.2.2.1]; exact hk)).2.1
        refine E.aload_nR dX11_consent_42 rfl ?_
        refine E.getS (k9 := 0) (fs := [.ref (S 1), .ref (S 2), .ref (S 3), .ref (S 4), .ref (S 5), .ref (S 6), .ref (S 7), .ref (S 8), .ref (S 9), .ref (S 10), .ref (S 11), .ref (S 12), .int (N 26), .int (N 27), .int (N 28), .int (N 25), .int (N 5), .int (N 6)]) dX11_consent_43 fl_X11_52 rfl p_n rfl ?_
        refine E.iload_n dX11_consent_46 rfl ?_
        refine E.callLS0 (k9 := 8) [.int (nI k)] dX11_consent_47 mdJx4a65c_get_915e3 imJx4a65c_get_915e3 seJx4a65c_get_915e3 rfl p_q.1 lk_X11_163 rfl rfl rfl rfl (cCt.w0 (R := fun r => r = some (.ref ((A 8).getD k 0))) fun σ9 h9 => c_list_get (h9.at (k := 8) rfl p_q.1) (rv_at (by rw [p_q.2.1]; exact hk))) ?_
        rintro _ G9 D9 ⟨rfl, e9, e8⟩
        have e9 := e9.symm; subst e9; have e8 := e8.symm; subst e8
        refine E.castD dX11_consent_50 cl_X11_228 cs_8 kc_8 u2 ?_
        refine E.astore (L' := [some (.ref (S 0)), some (.int (nI k)), some (.int o), some (.int x), some (.int 0), some (.ref ((A 8).getD k 0))]) dX11_consent_53 (by decide) rfl rfl ?_
        refine E.iload dX11_consent_55 rfl ?_
        refine E.if_eq (tgt := 87) dX11_consent_57 (by decide) (fun c_57 => ?_) (fun c_57 => absurd rfl c_57)
        refine E.iload dX11_consent_87 rfl ?_
        refine E.if_eq (tgt := 127) dX11_consent_89 (by decide) (fun c_89 => ?_) (fun c_89 => absurd rfl c_89)
        rw [if_neg (fun z => absurd z.1 (by decide)), if_neg (by decide)]
        have hc8 : cQs (kup D ((A 8).getD k 0) (oRq ((A 7).getD (rn (T 23) k 0) 0) r9 (ro (T 23) k 2) c9 s9 false)) (A 8) (A 7) (stc (T 23) k 3 0) (T 25) (T 26) R := cQs_close p_q.2 w_l.2.2.2.2.1 hk u2
        have dk8 : dk 8 D (kup D ((A 8).getD k 0) (oRq ((A 7).getD (rn (T 23) k 0) 0) r9 (ro (T 23) k 2) c9 s9 false)) := dk.up (c0 := oRq ((A 7).getD (rn (T 23) k 0) 0) r9 (ro (T 23) k 2) c9 s9 (decide (ro (T 23) k 3 = 1))) u2
        refine E.aloadR dX11_consent_127 rfl ?_
        refine E.iconst (v := 0) dX11_consent_129 (by decide) ?_
        refine E.putD (fs' := [.ref ((A 7).getD (rn (T 23) k 0) 0), .ref r9, .int (ro (T 23) k 2), .ref c9, .ref s9, .int 0]) dX11_consent_130 fp_X11_244 (fun h => by cases h) u2 rfl rfl (Nat.le_of_ble_eq_true rfl) rfl ?_
        have h_1 : (kup D ((A 8).getD k 0) (.inr (8, [.ref ((A 7).getD (rn (T 23) k 0) 0), .ref r9, .int (ro (T 23) k 2), .ref c9, .ref s9, .int 0]))) ((A 8).getD k 0) = some (.inr (8, [.ref ((A 7).getD (rn (T 23) k 0) 0), .ref r9, .int (ro (T 23) k 2), .ref c9, .ref s9, .int 0])) := kup_s _ _ _
        have hR1 : cR Λ S G (kup D ((A 8).getD k 0) (.inr (8, [.ref ((A 7).getD (rn (T 23) k 0) 0), .ref r9, .int (ro (T 23) k 2), .ref c9, .ref s9, .int 0]))) A L N B (setT T 23 (stc (T 23) k 3 0)) R := ⟨p_a, p_b, p_n, p_k, p_f, p_h, ⟨p_w.1, p_w.2.dk dk8 (by decide) (by decide)⟩, ⟨p_c.1, p_c.2.dk dk8 (by decide) (by decide) (by decide)⟩, p_r.dk dk8 (by decide) (by decide) (by decide), ⟨p_q.1, hc8⟩, ⟨p_o.1, p_o.2.dk dk8 (by decide)⟩, ⟨p_m.1, p_m.2.dk dk8 (by decide)⟩, ⟨p_t.1, p_t.2.1, p_t.2.2.dk dk8 (by decide)⟩, ⟨p_d.1, p_d.2.1, p_d.2.2.dk dk8 (by decide) (by decide) (by decide) (by decide)⟩⟩
        have u3 := h_1
        have dk8 : dk 8 D (kup D ((A 8).getD k 0) (.inr (8, [.ref ((A 7).getD (rn (T 23) k 0) 0), .ref r9, .int (ro (T 23) k 2), .ref c9, .ref s9, .int 0]))) := dk8
        obtain ⟨D1, hD1⟩ : ∃ D1, D1 = (kup D ((A 8).getD k 0) (.inr (8, [.ref ((A 7).getD (rn (T 23) k 0) 0), .ref r9, .int (ro (T 23) k 2), .ref c9, .ref s9, .int 0]))) := ⟨_, rfl⟩
        rw [← hD1] at hR1 dk8 u3 ⊢
        refine E.iload dX11_consent_133 rfl ?_
        refine E.if_ne (tgt := 154) dX11_consent_135 (by decide) (fun c_135 => absurd c_135 (fun z => z rfl)) (fun c_135 => ?_)
        refine E.aload_nR dX11_consent_138 rfl ?_
        refine E.iconst (v := 3) dX11_consent_139 (by decide) ?_
        refine E.aloadR dX11_consent_140 rfl ?_
        refine E.getD dX11_consent_142 fl_X11_268 u3 rfl ?_
        refine E.aloadR dX11_consent_145 rfl ?_
        refine E.getD dX11_consent_147 fl_X11_271 u3 rfl ?_
        refine E.callVS0 (k9 := 0) [.int 3, .ref r9, .ref s9] dX11_consent_150 mdX11_sendError imX11_sendError seX11_sendError kc_12 rfl p_n lk_X11_224 rfl rfl rfl rfl (k_sendError_3 hS hSt (N := N) (show G 0 = oGs S N from p_n) (show tO S G 2 14 6200 (B 1) from p_b) (Or.inl (hx1.dk dk8 (by decide) (by decide))) (Or.inl (hx2.dk dk8 (by decide) (by decide))) hxl hyl) ?_
        rintro _ _ D9 ⟨f9, hf1, hf2, rfl, rfl, e8⟩; have e8 := e8.symm; subst e8
        refine E.iret dX11_consent_153 rfl ?_
        clear p_a p_b p_n p_k p_f p_h p_w p_c p_r p_q p_o p_m p_t p_d
        obtain ⟨p_a, p_b, p_n, p_k, p_f, p_h, p_w, p_c, p_r, p_q, p_o, p_m, p_t, p_d⟩ := hR1
        have et : (((rdT (T 23) R k) ++ [plc (rdT (T 23) R k)]) ++ sb_errorIs ++ sb_access_denied ++ stS ((T 26).getD k [])) = locT T R k sb_errorDenied := by rw [locT, sb_den]; simp only [List.append_assoc]
        have hta := tO.gW (S := S) (G := gA S G N 302 3) (k := 2) (j := 14) (cap := 6200) (v := (((rdT (T 23) R k) ++ [plc (rdT (T 23) R k)]) ++ sb_errorIs ++ sb_access_denied ++ stS ((T 26).getD k []))) (by decide) (by simp only [List.length_append, List.length_singleton]; have := st_len ((T 26).getD k []); exact (show (rdT (T 23) R k).length + 1 + 6 + 13 + (stS ((T 26).getD k [])).length ≤ 6200 by omega)) (by decide) hf1 hf2
        rw [et] at hta
        rw [et]
        exact ⟨rfl, rfl, A, L, p_a, hta, rfl, p_k, p_f, p_h, p_w, p_c, p_r, p_q, p_o, p_m, p_t, p_d⟩
      · skip
        refine E.less (bc' := 3 + 1) (bs' := 2294 + 6) (by omega) (by omega) ?_
        refine E.throw hX hNo tw_ns sr_X11_250 rfl rfl dX11_consent_32 dX11_consent_35 (Or.inl ⟨dX11_consent_36, dX11_consent_38, dX11_consent_41⟩) ?_
        rw [if_pos (Or.inr (Or.inr (zro_no w_q.2.2.2.1 hk (of_decide_eq_false ((bI_eq0 _).mp c_29)))))]
        exact ⟨0, rfl, rfl, A, L, p_a, p_b, p_n, p_k, p_f, p_h, p_w, p_c, p_r, p_q, p_o, p_m, p_t, p_d⟩

theorem q_consent {Λ : kL} {S : Nat → Nat} {G : Nat → kc} {D : kh} (hS : cInj S) (hX : kXo Λ) {A L : Nat → List Nat} {N : Nat → Int32} {B : Nat → List Int32} {T R : Nat → List (List Int32)} (hR : cR Λ S G D A L N B T R) (hW : wf N B T R) (hSt : kSt Λ) (hJ : kJd Λ) (q o x : Int32) (yes : Bool) : eCt Λ mX11_consent 4 2300 S [.ref (S 0), .int q, .int o, .int x, .int (bI yes)] G D (eP Λ S (opConsent N B T R q o x yes) xl_c) := by
  cases yes with
  | true => exact q_consent_T hS hX hR hW hSt hJ q o x
  | false => exact q_consent_F hS hX hR hW hSt hJ q o x
