/-! the class: requests -/
theorem kup_com (σ : kh) {a b : Nat} (c d : kc) (h : a ≠ b) : kup (kup σ a c) b d = kup (kup σ b d) a c := by
  funext j
  by_cases e1 : j = a
  · rw [e1, kup_n _ _ h, kup_s, kup_s]
  · by_cases e2 : j = b
    · rw [e2, kup_s, kup_n _ _ (fun q => h q.symm), kup_s]
    · rw [kup_n _ _ e2, kup_n _ _ e1, kup_n _ _ e1, kup_n _ _ e2]
theorem cCt.copy {Λ : kL} {μ : kMi} {mc ms : Nat} {S : Nat → Nat} {av : List Value} {G : Nat → kc} {D : kh} {c1 : kc} {c2 : Nat → kc} (h : ∀ σ, cHas σ S G D → jCt Λ μ mc ms av σ (fun v σ' => ∃ q1 q, kB Λ ≤ q1 ∧ (∀ a c, σ a = some c → a < q1) ∧ q1 < q ∧ v = some (.ref q1) ∧ σ' = kup (kup σ q c1) q1 (c2 q))) : cCt Λ μ mc ms S av G D (fun r G' D' => ∃ q1 q, (∀ a c, D a = some c → a < q1) ∧ q1 < q ∧ r = some (.ref q1) ∧ G' = G ∧ D' = kup (kup D q c1) q1 (c2 q)) := fun σ hσ => (h σ hσ).mono fun r σ' ⟨q1, q, _, h2, h3, h4, h5⟩ => by
  subst h5
  have hc : ∀ E : kh, kup (kup E q c1) q1 (c2 q) = kup (kup E q1 (c2 q)) q c1 := fun E => kup_com _ _ _ (by omega)
  have hm := hσ.mk h2 (c2 q)
  have h6 : ∀ a c, kup σ q1 (c2 q) a = some c → a < q := fun a c ha => by
    by_cases e : a = q1
    · omega
    · rw [kup_n _ _ e] at ha; have := h2 a c ha; omega
  refine ⟨G, _, ⟨q1, q, fun a c ha => h2 a c (hσ.2.1 a c ha), h3, h4, rfl, rfl⟩, ?_, ?_⟩
  · rw [hc, hc]; exact hm.mk h6 c1
  · rw [hc, hc]; exact (cFr.mk h2).tr (cFr.mk h6) (hm.mk h6 c1).2.2
/-- a Text that is made of another -/
def cpQ (G : Nat → kc) (D : kh) (v : List Int32) : Option Value → (Nat → kc) → kh → Prop := fun r G' D' => ∃ q, (∀ a c, D a = some c → a < q) ∧ r = some (.ref q) ∧ G' = G ∧ dm D D' ∧ tx D' q v
theorem cp_of {D : kh} {q1 q : Nat} (h1 : ∀ a c, D a = some c → a < q1) (h2 : q1 < q) {v : List Int32} (hv : v.length ≤ 100000) (hb : bts v) : dm D (kup (kup D q (aB v.length (updl (fun _ => 0) 0 v))) q1 (oT q (nI 0) (nI v.length))) ∧ tx (kup (kup D q (aB v.length (updl (fun _ => 0) 0 v))) q1 (oT q (nI 0) (nI v.length))) q1 v := by
  refine ⟨fun a c ha => ?_, q, 0, v.length, _, kup_s _ _ _, kup_i (by omega) (kup_s _ _ _), by omega, hv, tl_in, hb⟩
  have := h1 a c ha
  exact kup_i (by omega) (kup_i (by omega) ha)
theorem k_copyOf {Λ : kL} {S : Nat → Nat} {G : Nat → kc} {D : kh} {u : Nat} {x : List Int32} (hu : ∀ σ, cHas σ S G D → tx σ u x) (hx : bts x) (hxl : x.length ≤ 100000) {g m : Nat} (hg : g + m ≤ x.length) : cCt Λ mX9_copyOfPart 2 (m + 3) S [.ref u, .int (nI g), .int (nI m)] G D (cpQ G D ((x.drop g).take m)) := by
  have e : ((x.drop g).take m).length = m := dt_len hg
  refine (cCt.copy (c1 := aB m (updl (fun _ => 0) 0 ((x.drop g).take m))) (c2 := fun q => oT q (nI 0) (nI m)) fun σ h9 => ?_).mono fun r G' D' ⟨q1, q, h1, h2, h3, h4, h5⟩ => ?_
  · obtain ⟨r, b, cap, f, a1, a2, a3, a4, a5, a6⟩ := hu σ h9
    have h := c_Text_copyOfPart (Λ := Λ) a1 a2 a3 a4 (bts_byt a5 a6) hg
    rw [tl_dt a5 hg] at h
    exact h
  · have h6 := cp_of (v := (x.drop g).take m) h1 h2 (by omega) (bts_take _ (bts_drop _ hx))
    rw [e] at h6
    subst h5
    exact ⟨q1, h1, h3, h4, h6.1, h6.2⟩
theorem tk_at {v : List Int32} {st i : Nat} (hst : st ≤ i) (hi : i ≤ v.length) (hns : ∀ j, st ≤ j → j < i → gD v j ≠ 32) (hh : i = v.length ∨ gD v i = 32) : atI (gD v) 32 st v.length = i := atI_is hst hi hns hh
theorem tk_go {T : List (List Int32)} {v : List Int32} {st i : Nat} {bits : Int32} (hst : st ≤ i) (hi : i ≤ v.length) (hns : ∀ j, st ≤ j → j < i → gD v j ≠ 32) (hh : i = v.length ∨ gD v i = 32) (hW : ft T 1 12) (hk : fnd T ((v.drop st).take (i - st)) < T.length) : scpI T (gD v) v.length st bits = scpI T (gD v) v.length (i + 1) (bits ||| (1 <<< (nI (fnd T ((v.drop st).take (i - st))) &&& 31))) := by
  have ha := tk_at hst hi hns hh
  have hne : ¬ i = st := fun q => by
    rw [q, Nat.sub_self, List.take_zero] at hk
    exact scp_nil hW hk
  rw [drop_tk _ _ _ (by omega)] at hk ⊢
  rw [scpI_go (by omega) (by rw [ha]; exact hne) (by rw [ha]; exact hk), ha]
theorem tk_no {T : List (List Int32)} {v : List Int32} {st i : Nat} {bits : Int32} (hst : st < i) (hi : i ≤ v.length) (hns : ∀ j, st ≤ j → j < i → gD v j ≠ 32) (hh : i = v.length ∨ gD v i = 32) (hk : ¬ fnd T ((v.drop st).take (i - st)) < T.length) : scpI T (gD v) v.length st bits = none := by
  have ha := tk_at (by omega) hi hns hh
  rw [drop_tk _ _ _ (by omega)] at hk
  exact scpI_no (by omega) (by rw [ha]; omega) (by rw [ha]; exact hk)
theorem tk_sk {T : List (List Int32)} {v : List Int32} {st : Nat} {bits : Int32} (hi : st ≤ v.length) (hh : st = v.length ∨ gD v st = 32) : scpI T (gD v) v.length st bits = scpI T (gD v) v.length (st + 1) bits := by
  by_cases h : st = v.length
  · rw [scpI_end (by omega), scpI_end (by omega)]
  · exact scpI_skip (by omega) (tk_at (Nat.le_refl _) hi (fun j a b => by omega) hh)
theorem aut_any (T : Nat → List (List Int32)) (g : fvs) (c : Nat) : autE T g c = 1 ∨ autE T g c = 4 ∨ autE T g c = 5 ∨ autE T g c = 11 ∨ autE T g c = 0 := by
  rw [autE]
  by_cases h1 : ¬ 0 < (fv g 0).length
  · rw [if_pos h1]; exact Or.inl rfl
  · rw [if_neg h1]
    by_cases h2 : ¬ fv g 0 = sb_code
    · rw [if_pos h2]; exact Or.inr (Or.inl rfl)
    · rw [if_neg h2]
      by_cases h3 : (decide ((fv g 5).length = 43) && (fv g 5).all chb && decide (fv g 6 = sb_S256)) = false
      · rw [if_pos h3]; exact Or.inl rfl
      · rw [if_neg h3]
        by_cases h4 : askS (T 2) (fv g 3) (ro (T 5) c 1) < 0
        · rw [if_pos h4]; exact Or.inr (Or.inr (Or.inl rfl))
        · rw [if_neg h4]
          by_cases h5 : (T 23).length = 200
          · rw [if_pos h5]; exact Or.inr (Or.inr (Or.inr (Or.inl rfl)))
          · rw [if_neg h5]; exact Or.inr (Or.inr (Or.inr (Or.inr rfl)))
theorem aut_0 {T : Nat → List (List Int32)} {g : fvs} {c : Nat} (h : autE T g c = 0) : (fv g 5).length = 43 ∧ ¬ askS (T 2) (fv g 3) (ro (T 5) c 1) < 0 ∧ ¬ (T 23).length = 200 := by
  rw [autE] at h
  by_cases h1 : ¬ 0 < (fv g 0).length
  · rw [if_pos h1] at h; exact absurd h (by decide)
  · rw [if_neg h1] at h
    by_cases h2 : ¬ fv g 0 = sb_code
    · rw [if_pos h2] at h; exact absurd h (by decide)
    · rw [if_neg h2] at h
      by_cases h3 : (decide ((fv g 5).length = 43) && (fv g 5).all chb && decide (fv g 6 = sb_S256)) = false
      · rw [if_pos h3] at h; exact absurd h (by decide)
      · rw [if_neg h3] at h
        by_cases h4 : askS (T 2) (fv g 3) (ro (T 5) c 1) < 0
        · rw [if_pos h4] at h; exact absurd h (by decide)
        · rw [if_neg h4] at h
          by_cases h5 : (T 23).length = 200
          · rw [if_pos h5] at h; exact absurd h (by decide)
          · refine ⟨?_, h4, h5⟩
            by_cases h6 : (fv g 5).length = 43
            · exact h6
            · rw [decide_eq_false h6] at h3; exact absurd rfl h3
theorem rn_appl {C : List (List Int32)} {r : List Int32} {n c : Nat} (h : n < C.length) : rn (C ++ [r]) n c = rn C n c := by rw [rn, ro_appl h, rn]
theorem rn_appr {C : List (List Int32)} {r : List Int32} {c j : Nat} (h : r.getD c 0 = nI j) (hj : j < 2 ^ 31) : rn (C ++ [r]) C.length c = j := by rw [rn, ro_appr rfl, h, nI_clamp hj]
theorem lwr.rn {C : List (List Int32)} {c b n : Nat} (h : lwr C c b) (hn : n < C.length) (hb : b ≤ 2 ^ 31) : rn C n c < b := by
  obtain ⟨j, hj, e⟩ := h n hn
  show (ro C n c).toNatClampNeg < b
  rw [show ro C n c = nI j from e, nI_clamp (by omega)]
  exact hj
theorem cQs.app {D D' : kh} {l lc : List Nat} {Q H S : List (List Int32)} {R : Nat → List (List Int32)} (h : cQs D l lc Q H S R) (hd : dm D D') (hH : H.length = Q.length) (hS : S.length = Q.length) {q c r : Nat} {x : Int32} {ch st : List Int32} (hq : ∀ a c, D a = some c → a < q) (hc : c < 2 ^ 31) (hr : r < 2 ^ 31) (hn : cQ1 D' q (lc.getD c 0) ((R c).getD r []) ch st x true) : cQs D' (l ++ [q]) lc (Q ++ [[nI c, nI r, x, 1]]) (H ++ [ch]) (S ++ [st]) R := by
  obtain ⟨h1, h2, h3⟩ := h
  refine ⟨by rw [List.length_append, List.length_append, h1]; rfl, h2.app fun i hi => ?_, fun n hn2 => ?_⟩
  · obtain ⟨_, _, _, a1, -⟩ := h3 i (by omega)
    exact Nat.ne_of_lt (hq _ _ a1)
  · rw [List.length_append, List.length_singleton] at hn2
    by_cases e : n = Q.length
    · have e1 : rn (Q ++ [[nI c, nI r, x, 1]]) Q.length 0 = c := rn_appr rfl hc
      have e2 : rn (Q ++ [[nI c, nI r, x, 1]]) Q.length 1 = r := rn_appr rfl hr
      rw [e, rdT, e1, e2, ro_appr rfl, ro_appr rfl, ← h1, gN_appr, h1, ← hH, getD_appr, hH, ← hS, getD_appr]
      exact hn
    · have hl : n < Q.length := by omega
      rw [rdT, rn_appl hl, rn_appl hl, ro_appl hl, ro_appl hl, gN_appl (by omega), getD_appl (by omega), getD_appl (by omega)]
      exact (h3 n hl).mono hd
theorem cQs.el {D : kh} {l lc : List Nat} {Q H S : List (List Int32)} {R : Nat → List (List Int32)} (h : cQs D l lc Q H S R) : kEl D 8 (rv l) := el_of fun k hk => by
  obtain ⟨_, _, _, a1, -⟩ := h.2.2 k (by rw [← h.1]; exact hk)
  exact ⟨_, a1⟩
theorem cCo.lq {D : kh} {l lq lf : List Nat} {K : List (List Int32)} (h : cCo D l lq lf K) (hk : ∀ n, n < K.length → rn K n 1 < lq.length) (q : Nat) : cCo D l (lq ++ [q]) lf K := ⟨h.1, h.2.1, fun n hn => by rw [gN_appl (hk n hn)]; exact h.2.2 n hn⟩
theorem auth_1 {N : Nat → Int32} {B : Nat → List Int32} {T R : Nat → List (List Int32)} {g : fvs} (h0 : 0 < (fv g 1).length) (hlt : fnd (T 3) (fv g 1) < (T 3).length) (hT : (T 3).length ≤ 8) : opAuth1 N B T R g = if rdS (R (fnd (T 3) (fv g 1))) (fv g 2) < 0 then (-1, 0, ans N 400 1, setB B 1 [], T, R) else opAuth2 N B T R g (fnd (T 3) (fv g 1)) (rdS (R (fnd (T 3) (fv g 1))) (fv g 2)).toNatClampNeg := by
  have e : clS (T 3) (fv g 1) = nI (fnd (T 3) (fv g 1)) := if_pos ⟨h0, hlt⟩
  rw [opAuth1, e, if_neg (nI_pos (by omega)), nI_clamp (by omega)]

theorem k_refuse {Λ : kL} {S : Nat → Nat} {G : Nat → kc} {D : kh} (hS : cInj S) {N : Nat → Int32} {v : List Int32} (hP : G 0 = oGs S N) (hO : tO S G 2 14 6200 v) (y : Int32) : cCt Λ mX11_refuse 0 0 S [.ref (S 0), .int y] G D (fun r G' D' => r = some (.int (-1)) ∧ G' = gA S G N 400 y ∧ D' = D) := by
  refine cCt.of hS pn_X11 [some (.ref (S 0)), some (.int y)] rfl (Nat.le_of_ble_eq_true rfl) fun X => ?_
  have hO9 := hO; obtain ⟨fo9, b1, b2, b3, b4, b5, b6⟩ := hO9
  refine C.aload_nR dX11_refuse_0 rfl ?_
  refine C.sipush (v := 400) dX11_refuse_1 (by decide) ?_
  refine C.iload_n dX11_refuse_4 rfl ?_
  refine C.callVS0 (k9 := 0) [.int 400, .int y] dX11_refuse_5 mdX11_answer imX11_answer seX11_answer kc_12 rfl hP lk_X11_240 rfl rfl rfl rfl (k_answer hS (N := N) (show G 0 = oGs S N from hP) (show tO S G 2 14 6200 v from hO) 400 y) ?_
  rintro _ _ D9 ⟨rfl, rfl, e8⟩; have e8 := e8.symm; subst e8
  refine C.pop dX11_refuse_8 rfl ?_
  refine C.iconst (v := (-1)) dX11_refuse_9 (by decide) ?_
  refine C.iret dX11_refuse_10 rfl ?_
  exact ⟨rfl, rfl, rfl⟩

theorem st_len (v : List Int32) : (stS v).length ≤ 7 + 3 * v.length := by
  rw [stS]
  by_cases h : v.length = 0
  · rw [if_pos h]; exact Nat.zero_le _
  · rw [if_neg h, List.length_append]
    have := esc_len v
    exact (show 7 + (v.flatMap escb).length ≤ 7 + 3 * v.length by omega)

theorem k_sendError_1 {Λ : kL} {S : Nat → Nat} {G : Nat → kc} {D : kh} (hS : cInj S) (hSt : kSt Λ) {N : Nat → Int32} {v : List Int32} (hP : G 0 = oGs S N) (hO : tO S G 2 14 6200 v) {u z : Nat} {x y : List Int32} (hT : tV S G D u x) (hY : tV S G D z y) (hx : x.length ≤ 80) (hy : y.length ≤ 2000) : cCt Λ mX11_sendError 0 0 S [.ref (S 0), .int 1, .ref u, .ref z] G D (fun r G' D' => ∃ f, tl f 0 ((x ++ [plc x]) ++ sb_errorIs ++ sb_invalid_request ++ stS y).length = ((x ++ [plc x]) ++ sb_errorIs ++ sb_invalid_request ++ stS y) ∧ bts ((x ++ [plc x]) ++ sb_errorIs ++ sb_invalid_request ++ stS y) ∧ r = some (.int (-1)) ∧ G' = gW S (gA S G N 302 1) 2 14 6200 f ((x ++ [plc x]) ++ sb_errorIs ++ sb_invalid_request ++ stS y).length ∧ D' = D) := by
  refine cCt.of hS pn_X11 [some (.ref (S 0)), some (.int 1), some (.ref u), some (.ref z)] rfl (Nat.le_of_ble_eq_true rfl) fun X => ?_
  have hO9 := hO; obtain ⟨fo9, b1, b2, b3, b4, b5, b6⟩ := hO9
  refine C.aload_nR dX11_sendError_0 rfl ?_
  refine C.sipush (v := 302) dX11_sendError_1 (by decide) ?_
  refine C.iload_n dX11_sendError_4 rfl ?_
  refine C.callVS0 (k9 := 0) [.int 302, .int 1] dX11_sendError_5 mdX11_answer imX11_answer seX11_answer kc_12 rfl hP lk_X11_240 rfl rfl rfl rfl (k_answer hS (N := N) (show G 0 = oGs S N from hP) (show tO S G 2 14 6200 v from hO) 302 1) ?_
  rintro _ _ D9 ⟨rfl, rfl, e8⟩; have e8 := e8.symm; subst e8
  refine C.pop dX11_sendError_8 rfl ?_
  refine C.aload_nR dX11_sendError_9 rfl ?_
  refine C.aload_nR dX11_sendError_10 rfl ?_
  refine C.callVS0 (k9 := 0) [.ref u] dX11_sendError_11 mdX11_startLocation imX11_startLocation seX11_startLocation kc_12 rfl rfl lk_X11_437 rfl rfl rfl rfl (k_startLocation hS (N := ans N 302 1) rfl (show tO S (gA S G N 302 1) 2 14 6200 [] from ⟨fo9, rfl, b2, Nat.zero_le _, by decide, rfl, bts_nil⟩) hT.gA (by show 0 + x.length + 1 ≤ 6200; omega)) ?_
  rintro _ _ D9 ⟨f9_1, h_f9_1, b_f9_1, rfl, rfl, e8⟩; have e8 := e8.symm; subst e8
  rw [List.nil_append] at h_f9_1 b_f9_1 ⊢
  refine C.aload_nR dX11_sendError_14 rfl ?_
  refine C.getS (k9 := 0) (fs := [.ref (S 1), .ref (S 2), .ref (S 3), .ref (S 4), .ref (S 5), .ref (S 6), .ref (S 7), .ref (S 8), .ref (S 9), .ref (S 10), .ref (S 11), .ref (S 12), .int (N 26), .int (N 27), .int (N 28), .int (N 25), .int 302, .int 1]) dX11_sendError_15 fl_X11_18 rfl rfl rfl ?_
  refine C.ldcwS dX11_sendError_18 sr_X11_441 ?_
  refine C.callVS0 (k9 := 2) [.ref (kSa Λ RX11 441)] dX11_sendError_21 mdX9_addWord imX9_addWord seX9_addWord kc_10 rfl rfl lk_X11_443 rfl rfl rfl rfl (o_addWord hS (show tO S (gW S (gA S G N 302 1) 2 14 6200 f9_1 (x ++ [plc x]).length) 2 14 6200 (x ++ [plc x]) from (tO.gW (by decide) (by simp only [List.length_append, List.length_singleton]; omega) (by decide) h_f9_1 b_f9_1)) rfl rfl (st_X11_441 hSt) sb_errorIs_b (by simp only [List.length_append, List.length_singleton]; exact (show x.length + 1 + 6 ≤ 6200 by omega))) ?_
  rintro _ _ D9 ⟨f9_2, h_f9_2, b_f9_2, rfl, rfl, e8⟩; have e8 := e8.symm; subst e8
  rw [gW_gW _ _ _ _ _ _ _ (by decide)]
  refine C.aload_nR dX11_sendError_24 rfl ?_
  refine C.getS (k9 := 0) (fs := [.ref (S 1), .ref (S 2), .ref (S 3), .ref (S 4), .ref (S 5), .ref (S 6), .ref (S 7), .ref (S 8), .ref (S 9), .ref (S 10), .ref (S 11), .ref (S 12), .int (N 26), .int (N 27), .int (N 28), .int (N 25), .int 302, .int 1]) dX11_sendError_25 fl_X11_18 rfl rfl rfl ?_
  refine C.iload_n dX11_sendError_28 rfl ?_
  refine C.callS0 [.int 1] dX11_sendError_29 mdX11_wordOf ssX11_wordOf lk_X11_446 rfl rfl rfl rfl (cCt.w0 (R := fun r => r = some (.ref (kSa Λ RX11 530))) fun σ9 h9 => k_wordOf_1) ?_
  rintro _ G9 D9 ⟨rfl, e9, e8⟩
  have e9 := e9.symm; subst e9; have e8 := e8.symm; subst e8
  refine C.callVS0 (k9 := 2) [.ref (kSa Λ RX11 530)] dX11_sendError_32 mdX9_addWord imX9_addWord seX9_addWord kc_10 rfl rfl lk_X11_443 rfl rfl rfl rfl (o_addWord hS (show tO S (gW S (gA S G N 302 1) 2 14 6200 f9_2 ((x ++ [plc x]) ++ sb_errorIs).length) 2 14 6200 ((x ++ [plc x]) ++ sb_errorIs) from (tO.gW (by decide) (by simp only [List.length_append, List.length_singleton]; exact (show x.length + 1 + 6 ≤ 6200 by omega)) (by decide) h_f9_2 b_f9_2)) rfl rfl (st_X11_530 hSt) sb_invalid_request_b (by simp only [List.length_append, List.length_singleton]; exact (show x.length + 1 + 6 + 15 ≤ 6200 by omega))) ?_
  rintro _ _ D9 ⟨f9_3, h_f9_3, b_f9_3, rfl, rfl, e8⟩; have e8 := e8.symm; subst e8
  rw [gW_gW _ _ _ _ _ _ _ (by decide)]
  refine C.aload_nR dX11_sendError_35 rfl ?_
  refine C.aload_nR dX11_sendError_36 rfl ?_
  refine C.callVS0 (k9 := 0) [.ref z] dX11_sendError_37 mdX11_endLocation imX11_endLocation seX11_endLocation kc_12 rfl rfl lk_X11_450 rfl rfl rfl rfl (k_endLocation hS hSt (N := ans N 302 1) rfl (show tO S (gW S (gA S G N 302 1) 2 14 6200 f9_3 (((x ++ [plc x]) ++ sb_errorIs) ++ sb_invalid_request).length) 2 14 6200 (((x ++ [plc x]) ++ sb_errorIs) ++ sb_invalid_request) from (tO.gW (by decide) (by simp only [List.length_append, List.length_singleton]; exact (show x.length + 1 + 6 + 15 ≤ 6200 by omega)) (by decide) h_f9_3 b_f9_3)) hY.gA.gW (by simp only [List.length_append, List.length_singleton]; exact (show x.length + 1 + 6 + 15 + 7 + 3 * y.length ≤ 6200 by omega))) ?_
  rintro _ _ D9 ⟨f9_4, h_f9_4, b_f9_4, rfl, rfl, e8⟩; have e8 := e8.symm; subst e8
  rw [gW_gW _ _ _ _ _ _ _ (by decide)]
  refine C.iconst (v := (-1)) dX11_sendError_40 (by decide) ?_
  refine C.iret dX11_sendError_41 rfl ?_
  exact ⟨_, h_f9_4, b_f9_4, rfl, rfl, rfl⟩

theorem k_sendError_3 {Λ : kL} {S : Nat → Nat} {G : Nat → kc} {D : kh} (hS : cInj S) (hSt : kSt Λ) {N : Nat → Int32} {v : List Int32} (hP : G 0 = oGs S N) (hO : tO S G 2 14 6200 v) {u z : Nat} {x y : List Int32} (hT : tV S G D u x) (hY : tV S G D z y) (hx : x.length ≤ 80) (hy : y.length ≤ 2000) : cCt Λ mX11_sendError 0 0 S [.ref (S 0), .int 3, .ref u, .ref z] G D (fun r G' D' => ∃ f, tl f 0 ((x ++ [plc x]) ++ sb_errorIs ++ sb_access_denied ++ stS y).length = ((x ++ [plc x]) ++ sb_errorIs ++ sb_access_denied ++ stS y) ∧ bts ((x ++ [plc x]) ++ sb_errorIs ++ sb_access_denied ++ stS y) ∧ r = some (.int (-1)) ∧ G' = gW S (gA S G N 302 3) 2 14 6200 f ((x ++ [plc x]) ++ sb_errorIs ++ sb_access_denied ++ stS y).length ∧ D' = D) := by
  refine cCt.of hS pn_X11 [some (.ref (S 0)), some (.int 3), some (.ref u), some (.ref z)] rfl (Nat.le_of_ble_eq_true rfl) fun X => ?_
  have hO9 := hO; obtain ⟨fo9, b1, b2, b3, b4, b5, b6⟩ := hO9
  refine C.aload_nR dX11_sendError_0 rfl ?_
  refine C.sipush (v := 302) dX11_sendError_1 (by decide) ?_
  refine C.iload_n dX11_sendError_4 rfl ?_
  refine C.callVS0 (k9 := 0) [.int 302, .int 3] dX11_sendError_5 mdX11_answer imX11_answer seX11_answer kc_12 rfl hP lk_X11_240 rfl rfl rfl rfl (k_answer hS (N := N) (show G 0 = oGs S N from hP) (show tO S G 2 14 6200 v from hO) 302 3) ?_
  rintro _ _ D9 ⟨rfl, rfl, e8⟩; have e8 := e8.symm; subst e8
  refine C.pop dX11_sendError_8 rfl ?_
  refine C.aload_nR dX11_sendError_9 rfl ?_
  refine C.aload_nR dX11_sendError_10 rfl ?_
  refine C.callVS0 (k9 := 0) [.ref u] dX11_sendError_11 mdX11_startLocation imX11_startLocation seX11_startLocation kc_12 rfl rfl lk_X11_437 rfl rfl rfl rfl (k_startLocation hS (N := ans N 302 3) rfl (show tO S (gA S G N 302 3) 2 14 6200 [] from ⟨fo9, rfl, b2, Nat.zero_le _, by decide, rfl, bts_nil⟩) hT.gA (by show 0 + x.length + 1 ≤ 6200; omega)) ?_
  rintro _ _ D9 ⟨f9_1, h_f9_1, b_f9_1, rfl, rfl, e8⟩; have e8 := e8.symm; subst e8
  rw [List.nil_append] at h_f9_1 b_f9_1 ⊢
  refine C.aload_nR dX11_sendError_14 rfl ?_
  refine C.getS (k9 := 0) (fs := [.ref (S 1), .ref (S 2), .ref (S 3), .ref (S 4), .ref (S 5), .ref (S 6), .ref (S 7), .ref (S 8), .ref (S 9), .ref (S 10), .ref (S 11), .ref (S 12), .int (N 26), .int (N 27), .int (N 28), .int (N 25), .int 302, .int 3]) dX11_sendError_15 fl_X11_18 rfl rfl rfl ?_
  refine C.ldcwS dX11_sendError_18 sr_X11_441 ?_
  refine C.callVS0 (k9 := 2) [.ref (kSa Λ RX11 441)] dX11_sendError_21 mdX9_addWord imX9_addWord seX9_addWord kc_10 rfl rfl lk_X11_443 rfl rfl rfl rfl (o_addWord hS (show tO S (gW S (gA S G N 302 3) 2 14 6200 f9_1 (x ++ [plc x]).length) 2 14 6200 (x ++ [plc x]) from (tO.gW (by decide) (by simp only [List.length_append, List.length_singleton]; omega) (by decide) h_f9_1 b_f9_1)) rfl rfl (st_X11_441 hSt) sb_errorIs_b (by simp only [List.length_append, List.length_singleton]; exact (show x.length + 1 + 6 ≤ 6200 by omega))) ?_
  rintro _ _ D9 ⟨f9_2, h_f9_2, b_f9_2, rfl, rfl, e8⟩; have e8 := e8.symm; subst e8
  rw [gW_gW _ _ _ _ _ _ _ (by decide)]
  refine C.aload_nR dX11_sendError_24 rfl ?_
  refine C.getS (k9 := 0) (fs := [.ref (S 1), .ref (S 2), .ref (S 3), .ref (S 4), .ref (S 5), .ref (S 6), .ref (S 7), .ref (S 8), .ref (S 9), .ref (S 10), .ref (S 11), .ref (S 12), .int (N 26), .int (N 27), .int (N 28), .int (N 25), .int 302, .int 3]) dX11_sendError_25 fl_X11_18 rfl rfl rfl ?_
  refine C.iload_n dX11_sendError_28 rfl ?_
  refine C.callS0 [.int 3] dX11_sendError_29 mdX11_wordOf ssX11_wordOf lk_X11_446 rfl rfl rfl rfl (cCt.w0 (R := fun r => r = some (.ref (kSa Λ RX11 532))) fun σ9 h9 => k_wordOf_3) ?_
  rintro _ G9 D9 ⟨rfl, e9, e8⟩
  have e9 := e9.symm; subst e9; have e8 := e8.symm; subst e8
  refine C.callVS0 (k9 := 2) [.ref (kSa Λ RX11 532)] dX11_sendError_32 mdX9_addWord imX9_addWord seX9_addWord kc_10 rfl rfl lk_X11_443 rfl rfl rfl rfl (o_addWord hS (show tO S (gW S (gA S G N 302 3) 2 14 6200 f9_2 ((x ++ [plc x]) ++ sb_errorIs).length) 2 14 6200 ((x ++ [plc x]) ++ sb_errorIs) from (tO.gW (by decide) (by simp only [List.length_append, List.length_singleton]; exact (show x.length + 1 + 6 ≤ 6200 by omega)) (by decide) h_f9_2 b_f9_2)) rfl rfl (st_X11_532 hSt) sb_access_denied_b (by simp only [List.length_append, List.length_singleton]; exact (show x.length + 1 + 6 + 13 ≤ 6200 by omega))) ?_
  rintro _ _ D9 ⟨f9_3, h_f9_3, b_f9_3, rfl, rfl, e8⟩; have e8 := e8.symm; subst e8
  rw [gW_gW _ _ _ _ _ _ _ (by decide)]
  refine C.aload_nR dX11_sendError_35 rfl ?_
  refine C.aload_nR dX11_sendError_36 rfl ?_
  refine C.callVS0 (k9 := 0) [.ref z] dX11_sendError_37 mdX11_endLocation imX11_endLocation seX11_endLocation kc_12 rfl rfl lk_X11_450 rfl rfl rfl rfl (k_endLocation hS hSt (N := ans N 302 3) rfl (show tO S (gW S (gA S G N 302 3) 2 14 6200 f9_3 (((x ++ [plc x]) ++ sb_errorIs) ++ sb_access_denied).length) 2 14 6200 (((x ++ [plc x]) ++ sb_errorIs) ++ sb_access_denied) from (tO.gW (by decide) (by simp only [List.length_append, List.length_singleton]; exact (show x.length + 1 + 6 + 13 ≤ 6200 by omega)) (by decide) h_f9_3 b_f9_3)) hY.gA.gW (by simp only [List.length_append, List.length_singleton]; exact (show x.length + 1 + 6 + 13 + 7 + 3 * y.length ≤ 6200 by omega))) ?_
  rintro _ _ D9 ⟨f9_4, h_f9_4, b_f9_4, rfl, rfl, e8⟩; have e8 := e8.symm; subst e8
  rw [gW_gW _ _ _ _ _ _ _ (by decide)]
  refine C.iconst (v := (-1)) dX11_sendError_40 (by decide) ?_
  refine C.iret dX11_sendError_41 rfl ?_
  exact ⟨_, h_f9_4, b_f9_4, rfl, rfl, rfl⟩

theorem k_sendError_4 {Λ : kL} {S : Nat → Nat} {G : Nat → kc} {D : kh} (hS : cInj S) (hSt : kSt Λ) {N : Nat → Int32} {v : List Int32} (hP : G 0 = oGs S N) (hO : tO S G 2 14 6200 v) {u z : Nat} {x y : List Int32} (hT : tV S G D u x) (hY : tV S G D z y) (hx : x.length ≤ 80) (hy : y.length ≤ 2000) : cCt Λ mX11_sendError 0 0 S [.ref (S 0), .int 4, .ref u, .ref z] G D (fun r G' D' => ∃ f, tl f 0 ((x ++ [plc x]) ++ sb_errorIs ++ sb_unsupported_response_type ++ stS y).length = ((x ++ [plc x]) ++ sb_errorIs ++ sb_unsupported_response_type ++ stS y) ∧ bts ((x ++ [plc x]) ++ sb_errorIs ++ sb_unsupported_response_type ++ stS y) ∧ r = some (.int (-1)) ∧ G' = gW S (gA S G N 302 4) 2 14 6200 f ((x ++ [plc x]) ++ sb_errorIs ++ sb_unsupported_response_type ++ stS y).length ∧ D' = D) := by
  refine cCt.of hS pn_X11 [some (.ref (S 0)), some (.int 4), some (.ref u), some (.ref z)] rfl (Nat.le_of_ble_eq_true rfl) fun X => ?_
  have hO9 := hO; obtain ⟨fo9, b1, b2, b3, b4, b5, b6⟩ := hO9
  refine C.aload_nR dX11_sendError_0 rfl ?_
  refine C.sipush (v := 302) dX11_sendError_1 (by decide) ?_
  refine C.iload_n dX11_sendError_4 rfl ?_
  refine C.callVS0 (k9 := 0) [.int 302, .int 4] dX11_sendError_5 mdX11_answer imX11_answer seX11_answer kc_12 rfl hP lk_X11_240 rfl rfl rfl rfl (k_answer hS (N := N) (show G 0 = oGs S N from hP) (show tO S G 2 14 6200 v from hO) 302 4) ?_
  rintro _ _ D9 ⟨rfl, rfl, e8⟩; have e8 := e8.symm; subst e8
  refine C.pop dX11_sendError_8 rfl ?_
  refine C.aload_nR dX11_sendError_9 rfl ?_
  refine C.aload_nR dX11_sendError_10 rfl ?_
  refine C.callVS0 (k9 := 0) [.ref u] dX11_sendError_11 mdX11_startLocation imX11_startLocation seX11_startLocation kc_12 rfl rfl lk_X11_437 rfl rfl rfl rfl (k_startLocation hS (N := ans N 302 4) rfl (show tO S (gA S G N 302 4) 2 14 6200 [] from ⟨fo9, rfl, b2, Nat.zero_le _, by decide, rfl, bts_nil⟩) hT.gA (by show 0 + x.length + 1 ≤ 6200; omega)) ?_
  rintro _ _ D9 ⟨f9_1, h_f9_1, b_f9_1, rfl, rfl, e8⟩; have e8 := e8.symm; subst e8
  rw [List.nil_append] at h_f9_1 b_f9_1 ⊢
  refine C.aload_nR dX11_sendError_14 rfl ?_
  refine C.getS (k9 := 0) (fs := [.ref (S 1), .ref (S 2), .ref (S 3), .ref (S 4), .ref (S 5), .ref (S 6), .ref (S 7), .ref (S 8), .ref (S 9), .ref (S 10), .ref (S 11), .ref (S 12), .int (N 26), .int (N 27), .int (N 28), .int (N 25), .int 302, .int 4]) dX11_sendError_15 fl_X11_18 rfl rfl rfl ?_
  refine C.ldcwS dX11_sendError_18 sr_X11_441 ?_
  refine C.callVS0 (k9 := 2) [.ref (kSa Λ RX11 441)] dX11_sendError_21 mdX9_addWord imX9_addWord seX9_addWord kc_10 rfl rfl lk_X11_443 rfl rfl rfl rfl (o_addWord hS (show tO S (gW S (gA S G N 302 4) 2 14 6200 f9_1 (x ++ [plc x]).length) 2 14 6200 (x ++ [plc x]) from (tO.gW (by decide) (by simp only [List.length_append, List.length_singleton]; omega) (by decide) h_f9_1 b_f9_1)) rfl rfl (st_X11_441 hSt) sb_errorIs_b (by simp only [List.length_append, List.length_singleton]; exact (show x.length + 1 + 6 ≤ 6200 by omega))) ?_
  rintro _ _ D9 ⟨f9_2, h_f9_2, b_f9_2, rfl, rfl, e8⟩; have e8 := e8.symm; subst e8
  rw [gW_gW _ _ _ _ _ _ _ (by decide)]
  refine C.aload_nR dX11_sendError_24 rfl ?_
  refine C.getS (k9 := 0) (fs := [.ref (S 1), .ref (S 2), .ref (S 3), .ref (S 4), .ref (S 5), .ref (S 6), .ref (S 7), .ref (S 8), .ref (S 9), .ref (S 10), .ref (S 11), .ref (S 12), .int (N 26), .int (N 27), .int (N 28), .int (N 25), .int 302, .int 4]) dX11_sendError_25 fl_X11_18 rfl rfl rfl ?_
  refine C.iload_n dX11_sendError_28 rfl ?_
  refine C.callS0 [.int 4] dX11_sendError_29 mdX11_wordOf ssX11_wordOf lk_X11_446 rfl rfl rfl rfl (cCt.w0 (R := fun r => r = some (.ref (kSa Λ RX11 534))) fun σ9 h9 => k_wordOf_4) ?_
  rintro _ G9 D9 ⟨rfl, e9, e8⟩
  have e9 := e9.symm; subst e9; have e8 := e8.symm; subst e8
  refine C.callVS0 (k9 := 2) [.ref (kSa Λ RX11 534)] dX11_sendError_32 mdX9_addWord imX9_addWord seX9_addWord kc_10 rfl rfl lk_X11_443 rfl rfl rfl rfl (o_addWord hS (show tO S (gW S (gA S G N 302 4) 2 14 6200 f9_2 ((x ++ [plc x]) ++ sb_errorIs).length) 2 14 6200 ((x ++ [plc x]) ++ sb_errorIs) from (tO.gW (by decide) (by simp only [List.length_append, List.length_singleton]; exact (show x.length + 1 + 6 ≤ 6200 by omega)) (by decide) h_f9_2 b_f9_2)) rfl rfl (st_X11_534 hSt) sb_unsupported_response_type_b (by simp only [List.length_append, List.length_singleton]; exact (show x.length + 1 + 6 + 25 ≤ 6200 by omega))) ?_
  rintro _ _ D9 ⟨f9_3, h_f9_3, b_f9_3, rfl, rfl, e8⟩; have e8 := e8.symm; subst e8
  rw [gW_gW _ _ _ _ _ _ _ (by decide)]
  refine C.aload_nR dX11_sendError_35 rfl ?_
  refine C.aload_nR dX11_sendError_36 rfl ?_
  refine C.callVS0 (k9 := 0) [.ref z] dX11_sendError_37 mdX11_endLocation imX11_endLocation seX11_endLocation kc_12 rfl rfl lk_X11_450 rfl rfl rfl rfl (k_endLocation hS hSt (N := ans N 302 4) rfl (show tO S (gW S (gA S G N 302 4) 2 14 6200 f9_3 (((x ++ [plc x]) ++ sb_errorIs) ++ sb_unsupported_response_type).length) 2 14 6200 (((x ++ [plc x]) ++ sb_errorIs) ++ sb_unsupported_response_type) from (tO.gW (by decide) (by simp only [List.length_append, List.length_singleton]; exact (show x.length + 1 + 6 + 25 ≤ 6200 by omega)) (by decide) h_f9_3 b_f9_3)) hY.gA.gW (by simp only [List.length_append, List.length_singleton]; exact (show x.length + 1 + 6 + 25 + 7 + 3 * y.length ≤ 6200 by omega))) ?_
  rintro _ _ D9 ⟨f9_4, h_f9_4, b_f9_4, rfl, rfl, e8⟩; have e8 := e8.symm; subst e8
  rw [gW_gW _ _ _ _ _ _ _ (by decide)]
  refine C.iconst (v := (-1)) dX11_sendError_40 (by decide) ?_
  refine C.iret dX11_sendError_41 rfl ?_
  exact ⟨_, h_f9_4, b_f9_4, rfl, rfl, rfl⟩

theorem k_sendError_5 {Λ : kL} {S : Nat → Nat} {G : Nat → kc} {D : kh} (hS : cInj S) (hSt : kSt Λ) {N : Nat → Int32} {v : List Int32} (hP : G 0 = oGs S N) (hO : tO S G 2 14 6200 v) {u z : Nat} {x y : List Int32} (hT : tV S G D u x) (hY : tV S G D z y) (hx : x.length ≤ 80) (hy : y.length ≤ 2000) : cCt Λ mX11_sendError 0 0 S [.ref (S 0), .int 5, .ref u, .ref z] G D (fun r G' D' => ∃ f, tl f 0 ((x ++ [plc x]) ++ sb_errorIs ++ sb_invalid_scope ++ stS y).length = ((x ++ [plc x]) ++ sb_errorIs ++ sb_invalid_scope ++ stS y) ∧ bts ((x ++ [plc x]) ++ sb_errorIs ++ sb_invalid_scope ++ stS y) ∧ r = some (.int (-1)) ∧ G' = gW S (gA S G N 302 5) 2 14 6200 f ((x ++ [plc x]) ++ sb_errorIs ++ sb_invalid_scope ++ stS y).length ∧ D' = D) := by
  refine cCt.of hS pn_X11 [some (.ref (S 0)), some (.int 5), some (.ref u), some (.ref z)] rfl (Nat.le_of_ble_eq_true rfl) fun X => ?_
  have hO9 := hO; obtain ⟨fo9, b1, b2, b3, b4, b5, b6⟩ := hO9
  refine C.aload_nR dX11_sendError_0 rfl ?_
  refine C.sipush (v := 302) dX11_sendError_1 (by decide) ?_
  refine C.iload_n dX11_sendError_4 rfl ?_
  refine C.callVS0 (k9 := 0) [.int 302, .int 5] dX11_sendError_5 mdX11_answer imX11_answer seX11_answer kc_12 rfl hP lk_X11_240 rfl rfl rfl rfl (k_answer hS (N := N) (show G 0 = oGs S N from hP) (show tO S G 2 14 6200 v from hO) 302 5) ?_
  rintro _ _ D9 ⟨rfl, rfl, e8⟩; have e8 := e8.symm; subst e8
  refine C.pop dX11_sendError_8 rfl ?_
  refine C.aload_nR dX11_sendError_9 rfl ?_
  refine C.aload_nR dX11_sendError_10 rfl ?_
  refine C.callVS0 (k9 := 0) [.ref u] dX11_sendError_11 mdX11_startLocation imX11_startLocation seX11_startLocation kc_12 rfl rfl lk_X11_437 rfl rfl rfl rfl (k_startLocation hS (N := ans N 302 5) rfl (show tO S (gA S G N 302 5) 2 14 6200 [] from ⟨fo9, rfl, b2, Nat.zero_le _, by decide, rfl, bts_nil⟩) hT.gA (by show 0 + x.length + 1 ≤ 6200; omega)) ?_
  rintro _ _ D9 ⟨f9_1, h_f9_1, b_f9_1, rfl, rfl, e8⟩; have e8 := e8.symm; subst e8
  rw [List.nil_append] at h_f9_1 b_f9_1 ⊢
  refine C.aload_nR dX11_sendError_14 rfl ?_
  refine C.getS (k9 := 0) (fs := [.ref (S 1), .ref (S 2), .ref (S 3), .ref (S 4), .ref (S 5), .ref (S 6), .ref (S 7), .ref (S 8), .ref (S 9), .ref (S 10), .ref (S 11), .ref (S 12), .int (N 26), .int (N 27), .int (N 28), .int (N 25), .int 302, .int 5]) dX11_sendError_15 fl_X11_18 rfl rfl rfl ?_
  refine C.ldcwS dX11_sendError_18 sr_X11_441 ?_
  refine C.callVS0 (k9 := 2) [.ref (kSa Λ RX11 441)] dX11_sendError_21 mdX9_addWord imX9_addWord seX9_addWord kc_10 rfl rfl lk_X11_443 rfl rfl rfl rfl (o_addWord hS (show tO S (gW S (gA S G N 302 5) 2 14 6200 f9_1 (x ++ [plc x]).length) 2 14 6200 (x ++ [plc x]) from (tO.gW (by decide) (by simp only [List.length_append, List.length_singleton]; omega) (by decide) h_f9_1 b_f9_1)) rfl rfl (st_X11_441 hSt) sb_errorIs_b (by simp only [List.length_append, List.length_singleton]; exact (show x.length + 1 + 6 ≤ 6200 by omega))) ?_
  rintro _ _ D9 ⟨f9_2, h_f9_2, b_f9_2, rfl, rfl, e8⟩; have e8 := e8.symm; subst e8
  rw [gW_gW _ _ _ _ _ _ _ (by decide)]
  refine C.aload_nR dX11_sendError_24 rfl ?_
  refine C.getS (k9 := 0) (fs := [.ref (S 1), .ref (S 2), .ref (S 3), .ref (S 4), .ref (S 5), .ref (S 6), .ref (S 7), .ref (S 8), .ref (S 9), .ref (S 10), .ref (S 11), .ref (S 12), .int (N 26), .int (N 27), .int (N 28), .int (N 25), .int 302, .int 5]) dX11_sendError_25 fl_X11_18 rfl rfl rfl ?_
  refine C.iload_n dX11_sendError_28 rfl ?_
  refine C.callS0 [.int 5] dX11_sendError_29 mdX11_wordOf ssX11_wordOf lk_X11_446 rfl rfl rfl rfl (cCt.w0 (R := fun r => r = some (.ref (kSa Λ RX11 536))) fun σ9 h9 => k_wordOf_5) ?_
  rintro _ G9 D9 ⟨rfl, e9, e8⟩
  have e9 := e9.symm; subst e9; have e8 := e8.symm; subst e8
  refine C.callVS0 (k9 := 2) [.ref (kSa Λ RX11 536)] dX11_sendError_32 mdX9_addWord imX9_addWord seX9_addWord kc_10 rfl rfl lk_X11_443 rfl rfl rfl rfl (o_addWord hS (show tO S (gW S (gA S G N 302 5) 2 14 6200 f9_2 ((x ++ [plc x]) ++ sb_errorIs).length) 2 14 6200 ((x ++ [plc x]) ++ sb_errorIs) from (tO.gW (by decide) (by simp only [List.length_append, List.length_singleton]; exact (show x.length + 1 + 6 ≤ 6200 by omega)) (by decide) h_f9_2 b_f9_2)) rfl rfl (st_X11_536 hSt) sb_invalid_scope_b (by simp only [List.length_append, List.length_singleton]; exact (show x.length + 1 + 6 + 13 ≤ 6200 by omega))) ?_
  rintro _ _ D9 ⟨f9_3, h_f9_3, b_f9_3, rfl, rfl, e8⟩; have e8 := e8.symm; subst e8
  rw [gW_gW _ _ _ _ _ _ _ (by decide)]
  refine C.aload_nR dX11_sendError_35 rfl ?_
  refine C.aload_nR dX11_sendError_36 rfl ?_
  refine C.callVS0 (k9 := 0) [.ref z] dX11_sendError_37 mdX11_endLocation imX11_endLocation seX11_endLocation kc_12 rfl rfl lk_X11_450 rfl rfl rfl rfl (k_endLocation hS hSt (N := ans N 302 5) rfl (show tO S (gW S (gA S G N 302 5) 2 14 6200 f9_3 (((x ++ [plc x]) ++ sb_errorIs) ++ sb_invalid_scope).length) 2 14 6200 (((x ++ [plc x]) ++ sb_errorIs) ++ sb_invalid_scope) from (tO.gW (by decide) (by simp only [List.length_append, List.length_singleton]; exact (show x.length + 1 + 6 + 13 ≤ 6200 by omega)) (by decide) h_f9_3 b_f9_3)) hY.gA.gW (by simp only [List.length_append, List.length_singleton]; exact (show x.length + 1 + 6 + 13 + 7 + 3 * y.length ≤ 6200 by omega))) ?_
  rintro _ _ D9 ⟨f9_4, h_f9_4, b_f9_4, rfl, rfl, e8⟩; have e8 := e8.symm; subst e8
  rw [gW_gW _ _ _ _ _ _ _ (by decide)]
  refine C.iconst (v := (-1)) dX11_sendError_40 (by decide) ?_
  refine C.iret dX11_sendError_41 rfl ?_
  exact ⟨_, h_f9_4, b_f9_4, rfl, rfl, rfl⟩

theorem k_sendError_11 {Λ : kL} {S : Nat → Nat} {G : Nat → kc} {D : kh} (hS : cInj S) (hSt : kSt Λ) {N : Nat → Int32} {v : List Int32} (hP : G 0 = oGs S N) (hO : tO S G 2 14 6200 v) {u z : Nat} {x y : List Int32} (hT : tV S G D u x) (hY : tV S G D z y) (hx : x.length ≤ 80) (hy : y.length ≤ 2000) : cCt Λ mX11_sendError 0 0 S [.ref (S 0), .int 11, .ref u, .ref z] G D (fun r G' D' => ∃ f, tl f 0 ((x ++ [plc x]) ++ sb_errorIs ++ sb_temporarily_unavailable ++ stS y).length = ((x ++ [plc x]) ++ sb_errorIs ++ sb_temporarily_unavailable ++ stS y) ∧ bts ((x ++ [plc x]) ++ sb_errorIs ++ sb_temporarily_unavailable ++ stS y) ∧ r = some (.int (-1)) ∧ G' = gW S (gA S G N 302 11) 2 14 6200 f ((x ++ [plc x]) ++ sb_errorIs ++ sb_temporarily_unavailable ++ stS y).length ∧ D' = D) := by
  refine cCt.of hS pn_X11 [some (.ref (S 0)), some (.int 11), some (.ref u), some (.ref z)] rfl (Nat.le_of_ble_eq_true rfl) fun X => ?_
  have hO9 := hO; obtain ⟨fo9, b1, b2, b3, b4, b5, b6⟩ := hO9
  refine C.aload_nR dX11_sendError_0 rfl ?_
  refine C.sipush (v := 302) dX11_sendError_1 (by decide) ?_
  refine C.iload_n dX11_sendError_4 rfl ?_
  refine C.callVS0 (k9 := 0) [.int 302, .int 11] dX11_sendError_5 mdX11_answer imX11_answer seX11_answer kc_12 rfl hP lk_X11_240 rfl rfl rfl rfl (k_answer hS (N := N) (show G 0 = oGs S N from hP) (show tO S G 2 14 6200 v from hO) 302 11) ?_
  rintro _ _ D9 ⟨rfl, rfl, e8⟩; have e8 := e8.symm; subst e8
  refine C.pop dX11_sendError_8 rfl ?_
  refine C.aload_nR dX11_sendError_9 rfl ?_
  refine C.aload_nR dX11_sendError_10 rfl ?_
  refine C.callVS0 (k9 := 0) [.ref u] dX11_sendError_11 mdX11_startLocation imX11_startLocation seX11_startLocation kc_12 rfl rfl lk_X11_437 rfl rfl rfl rfl (k_startLocation hS (N := ans N 302 11) rfl (show tO S (gA S G N 302 11) 2 14 6200 [] from ⟨fo9, rfl, b2, Nat.zero_le _, by decide, rfl, bts_nil⟩) hT.gA (by show 0 + x.length + 1 ≤ 6200; omega)) ?_
  rintro _ _ D9 ⟨f9_1, h_f9_1, b_f9_1, rfl, rfl, e8⟩; have e8 := e8.symm; subst e8
  rw [List.nil_append] at h_f9_1 b_f9_1 ⊢
  refine C.aload_nR dX11_sendError_14 rfl ?_
  refine C.getS (k9 := 0) (fs := [.ref (S 1), .ref (S 2), .ref (S 3), .ref (S 4), .ref (S 5), .ref (S 6), .ref (S 7), .ref (S 8), .ref (S 9), .ref (S 10), .ref (S 11), .ref (S 12), .int (N 26), .int (N 27), .int (N 28), .int (N 25), .int 302, .int 11]) dX11_sendError_15 fl_X11_18 rfl rfl rfl ?_
  refine C.ldcwS dX11_sendError_18 sr_X11_441 ?_
  refine C.callVS0 (k9 := 2) [.ref (kSa Λ RX11 441)] dX11_sendError_21 mdX9_addWord imX9_addWord seX9_addWord kc_10 rfl rfl lk_X11_443 rfl rfl rfl rfl (o_addWord hS (show tO S (gW S (gA S G N 302 11) 2 14 6200 f9_1 (x ++ [plc x]).length) 2 14 6200 (x ++ [plc x]) from (tO.gW (by decide) (by simp only [List.length_append, List.length_singleton]; omega) (by decide) h_f9_1 b_f9_1)) rfl rfl (st_X11_441 hSt) sb_errorIs_b (by simp only [List.length_append, List.length_singleton]; exact (show x.length + 1 + 6 ≤ 6200 by omega))) ?_
  rintro _ _ D9 ⟨f9_2, h_f9_2, b_f9_2, rfl, rfl, e8⟩; have e8 := e8.symm; subst e8
  rw [gW_gW _ _ _ _ _ _ _ (by decide)]
  refine C.aload_nR dX11_sendError_24 rfl ?_
  refine C.getS (k9 := 0) (fs := [.ref (S 1), .ref (S 2), .ref (S 3), .ref (S 4), .ref (S 5), .ref (S 6), .ref (S 7), .ref (S 8), .ref (S 9), .ref (S 10), .ref (S 11), .ref (S 12), .int (N 26), .int (N 27), .int (N 28), .int (N 25), .int 302, .int 11]) dX11_sendError_25 fl_X11_18 rfl rfl rfl ?_
  refine C.iload_n dX11_sendError_28 rfl ?_
  refine C.callS0 [.int 11] dX11_sendError_29 mdX11_wordOf ssX11_wordOf lk_X11_446 rfl rfl rfl rfl (cCt.w0 (R := fun r => r = some (.ref (kSa Λ RX11 548))) fun σ9 h9 => k_wordOf_11) ?_
  rintro _ G9 D9 ⟨rfl, e9, e8⟩
  have e9 := e9.symm; subst e9; have e8 := e8.symm; subst e8
  refine C.callVS0 (k9 := 2) [.ref (kSa Λ RX11 548)] dX11_sendError_32 mdX9_addWord imX9_addWord seX9_addWord kc_10 rfl rfl lk_X11_443 rfl rfl rfl rfl (o_addWord hS (show tO S (gW S (gA S G N 302 11) 2 14 6200 f9_2 ((x ++ [plc x]) ++ sb_errorIs).length) 2 14 6200 ((x ++ [plc x]) ++ sb_errorIs) from (tO.gW (by decide) (by simp only [List.length_append, List.length_singleton]; exact (show x.length + 1 + 6 ≤ 6200 by omega)) (by decide) h_f9_2 b_f9_2)) rfl rfl (st_X11_548 hSt) sb_temporarily_unavailable_b (by simp only [List.length_append, List.length_singleton]; exact (show x.length + 1 + 6 + 23 ≤ 6200 by omega))) ?_
  rintro _ _ D9 ⟨f9_3, h_f9_3, b_f9_3, rfl, rfl, e8⟩; have e8 := e8.symm; subst e8
  rw [gW_gW _ _ _ _ _ _ _ (by decide)]
  refine C.aload_nR dX11_sendError_35 rfl ?_
  refine C.aload_nR dX11_sendError_36 rfl ?_
  refine C.callVS0 (k9 := 0) [.ref z] dX11_sendError_37 mdX11_endLocation imX11_endLocation seX11_endLocation kc_12 rfl rfl lk_X11_450 rfl rfl rfl rfl (k_endLocation hS hSt (N := ans N 302 11) rfl (show tO S (gW S (gA S G N 302 11) 2 14 6200 f9_3 (((x ++ [plc x]) ++ sb_errorIs) ++ sb_temporarily_unavailable).length) 2 14 6200 (((x ++ [plc x]) ++ sb_errorIs) ++ sb_temporarily_unavailable) from (tO.gW (by decide) (by simp only [List.length_append, List.length_singleton]; exact (show x.length + 1 + 6 + 23 ≤ 6200 by omega)) (by decide) h_f9_3 b_f9_3)) hY.gA.gW (by simp only [List.length_append, List.length_singleton]; exact (show x.length + 1 + 6 + 23 + 7 + 3 * y.length ≤ 6200 by omega))) ?_
  rintro _ _ D9 ⟨f9_4, h_f9_4, b_f9_4, rfl, rfl, e8⟩; have e8 := e8.symm; subst e8
  rw [gW_gW _ _ _ _ _ _ _ (by decide)]
  refine C.iconst (v := (-1)) dX11_sendError_40 (by decide) ?_
  refine C.iret dX11_sendError_41 rfl ?_
  exact ⟨_, h_f9_4, b_f9_4, rfl, rfl, rfl⟩

theorem k_scopesTold {Λ : kL} {S : Nat → Nat} {G : Nat → kc} {D : kh} (hS : cInj S) {A L : Nat → List Nat} {N : Nat → Int32} {B : Nat → List Int32} {T R : Nat → List (List Int32)} (hR : cR Λ S G D A L N B T R) (hW : wf N B T R) {g : fvs} (hG : cG Λ S G g) (x : Int32) : cCt Λ mX11_scopesTold 0 0 S [.ref (S 0), .int x] G D (fun r G' D' => r = some (.int (tld (T 2) (fv g 3) x)) ∧ G' = G ∧ D' = D) := by
  refine cCt.of hS pn_X11 [some (.ref (S 0)), some (.int x), none, none, none, none, none] rfl (Nat.le_of_ble_eq_true rfl) fun X => ?_
  obtain ⟨p_a, p_b, p_n, p_k, p_f, p_h, p_w, p_c, p_r, p_q, p_o, p_m, p_t, p_d⟩ := hR
  obtain ⟨w_a, w_n, w_w, w_c, w_r, w_x, w_q, w_k, w_f, w_t, w_m, w_l⟩ := hW
  have p_a9 := p_a; obtain ⟨ft, a1, a2, a3, a4, a5, a6⟩ := p_a9
  have p_b9 := p_b; obtain ⟨fo9, b1, b2, b3, b4, b5, b6⟩ := p_b9
  have hf9_3 := hG.1.2.2.2.2.2.2.1; obtain ⟨to_3, bq_3, nq_3, fq_3, _, _⟩ := hf9_3
  have ht9_3 := hG.2.2.2.2.1; obtain ⟨bt_3, ff_3, gt_3, gr_3, _⟩ := ht9_3
  have hn2 : (fv g 3).length ≤ 2000 := by obtain ⟨_, _, _, _, h9, _⟩ := hG.2.2.2.2.1; omega
  have hbt : bts (fv g 3) := by obtain ⟨_, _, _, _, _, _, _, h9⟩ := hG.2.2.2.2.1; exact h9
  refine C.aload_nR dX11_scopesTold_0 rfl ?_
  refine C.getS (k9 := 0) (fs := [.ref (S 1), .ref (S 2), .ref (S 3), .ref (S 4), .ref (S 5), .ref (S 6), .ref (S 7), .ref (S 8), .ref (S 9), .ref (S 10), .ref (S 11), .ref (S 12), .int (N 26), .int (N 27), .int (N 28), .int (N 25), .int (N 5), .int (N 6)]) dX11_scopesTold_1 fl_X11_24 rfl p_n rfl ?_
  refine C.getS (k9 := 3) (fs := [.ref (S 15), .ref (S 17), .ref (S 18), .ref (S 19), .ref (S 20), .ref (S 21), .ref (S 22), .ref (S 23), .ref (S 24), .ref (S 25), .ref (S 26), .ref (S 27), .ref (S 28), .ref (S 29), .ref (S 30), .ref (S 44)]) dX11_scopesTold_4 fl_X11_401 rfl p_k.1 rfl ?_
  refine C.callVS0 (k9 := 21) [] dX11_scopesTold_7 mdX3_isThere imX3_isThere seX3_isThere kc_4 rfl fq_3 lk_X11_285 rfl rfl rfl rfl (cCt.w0 (R := fun r => r = some (.int (bI (decide (0 < (fv g 3).length))))) fun σ9 h9 => c_Field_isThere (h9.at (k := 21) rfl fq_3) (h9.at (k := 34) rfl gt_3) (show (fv g 3).length ≤ 100000 from (show tV S G D (S 34) (fv g 3) from tS.v hG.2.2.2.2.1 (by decide) (by decide)).le)) ?_
  rintro _ G9 D9 ⟨rfl, e9, e8⟩
  have e9 := e9.symm; subst e9; have e8 := e8.symm; subst e8
  refine C.if_ne (tgt := 15) dX11_scopesTold_10 (by decide) (fun c_10 => ?_) (fun c_10 => ?_)
  · skip
    have h03 : 0 < (fv g 3).length := of_decide_eq_true (bt1 c_10)
    refine C.aload_nR dX11_scopesTold_15 rfl ?_
    refine C.getS (k9 := 0) (fs := [.ref (S 1), .ref (S 2), .ref (S 3), .ref (S 4), .ref (S 5), .ref (S 6), .ref (S 7), .ref (S 8), .ref (S 9), .ref (S 10), .ref (S 11), .ref (S 12), .int (N 26), .int (N 27), .int (N 28), .int (N 25), .int (N 5), .int (N 6)]) dX11_scopesTold_16 fl_X11_24 rfl p_n rfl ?_
    refine C.getS (k9 := 3) (fs := [.ref (S 15), .ref (S 17), .ref (S 18), .ref (S 19), .ref (S 20), .ref (S 21), .ref (S 22), .ref (S 23), .ref (S 24), .ref (S 25), .ref (S 26), .ref (S 27), .ref (S 28), .ref (S 29), .ref (S 30), .ref (S 44)]) dX11_scopesTold_19 fl_X11_401 rfl p_k.1 rfl ?_
    refine C.getS (k9 := 21) (fs := [.ref (kSa Λ RX4 47), .ref (S 34), .int (bI to_3)]) dX11_scopesTold_22 fl_X11_199 rfl fq_3 rfl ?_
    refine C.astore_n (L' := [some (.ref (S 0)), some (.int x), some (.ref (S 34)), none, none, none, none]) dX11_scopesTold_25 (by decide) rfl rfl ?_
    have cut_34 : ∀ (k_34 : Nat) (i : Nat) (st : Nat) (bits : Int32), (i ≤ (fv g 3).length + 1) → (st ≤ i) → ((fv g 3).length + 2 ≤ i + k_34) → (scpS (T 2) (fv g 3) = scpI (T 2) (gD (fv g 3)) (fv g 3).length st bits) → (∀ j, st ≤ j → j < i → gD (fv g 3) j ≠ 32) → ((fv g 3).length < i → (fv g 3).length < st) → C Λ X mX11_scopesTold 0 0 S (fun r G' D' => r = some (.int (tld (T 2) (fv g 3) x)) ∧ G' = G ∧ D' = D) 0 0 G D 34 [some (.ref (S 0)), some (.int x), some (.ref (S 34)), some (.int bits), some (.int (nI st)), some (.int (nI i)), none] [] := by
      intro k_34
      induction k_34 with
      | zero => intro i st bits h1 hs h2 hz hns hE; exact absurd h2 (by omega)
      | succ k_34 ih_34 =>
        intro i st bits h1 hs h2 hz hns hE
        refine C.iload dX11_scopesTold_34 rfl ?_
        refine C.aload_nR dX11_scopesTold_36 rfl ?_
        refine C.callVX0 [] dX11_scopesTold_37 mdX9_size imX9_size seX9_size kc_10 (show tV S G D (S 34) (fv g 3) from tS.v hG.2.2.2.2.1 (by decide) (by decide)).ob lk_X11_86 rfl rfl rfl rfl (cCt.w0 (R := fun r => r = some (.int (nI (fv g 3).length))) fun σ9 h9 => v_size ((show tV S G D (S 34) (fv g 3) from tS.v hG.2.2.2.2.1 (by decide) (by decide)).tx h9)) ?_
        rintro _ G9 D9 ⟨rfl, e9, e8⟩
        have e9 := e9.symm; subst e9; have e8 := e8.symm; subst e8
        refine C.icmp_gt (tgt := 124) dX11_scopesTold_40 (by decide) (fun c_40 => ?_) (fun c_40 => ?_)
        · skip
          have hend : (fv g 3).length < i := (nI_ltI (by omega) (by omega)).mp c_40
          refine C.iload_n dX11_scopesTold_124 rfl ?_
          refine C.iret dX11_scopesTold_125 rfl ?_
          refine ⟨congrArg (fun z => some (Value.int z)) ?_, rfl, rfl⟩
          have hE9 := hE hend
          rw [tld, if_pos h03, hz, scpI_end (by omega)]; rfl
        · skip
          have hin : i ≤ (fv g 3).length := Nat.le_of_not_lt fun q => c_40 ((nI_ltI (by omega) (by omega)).mpr q)
          refine C.iload dX11_scopesTold_43 rfl ?_
          refine C.aload_nR dX11_scopesTold_45 rfl ?_
          refine C.callVX0 [] dX11_scopesTold_46 mdX9_size imX9_size seX9_size kc_10 (show tV S G D (S 34) (fv g 3) from tS.v hG.2.2.2.2.1 (by decide) (by decide)).ob lk_X11_86 rfl rfl rfl rfl (cCt.w0 (R := fun r => r = some (.int (nI (fv g 3).length))) fun σ9 h9 => v_size ((show tV S G D (S 34) (fv g 3) from tS.v hG.2.2.2.2.1 (by decide) (by decide)).tx h9)) ?_
          rintro _ G9 D9 ⟨rfl, e9, e8⟩
          have e9 := e9.symm; subst e9; have e8 := e8.symm; subst e8
          refine C.icmp_ge (tgt := 66) dX11_scopesTold_49 (by decide) (fun c_49 => ?_) (fun c_49 => ?_)
          · skip
            have hh : i = (fv g 3).length ∨ gD (fv g 3) i = 32 := Or.inl (by have h9 := (nI_leI (by omega) (by omega)).mp c_49; omega)
            refine C.aload_nR dX11_scopesTold_66 rfl ?_
            refine C.aload_nR dX11_scopesTold_67 rfl ?_
            refine C.iload dX11_scopesTold_68 rfl ?_
            refine C.iload dX11_scopesTold_70 rfl ?_
            refine C.iload dX11_scopesTold_72 rfl ?_
            refine C.isub dX11_scopesTold_74 ?_
            rw [show (nI i) - (nI st) = nI (i - st) from pk_sub hs]
            refine C.callVS0 (k9 := 0) [.ref (S 34), .int (nI st), .int (nI (i - st))] dX11_scopesTold_75 mdX11_scopeOf imX11_scopeOf seX11_scopeOf kc_12 rfl p_n lk_X11_112 rfl rfl rfl rfl (k_scopeOf_S hS (N := N) p_n p_w.1 p_w.2 w_w.1 hG.2.2.2.2.1 (a := st) (m := i - st) (by omega)) ?_
            rintro _ G9 D9 ⟨rfl, e9, e8⟩; have e9 := e9.symm; subst e9; have e8 := e8.symm; subst e8
            by_cases hk : fnd (T 2) (((fv g 3).drop st).take (i - st)) < (T 2).length
            · rw [if_pos hk]
              refine C.istore (L' := [some (.ref (S 0)), some (.int x), some (.ref (S 34)), some (.int bits), some (.int (nI st)), some (.int (nI i)), some (.int (nI (fnd (T 2) (((fv g 3).drop st).take (i - st)))))]) dX11_scopesTold_78 (by decide) rfl rfl ?_
              refine C.iload dX11_scopesTold_80 rfl ?_
              refine C.iconst (v := (-1)) dX11_scopesTold_82 (by decide) ?_
              refine C.icmp_ne (tgt := 95) dX11_scopesTold_83 (by decide) (fun c_83 => ?_) (fun c_83 => absurd c_83 (nI_neg (by have := w_w.1; omega)))
              refine C.iload_n dX11_scopesTold_95 rfl ?_
              refine C.iload dX11_scopesTold_96 rfl ?_
              refine C.iconst (v := (-1)) dX11_scopesTold_98 (by decide) ?_
              refine C.icmp_ne (tgt := 106) dX11_scopesTold_99 (by decide) (fun c_99 => ?_) (fun c_99 => absurd c_99 (nI_neg (by have := w_w.1; omega)))
              refine C.iconst (v := 1) dX11_scopesTold_106 (by decide) ?_
              refine C.iload dX11_scopesTold_107 rfl ?_
              refine C.ishl dX11_scopesTold_109 ?_
              refine C.ior dX11_scopesTold_110 ?_
              rw [show bits ||| (1 <<< ((nI (fnd (T 2) (((fv g 3).drop st).take (i - st))) : Int32) &&& 31)) = bits ||| (1 <<< ((nI (fnd (T 2) (((fv g 3).drop st).take (i - st))) : Int32) &&& 31)) from rfl]
              refine C.istore_n (L' := [some (.ref (S 0)), some (.int x), some (.ref (S 34)), some (.int (bits ||| (1 <<< ((nI (fnd (T 2) (((fv g 3).drop st).take (i - st))) : Int32) &&& 31)))), some (.int (nI st)), some (.int (nI i)), some (.int (nI (fnd (T 2) (((fv g 3).drop st).take (i - st)))))]) dX11_scopesTold_111 (by decide) rfl rfl ?_
              refine C.iload dX11_scopesTold_112 rfl ?_
              refine C.iconst (v := 1) dX11_scopesTold_114 (by decide) ?_
              refine C.iadd dX11_scopesTold_115 ?_
              rw [show (nI i) + 1 = nI (i + 1) from nI_1 i]
              refine C.istore (L' := [some (.ref (S 0)), some (.int x), some (.ref (S 34)), some (.int (bits ||| (1 <<< ((nI (fnd (T 2) (((fv g 3).drop st).take (i - st))) : Int32) &&& 31)))), some (.int (nI (i + 1))), some (.int (nI i)), some (.int (nI (fnd (T 2) (((fv g 3).drop st).take (i - st)))))]) dX11_scopesTold_116 (by decide) rfl rfl ?_
              refine C.iinc (v := nI (i + 1)) (L' := [some (.ref (S 0)), some (.int x), some (.ref (S 34)), some (.int (bits ||| (1 <<< ((nI (fnd (T 2) (((fv g 3).drop st).take (i - st))) : Int32) &&& 31)))), some (.int (nI (i + 1))), some (.int (nI (i + 1))), some (.int (nI (fnd (T 2) (((fv g 3).drop st).take (i - st)))))]) dX11_scopesTold_118 rfl (nI_1 i) (by decide) rfl rfl ?_
              refine C.goto (tgt := 34) dX11_scopesTold_121 (by decide) ?_
              refine C.drop (i := 6) (L' := [some (.ref (S 0)), some (.int x), some (.ref (S 34)), some (.int (bits ||| (1 <<< ((nI (fnd (T 2) (((fv g 3).drop st).take (i - st))) : Int32) &&& 31)))), some (.int (nI (i + 1))), some (.int (nI (i + 1))), none]) rfl ?_
              exact ih_34 (i + 1) (i + 1) _ (by omega) (by omega) (by omega) (hz.trans (tk_go hs hin hns hh w_w.2.2 hk)) (fun j a b => absurd b (by omega)) (by omega)
            · rw [if_neg hk]
              refine C.istore (L' := [some (.ref (S 0)), some (.int x), some (.ref (S 34)), some (.int bits), some (.int (nI st)), some (.int (nI i)), some (.int (-1))]) dX11_scopesTold_78 (by decide) rfl rfl ?_
              refine C.iload dX11_scopesTold_80 rfl ?_
              refine C.iconst (v := (-1)) dX11_scopesTold_82 (by decide) ?_
              refine C.icmp_ne (tgt := 95) dX11_scopesTold_83 (by decide) (fun c_83 => absurd c_83 (fun z => z rfl)) (fun c_83 => ?_)
              refine C.iload dX11_scopesTold_86 rfl ?_
              refine C.iload dX11_scopesTold_88 rfl ?_
              refine C.icmp_le (tgt := 95) dX11_scopesTold_90 (by decide) (fun c_90 => ?_) (fun c_90 => ?_)
              · skip
                refine C.iload_n dX11_scopesTold_95 rfl ?_
                refine C.iload dX11_scopesTold_96 rfl ?_
                refine C.iconst (v := (-1)) dX11_scopesTold_98 (by decide) ?_
                refine C.icmp_ne (tgt := 106) dX11_scopesTold_99 (by decide) (fun c_99 => absurd c_99 (fun z => z rfl)) (fun c_99 => ?_)
                refine C.iconst (v := 0) dX11_scopesTold_102 (by decide) ?_
                refine C.goto (tgt := 110) dX11_scopesTold_103 (by decide) ?_
                refine C.ior dX11_scopesTold_110 ?_
                rw [show bits ||| 0 = bits from ior0 bits]
                refine C.istore_n (L' := [some (.ref (S 0)), some (.int x), some (.ref (S 34)), some (.int bits), some (.int (nI st)), some (.int (nI i)), some (.int (-1))]) dX11_scopesTold_111 (by decide) rfl rfl ?_
                refine C.iload dX11_scopesTold_112 rfl ?_
                refine C.iconst (v := 1) dX11_scopesTold_114 (by decide) ?_
                refine C.iadd dX11_scopesTold_115 ?_
                rw [show (nI i) + 1 = nI (i + 1) from nI_1 i]
                refine C.istore (L' := [some (.ref (S 0)), some (.int x), some (.ref (S 34)), some (.int bits), some (.int (nI (i + 1))), some (.int (nI i)), some (.int (-1))]) dX11_scopesTold_116 (by decide) rfl rfl ?_
                refine C.iinc (v := nI (i + 1)) (L' := [some (.ref (S 0)), some (.int x), some (.ref (S 34)), some (.int bits), some (.int (nI (i + 1))), some (.int (nI (i + 1))), some (.int (-1))]) dX11_scopesTold_118 rfl (nI_1 i) (by decide) rfl rfl ?_
                refine C.goto (tgt := 34) dX11_scopesTold_121 (by decide) ?_
                refine C.drop (i := 6) (L' := [some (.ref (S 0)), some (.int x), some (.ref (S 34)), some (.int bits), some (.int (nI (i + 1))), some (.int (nI (i + 1))), none]) rfl ?_
                exact ih_34 (i + 1) (i + 1) bits (by omega) (by omega) (by omega) (hz.trans (by have hq : i = st := (by have h9 := (nI_leI (by omega) (by omega)).mp c_90; omega); subst hq; exact tk_sk hin hh)) (fun j a b => absurd b (by omega)) (by omega)
              · skip
                refine C.iconst (v := (-1)) dX11_scopesTold_93 (by decide) ?_
                refine C.iret dX11_scopesTold_94 rfl ?_
                refine ⟨congrArg (fun z => some (Value.int z)) ?_, rfl, rfl⟩
                have hlt9 : st < i := Nat.lt_of_not_le fun q => c_90 ((nI_leI (by omega) (by omega)).mpr q)
                rw [tld, if_pos h03, hz, tk_no hlt9 hin hns hh hk]; rfl
          · skip
            have lt_i : i < (fv g 3).length := nI_ltn c_49 (by omega) (by omega)
            refine C.aload_nR dX11_scopesTold_52 rfl ?_
            refine C.iload dX11_scopesTold_53 rfl ?_
            refine C.callVX0 [.int (nI i)] dX11_scopesTold_55 mdX9_at imX9_at seX9_at kc_10 (show tV S G D (S 34) (fv g 3) from tS.v hG.2.2.2.2.1 (by decide) (by decide)).ob lk_X11_349 rfl rfl rfl rfl (cCt.w0 (R := fun r => r = some (.int ((fv g 3).getD i 0 &&& 255))) fun σ9 h9 => v_at ((show tV S G D (S 34) (fv g 3) from tS.v hG.2.2.2.2.1 (by decide) (by decide)).tx h9) lt_i) ?_
            rintro _ G9 D9 ⟨rfl, e9, e8⟩
            have e9 := e9.symm; subst e9; have e8 := e8.symm; subst e8
            refine C.bipush (v := 32) dX11_scopesTold_58 (by decide) ?_
            refine C.icmp_eq (tgt := 66) dX11_scopesTold_60 (by decide) (fun c_60 => ?_) (fun c_60 => ?_)
            · skip
              have hh : i = (fv g 3).length ∨ gD (fv g 3) i = 32 := Or.inr ((gD255 hbt lt_i).mp c_60)
              refine C.aload_nR dX11_scopesTold_66 rfl ?_
              refine C.aload_nR dX11_scopesTold_67 rfl ?_
              refine C.iload dX11_scopesTold_68 rfl ?_
              refine C.iload dX11_scopesTold_70 rfl ?_
              refine C.iload dX11_scopesTold_72 rfl ?_
              refine C.isub dX11_scopesTold_74 ?_
              rw [show (nI i) - (nI st) = nI (i - st) from pk_sub hs]
              refine C.callVS0 (k9 := 0) [.ref (S 34), .int (nI st), .int (nI (i - st))] dX11_scopesTold_75 mdX11_scopeOf imX11_scopeOf seX11_scopeOf kc_12 rfl p_n lk_X11_112 rfl rfl rfl rfl (k_scopeOf_S hS (N := N) p_n p_w.1 p_w.2 w_w.1 hG.2.2.2.2.1 (a := st) (m := i - st) (by omega)) ?_
              rintro _ G9 D9 ⟨rfl, e9, e8⟩; have e9 := e9.symm; subst e9; have e8 := e8.symm; subst e8
              by_cases hk : fnd (T 2) (((fv g 3).drop st).take (i - st)) < (T 2).length
              · rw [if_pos hk]
                refine C.istore (L' := [some (.ref (S 0)), some (.int x), some (.ref (S 34)), some (.int bits), some (.int (nI st)), some (.int (nI i)), some (.int (nI (fnd (T 2) (((fv g 3).drop st).take (i - st)))))]) dX11_scopesTold_78 (by decide) rfl rfl ?_
                refine C.iload dX11_scopesTold_80 rfl ?_
                refine C.iconst (v := (-1)) dX11_scopesTold_82 (by decide) ?_
                refine C.icmp_ne (tgt := 95) dX11_scopesTold_83 (by decide) (fun c_83 => ?_) (fun c_83 => absurd c_83 (nI_neg (by have := w_w.1; omega)))
                refine C.iload_n dX11_scopesTold_95 rfl ?_
                refine C.iload dX11_scopesTold_96 rfl ?_
                refine C.iconst (v := (-1)) dX11_scopesTold_98 (by decide) ?_
                refine C.icmp_ne (tgt := 106) dX11_scopesTold_99 (by decide) (fun c_99 => ?_) (fun c_99 => absurd c_99 (nI_neg (by have := w_w.1; omega)))
                refine C.iconst (v := 1) dX11_scopesTold_106 (by decide) ?_
                refine C.iload dX11_scopesTold_107 rfl ?_
                refine C.ishl dX11_scopesTold_109 ?_
                refine C.ior dX11_scopesTold_110 ?_
                rw [show bits ||| (1 <<< ((nI (fnd (T 2) (((fv g 3).drop st).take (i - st))) : Int32) &&& 31)) = bits ||| (1 <<< ((nI (fnd (T 2) (((fv g 3).drop st).take (i - st))) : Int32) &&& 31)) from rfl]
                refine C.istore_n (L' := [some (.ref (S 0)), some (.int x), some (.ref (S 34)), some (.int (bits ||| (1 <<< ((nI (fnd (T 2) (((fv g 3).drop st).take (i - st))) : Int32) &&& 31)))), some (.int (nI st)), some (.int (nI i)), some (.int (nI (fnd (T 2) (((fv g 3).drop st).take (i - st)))))]) dX11_scopesTold_111 (by decide) rfl rfl ?_
                refine C.iload dX11_scopesTold_112 rfl ?_
                refine C.iconst (v := 1) dX11_scopesTold_114 (by decide) ?_
                refine C.iadd dX11_scopesTold_115 ?_
                rw [show (nI i) + 1 = nI (i + 1) from nI_1 i]
                refine C.istore (L' := [some (.ref (S 0)), some (.int x), some (.ref (S 34)), some (.int (bits ||| (1 <<< ((nI (fnd (T 2) (((fv g 3).drop st).take (i - st))) : Int32) &&& 31)))), some (.int (nI (i + 1))), some (.int (nI i)), some (.int (nI (fnd (T 2) (((fv g 3).drop st).take (i - st)))))]) dX11_scopesTold_116 (by decide) rfl rfl ?_
                refine C.iinc (v := nI (i + 1)) (L' := [some (.ref (S 0)), some (.int x), some (.ref (S 34)), some (.int (bits ||| (1 <<< ((nI (fnd (T 2) (((fv g 3).drop st).take (i - st))) : Int32) &&& 31)))), some (.int (nI (i + 1))), some (.int (nI (i + 1))), some (.int (nI (fnd (T 2) (((fv g 3).drop st).take (i - st)))))]) dX11_scopesTold_118 rfl (nI_1 i) (by decide) rfl rfl ?_
                refine C.goto (tgt := 34) dX11_scopesTold_121 (by decide) ?_
                refine C.drop (i := 6) (L' := [some (.ref (S 0)), some (.int x), some (.ref (S 34)), some (.int (bits ||| (1 <<< ((nI (fnd (T 2) (((fv g 3).drop st).take (i - st))) : Int32) &&& 31)))), some (.int (nI (i + 1))), some (.int (nI (i + 1))), none]) rfl ?_
                exact ih_34 (i + 1) (i + 1) _ (by omega) (by omega) (by omega) (hz.trans (tk_go hs hin hns hh w_w.2.2 hk)) (fun j a b => absurd b (by omega)) (by omega)
              · rw [if_neg hk]
                refine C.istore (L' := [some (.ref (S 0)), some (.int x), some (.ref (S 34)), some (.int bits), some (.int (nI st)), some (.int (nI i)), some (.int (-1))]) dX11_scopesTold_78 (by decide) rfl rfl ?_
                refine C.iload dX11_scopesTold_80 rfl ?_
                refine C.iconst (v := (-1)) dX11_scopesTold_82 (by decide) ?_
                refine C.icmp_ne (tgt := 95) dX11_scopesTold_83 (by decide) (fun c_83 => absurd c_83 (fun z => z rfl)) (fun c_83 => ?_)
                refine C.iload dX11_scopesTold_86 rfl ?_
                refine C.iload dX11_scopesTold_88 rfl ?_
                refine C.icmp_le (tgt := 95) dX11_scopesTold_90 (by decide) (fun c_90 => ?_) (fun c_90 => ?_)
                · skip
                  refine C.iload_n dX11_scopesTold_95 rfl ?_
                  refine C.iload dX11_scopesTold_96 rfl ?_
                  refine C.iconst (v := (-1)) dX11_scopesTold_98 (by decide) ?_
                  refine C.icmp_ne (tgt := 106) dX11_scopesTold_99 (by decide) (fun c_99 => absurd c_99 (fun z => z rfl)) (fun c_99 => ?_)
                  refine C.iconst (v := 0) dX11_scopesTold_102 (by decide) ?_
                  refine C.goto (tgt := 110) dX11_scopesTold_103 (by decide) ?_
                  refine C.ior dX11_scopesTold_110 ?_
                  rw [show bits ||| 0 = bits from ior0 bits]
                  refine C.istore_n (L' := [some (.ref (S 0)), some (.int x), some (.ref (S 34)), some (.int bits), some (.int (nI st)), some (.int (nI i)), some (.int (-1))]) dX11_scopesTold_111 (by decide) rfl rfl ?_
                  refine C.iload dX11_scopesTold_112 rfl ?_
                  refine C.iconst (v := 1) dX11_scopesTold_114 (by decide) ?_
                  refine C.iadd dX11_scopesTold_115 ?_
                  rw [show (nI i) + 1 = nI (i + 1) from nI_1 i]
                  refine C.istore (L' := [some (.ref (S 0)), some (.int x), some (.ref (S 34)), some (.int bits), some (.int (nI (i + 1))), some (.int (nI i)), some (.int (-1))]) dX11_scopesTold_116 (by decide) rfl rfl ?_
                  refine C.iinc (v := nI (i + 1)) (L' := [some (.ref (S 0)), some (.int x), some (.ref (S 34)), some (.int bits), some (.int (nI (i + 1))), some (.int (nI (i + 1))), some (.int (-1))]) dX11_scopesTold_118 rfl (nI_1 i) (by decide) rfl rfl ?_
                  refine C.goto (tgt := 34) dX11_scopesTold_121 (by decide) ?_
                  refine C.drop (i := 6) (L' := [some (.ref (S 0)), some (.int x), some (.ref (S 34)), some (.int bits), some (.int (nI (i + 1))), some (.int (nI (i + 1))), none]) rfl ?_
                  exact ih_34 (i + 1) (i + 1) bits (by omega) (by omega) (by omega) (hz.trans (by have hq : i = st := (by have h9 := (nI_leI (by omega) (by omega)).mp c_90; omega); subst hq; exact tk_sk hin hh)) (fun j a b => absurd b (by omega)) (by omega)
                · skip
                  refine C.iconst (v := (-1)) dX11_scopesTold_93 (by decide) ?_
                  refine C.iret dX11_scopesTold_94 rfl ?_
                  refine ⟨congrArg (fun z => some (Value.int z)) ?_, rfl, rfl⟩
                  have hlt9 : st < i := Nat.lt_of_not_le fun q => c_90 ((nI_leI (by omega) (by omega)).mpr q)
                  rw [tld, if_pos h03, hz, tk_no hlt9 hin hns hh hk]; rfl
            · skip
              refine C.goto (tgt := 118) dX11_scopesTold_63 (by decide) ?_
              refine C.iinc (v := nI (i + 1)) (L' := [some (.ref (S 0)), some (.int x), some (.ref (S 34)), some (.int bits), some (.int (nI st)), some (.int (nI (i + 1))), none]) dX11_scopesTold_118 rfl (nI_1 i) (by decide) rfl rfl ?_
              refine C.goto (tgt := 34) dX11_scopesTold_121 (by decide) ?_
              exact ih_34 (i + 1) st bits (by omega) (by omega) (by omega) hz (fun j a b => (Decidable.em (j = i)).elim (fun q => by rw [q]; exact fun z => c_60 ((gD255 hbt lt_i).mpr z)) (fun q => hns j a (by omega))) (by omega)
    refine C.iconst (v := 0) dX11_scopesTold_26 (by decide) ?_
    refine C.istore_n (L' := [some (.ref (S 0)), some (.int x), some (.ref (S 34)), some (.int 0), none, none, none]) dX11_scopesTold_27 (by decide) rfl rfl ?_
    refine C.iconst (v := 0) dX11_scopesTold_28 (by decide) ?_
    refine C.istore (L' := [some (.ref (S 0)), some (.int x), some (.ref (S 34)), some (.int 0), some (.int 0), none, none]) dX11_scopesTold_29 (by decide) rfl rfl ?_
    refine C.iconst (v := 0) dX11_scopesTold_31 (by decide) ?_
    refine C.istore (L' := [some (.ref (S 0)), some (.int x), some (.ref (S 34)), some (.int 0), some (.int 0), some (.int 0), none]) dX11_scopesTold_32 (by decide) rfl rfl ?_
    exact cut_34 ((fv g 3).length + 2) 0 0 0 (by omega) (by omega) (by omega) rfl (fun j a b => absurd b (by omega)) (by omega)
  · skip
    have h03 : ¬ 0 < (fv g 3).length := of_decide_eq_false ((bI_eq0 _).mp c_10)
    refine C.iload_n dX11_scopesTold_13 rfl ?_
    refine C.iret dX11_scopesTold_14 rfl ?_
    exact ⟨congrArg (fun z => some (Value.int z)) (by rw [tld, if_neg h03]), rfl, rfl⟩

theorem k_faultOfRequest {Λ : kL} {S : Nat → Nat} {G : Nat → kc} {D : kh} (hS : cInj S) {A L : Nat → List Nat} {N : Nat → Int32} {B : Nat → List Int32} {T R : Nat → List (List Int32)} (hR : cR Λ S G D A L N B T R) (hW : wf N B T R) {g : fvs} (hG : cG Λ S G g) (hSt : kSt Λ) {c : Nat} (hc : c < (T 3).length) {x : Int32} (hx : x = tld (T 2) (fv g 3) (ro (T 5) c 1)) : cCt Λ mX11_faultOfRequest 0 0 S [.ref (S 0), .ref ((A 7).getD c 0), .int x] G D (fun r G' D' => r = some (.int (autE T g c)) ∧ G' = G ∧ D' = D) := by
  refine cCt.of hS pn_X11 [some (.ref (S 0)), some (.ref ((A 7).getD c 0)), some (.int x)] rfl (Nat.le_of_ble_eq_true rfl) fun X => ?_
  obtain ⟨p_a, p_b, p_n, p_k, p_f, p_h, p_w, p_c, p_r, p_q, p_o, p_m, p_t, p_d⟩ := hR
  obtain ⟨w_a, w_n, w_w, w_c, w_r, w_x, w_q, w_k, w_f, w_t, w_m, w_l⟩ := hW
  have p_a9 := p_a; obtain ⟨ft, a1, a2, a3, a4, a5, a6⟩ := p_a9
  have p_b9 := p_b; obtain ⟨fo9, b1, b2, b3, b4, b5, b6⟩ := p_b9
  have hf9_0 := hG.1.2.2.2.1; obtain ⟨to_0, bq_0, nq_0, fq_0, _, _⟩ := hf9_0
  have ht9_0 := hG.2.1; obtain ⟨bt_0, ff_0, gt_0, gr_0, _⟩ := ht9_0
  have hf9_3 := hG.1.2.2.2.2.2.2.1; obtain ⟨to_3, bq_3, nq_3, fq_3, _, _⟩ := hf9_3
  have ht9_3 := hG.2.2.2.2.1; obtain ⟨bt_3, ff_3, gt_3, gr_3, _⟩ := ht9_3
  have hf9_5 := hG.1.2.2.2.2.2.2.2.2.1; obtain ⟨to_5, bq_5, nq_5, fq_5, _, _⟩ := hf9_5
  have ht9_5 := hG.2.2.2.2.2.2.1; obtain ⟨bt_5, ff_5, gt_5, gr_5, _⟩ := ht9_5
  have hf9_6 := hG.1.2.2.2.2.2.2.2.2.2.1; obtain ⟨to_6, bq_6, nq_6, fq_6, _, _⟩ := hf9_6
  have ht9_6 := hG.2.2.2.2.2.2.2.1; obtain ⟨bt_6, ff_6, gt_6, gr_6, _⟩ := ht9_6
  obtain ⟨i9, s9, u1⟩ := (p_c.2.2.2 _ hc).cell
  refine C.aload_nR dX11_faultOfRequest_0 rfl ?_
  refine C.getS (k9 := 0) (fs := [.ref (S 1), .ref (S 2), .ref (S 3), .ref (S 4), .ref (S 5), .ref (S 6), .ref (S 7), .ref (S 8), .ref (S 9), .ref (S 10), .ref (S 11), .ref (S 12), .int (N 26), .int (N 27), .int (N 28), .int (N 25), .int (N 5), .int (N 6)]) dX11_faultOfRequest_1 fl_X11_24 rfl p_n rfl ?_
  refine C.getS (k9 := 3) (fs := [.ref (S 15), .ref (S 17), .ref (S 18), .ref (S 19), .ref (S 20), .ref (S 21), .ref (S 22), .ref (S 23), .ref (S 24), .ref (S 25), .ref (S 26), .ref (S 27), .ref (S 28), .ref (S 29), .ref (S 30), .ref (S 44)]) dX11_faultOfRequest_4 fl_X11_421 rfl p_k.1 rfl ?_
  refine C.callVS0 (k9 := 18) [] dX11_faultOfRequest_7 mdX3_isThere imX3_isThere seX3_isThere kc_4 rfl fq_0 lk_X11_285 rfl rfl rfl rfl (cCt.w0 (R := fun r => r = some (.int (bI (decide (0 < (fv g 0).length))))) fun σ9 h9 => c_Field_isThere (h9.at (k := 18) rfl fq_0) (h9.at (k := 31) rfl gt_0) (show (fv g 0).length ≤ 100000 from (show tV S G D (S 31) (fv g 0) from tS.v hG.2.1 (by decide) (by decide)).le)) ?_
  rintro _ G9 D9 ⟨rfl, e9, e8⟩
  have e9 := e9.symm; subst e9; have e8 := e8.symm; subst e8
  refine C.if_ne (tgt := 15) dX11_faultOfRequest_10 (by decide) (fun c_10 => ?_) (fun c_10 => ?_)
  · skip
    have h00 : 0 < (fv g 0).length := of_decide_eq_true (bt1 c_10)
    refine C.aload_nR dX11_faultOfRequest_15 rfl ?_
    refine C.getS (k9 := 0) (fs := [.ref (S 1), .ref (S 2), .ref (S 3), .ref (S 4), .ref (S 5), .ref (S 6), .ref (S 7), .ref (S 8), .ref (S 9), .ref (S 10), .ref (S 11), .ref (S 12), .int (N 26), .int (N 27), .int (N 28), .int (N 25), .int (N 5), .int (N 6)]) dX11_faultOfRequest_16 fl_X11_24 rfl p_n rfl ?_
    refine C.getS (k9 := 3) (fs := [.ref (S 15), .ref (S 17), .ref (S 18), .ref (S 19), .ref (S 20), .ref (S 21), .ref (S 22), .ref (S 23), .ref (S 24), .ref (S 25), .ref (S 26), .ref (S 27), .ref (S 28), .ref (S 29), .ref (S 30), .ref (S 44)]) dX11_faultOfRequest_19 fl_X11_421 rfl p_k.1 rfl ?_
    refine C.getS (k9 := 18) (fs := [.ref (kSa Λ RX4 28), .ref (S 31), .int (bI to_0)]) dX11_faultOfRequest_22 fl_X11_199 rfl fq_0 rfl ?_
    refine C.ldcwS dX11_faultOfRequest_25 sr_X11_424 ?_
    refine C.callVX0 [.ref (kSa Λ RX11 424)] dX11_faultOfRequest_28 mdX9_spells imX9_spells seX9_spells kc_10 (show tV S G D (S 31) (fv g 0) from tS.v hG.2.1 (by decide) (by decide)).ob lk_X11_297 rfl rfl rfl rfl (cCt.w0 (R := fun r => r = some (.int (bI (decide (fv g 0 = sb_code))))) fun σ9 h9 => v_spells ((show tV S G D (S 31) (fv g 0) from tS.v hG.2.1 (by decide) (by decide)).tx h9) (st_X11_424 hSt) sb_code_b) ?_
    rintro _ G9 D9 ⟨rfl, e9, e8⟩
    have e9 := e9.symm; subst e9; have e8 := e8.symm; subst e8
    refine C.if_ne (tgt := 36) dX11_faultOfRequest_31 (by decide) (fun c_31 => ?_) (fun c_31 => ?_)
    · skip
      have h01 : fv g 0 = sb_code := of_decide_eq_true (bt1 c_31)
      refine C.aload_nR dX11_faultOfRequest_36 rfl ?_
      refine C.getS (k9 := 0) (fs := [.ref (S 1), .ref (S 2), .ref (S 3), .ref (S 4), .ref (S 5), .ref (S 6), .ref (S 7), .ref (S 8), .ref (S 9), .ref (S 10), .ref (S 11), .ref (S 12), .int (N 26), .int (N 27), .int (N 28), .int (N 25), .int (N 5), .int (N 6)]) dX11_faultOfRequest_37 fl_X11_24 rfl p_n rfl ?_
      refine C.getS (k9 := 3) (fs := [.ref (S 15), .ref (S 17), .ref (S 18), .ref (S 19), .ref (S 20), .ref (S 21), .ref (S 22), .ref (S 23), .ref (S 24), .ref (S 25), .ref (S 26), .ref (S 27), .ref (S 28), .ref (S 29), .ref (S 30), .ref (S 44)]) dX11_faultOfRequest_40 fl_X11_230 rfl p_k.1 rfl ?_
      refine C.getS (k9 := 23) (fs := [.ref (kSa Λ RX4 55), .ref (S 36), .int (bI to_5)]) dX11_faultOfRequest_43 fl_X11_199 rfl fq_5 rfl ?_
      refine C.callS0 [.ref (S 36)] dX11_faultOfRequest_46 mdX11_isChallenge ssX11_isChallenge lk_X11_426 rfl rfl rfl rfl (k_isChallenge hS (show tV S G D (S 36) (fv g 5) from tS.v hG.2.2.2.2.2.2.1 (by decide) (by decide))) ?_
      rintro _ G9 D9 ⟨rfl, e9, e8⟩
      have e9 := e9.symm; subst e9; have e8 := e8.symm; subst e8
      refine C.if_eq (tgt := 71) dX11_faultOfRequest_49 (by decide) (fun c_49 => ?_) (fun c_49 => ?_)
      · skip
        refine C.iconst (v := 1) dX11_faultOfRequest_71 (by decide) ?_
        refine C.iret dX11_faultOfRequest_72 rfl ?_
        refine ⟨congrArg (fun z => some (Value.int z)) ?_, rfl, rfl⟩
        rw [autE, if_neg (fun q => q h00), if_neg (fun q => q h01), if_pos (show (decide ((fv g 5).length = 43) && (fv g 5).all chb && decide (fv g 6 = sb_S256)) = false from by first | (rw [(bI_eq0 _).mp c_49]; rfl) | (rw [(bI_eq0 _).mp c_68, Bool.and_false]))]
      · skip
        refine C.aload_nR dX11_faultOfRequest_52 rfl ?_
        refine C.getS (k9 := 0) (fs := [.ref (S 1), .ref (S 2), .ref (S 3), .ref (S 4), .ref (S 5), .ref (S 6), .ref (S 7), .ref (S 8), .ref (S 9), .ref (S 10), .ref (S 11), .ref (S 12), .int (N 26), .int (N 27), .int (N 28), .int (N 25), .int (N 5), .int (N 6)]) dX11_faultOfRequest_53 fl_X11_24 rfl p_n rfl ?_
        refine C.getS (k9 := 3) (fs := [.ref (S 15), .ref (S 17), .ref (S 18), .ref (S 19), .ref (S 20), .ref (S 21), .ref (S 22), .ref (S 23), .ref (S 24), .ref (S 25), .ref (S 26), .ref (S 27), .ref (S 28), .ref (S 29), .ref (S 30), .ref (S 44)]) dX11_faultOfRequest_56 fl_X11_429 rfl p_k.1 rfl ?_
        refine C.getS (k9 := 24) (fs := [.ref (kSa Λ RX4 60), .ref (S 37), .int (bI to_6)]) dX11_faultOfRequest_59 fl_X11_199 rfl fq_6 rfl ?_
        refine C.ldcwS dX11_faultOfRequest_62 sr_X11_432 ?_
        refine C.callVX0 [.ref (kSa Λ RX11 432)] dX11_faultOfRequest_65 mdX9_spells imX9_spells seX9_spells kc_10 (show tV S G D (S 37) (fv g 6) from tS.v hG.2.2.2.2.2.2.2.1 (by decide) (by decide)).ob lk_X11_297 rfl rfl rfl rfl (cCt.w0 (R := fun r => r = some (.int (bI (decide (fv g 6 = sb_S256))))) fun σ9 h9 => v_spells ((show tV S G D (S 37) (fv g 6) from tS.v hG.2.2.2.2.2.2.2.1 (by decide) (by decide)).tx h9) (st_X11_432 hSt) sb_S256_b) ?_
        rintro _ G9 D9 ⟨rfl, e9, e8⟩
        have e9 := e9.symm; subst e9; have e8 := e8.symm; subst e8
        refine C.if_ne (tgt := 73) dX11_faultOfRequest_68 (by decide) (fun c_68 => ?_) (fun c_68 => ?_)
        · skip
          have h02 : ¬ (decide ((fv g 5).length = 43) && (fv g 5).all chb && decide (fv g 6 = sb_S256)) = false := by rw [bt1 c_49, bt1 c_68]; decide
          refine C.iload_n dX11_faultOfRequest_73 rfl ?_
          refine C.iconst (v := (-1)) dX11_faultOfRequest_74 (by decide) ?_
          refine C.icmp_eq (tgt := 89) dX11_faultOfRequest_75 (by decide) (fun c_75 => ?_) (fun c_75 => ?_)
          · skip
            refine C.iconst (v := 5) dX11_faultOfRequest_89 (by decide) ?_
            refine C.iret dX11_faultOfRequest_90 rfl ?_
            refine ⟨congrArg (fun z => some (Value.int z)) ?_, rfl, rfl⟩
            rw [autE, if_neg (fun q => q h00), if_neg (fun q => q h01), if_neg h02, if_pos ((ask_neg w_w.1 (w_c.2.2.2.2.2.2.2.2 c hc).2).mpr (by rw [← hx]; first | exact Or.inl (Or.inl c_75) | exact Or.inl (Or.inr (fun q => Bool.false_ne_true (((bI_eq0 _).mp c_86).symm.trans q))) | exact Or.inr ⟨of_decide_eq_false ((bI_eq0 _).mp c_101), c_108⟩))]
          · skip
            refine C.iload_n dX11_faultOfRequest_78 rfl ?_
            refine C.aload_nR dX11_faultOfRequest_79 rfl ?_
            refine C.getD dX11_faultOfRequest_80 fl_X11_211 u1 rfl ?_
            refine C.callS0 [.int x, .int (ro (T 5) c 1)] dX11_faultOfRequest_83 mdX11_isWithin ssX11_isWithin lk_X11_254 rfl rfl rfl rfl (cCt.w0 (R := fun r => r = some (.int (bI (wthn x (ro (T 5) c 1))))) fun σ9 h9 => c_isWithin _ _) ?_
            rintro _ G9 D9 ⟨rfl, e9, e8⟩
            have e9 := e9.symm; subst e9; have e8 := e8.symm; subst e8
            refine C.if_ne (tgt := 91) dX11_faultOfRequest_86 (by decide) (fun c_86 => ?_) (fun c_86 => ?_)
            · skip
              refine C.aload_nR dX11_faultOfRequest_91 rfl ?_
              refine C.getS (k9 := 0) (fs := [.ref (S 1), .ref (S 2), .ref (S 3), .ref (S 4), .ref (S 5), .ref (S 6), .ref (S 7), .ref (S 8), .ref (S 9), .ref (S 10), .ref (S 11), .ref (S 12), .int (N 26), .int (N 27), .int (N 28), .int (N 25), .int (N 5), .int (N 6)]) dX11_faultOfRequest_92 fl_X11_24 rfl p_n rfl ?_
              refine C.getS (k9 := 3) (fs := [.ref (S 15), .ref (S 17), .ref (S 18), .ref (S 19), .ref (S 20), .ref (S 21), .ref (S 22), .ref (S 23), .ref (S 24), .ref (S 25), .ref (S 26), .ref (S 27), .ref (S 28), .ref (S 29), .ref (S 30), .ref (S 44)]) dX11_faultOfRequest_95 fl_X11_401 rfl p_k.1 rfl ?_
              refine C.callVS0 (k9 := 21) [] dX11_faultOfRequest_98 mdX3_isThere imX3_isThere seX3_isThere kc_4 rfl fq_3 lk_X11_285 rfl rfl rfl rfl (cCt.w0 (R := fun r => r = some (.int (bI (decide (0 < (fv g 3).length))))) fun σ9 h9 => c_Field_isThere (h9.at (k := 21) rfl fq_3) (h9.at (k := 34) rfl gt_3) (show (fv g 3).length ≤ 100000 from (show tV S G D (S 34) (fv g 3) from tS.v hG.2.2.2.2.1 (by decide) (by decide)).le)) ?_
              rintro _ G9 D9 ⟨rfl, e9, e8⟩
              have e9 := e9.symm; subst e9; have e8 := e8.symm; subst e8
              refine C.if_ne (tgt := 113) dX11_faultOfRequest_101 (by decide) (fun c_101 => ?_) (fun c_101 => ?_)
              · skip
                refine C.aload_nR dX11_faultOfRequest_113 rfl ?_
                refine C.getS (k9 := 0) (fs := [.ref (S 1), .ref (S 2), .ref (S 3), .ref (S 4), .ref (S 5), .ref (S 6), .ref (S 7), .ref (S 8), .ref (S 9), .ref (S 10), .ref (S 11), .ref (S 12), .int (N 26), .int (N 27), .int (N 28), .int (N 25), .int (N 5), .int (N 6)]) dX11_faultOfRequest_114 fl_X11_52 rfl p_n rfl ?_
                refine C.callLS0 (k9 := 8) [] dX11_faultOfRequest_117 mdJx4a65c_size_8abf5 imJx4a65c_size_8abf5 seJx4a65c_size_8abf5 rfl p_q.1 lk_X11_123 rfl rfl rfl rfl (cCt.w0 (R := fun r => r = some (.int (nI (rv (A 8)).length))) fun σ9 h9 => c_list_size (h9.at (k := 8) rfl p_q.1)) ?_
                rintro _ G9 D9 ⟨rfl, e9, e8⟩
                have e9 := e9.symm; subst e9; have e8 := e8.symm; subst e8
                refine C.sipush (v := 200) dX11_faultOfRequest_120 (by decide) ?_
                refine C.icmp_lt (tgt := 131) dX11_faultOfRequest_123 (by decide) (fun c_123 => ?_) (fun c_123 => ?_)
                · skip
                  refine C.iconst (v := 0) dX11_faultOfRequest_131 (by decide) ?_
                  refine C.iret dX11_faultOfRequest_132 rfl ?_
                  refine ⟨congrArg (fun z => some (Value.int z)) ?_, rfl, rfl⟩
                  have hna : ¬ askS (T 2) (fv g 3) (ro (T 5) c 1) < 0 := fun q => by
                    have h9 := (ask_neg w_w.1 (w_c.2.2.2.2.2.2.2.2 c hc).2).mp q
                    rw [← hx] at h9
                    rcases h9 with (h9 | h9) | h9
                    · exact c_75 h9
                    · exact h9 (bt1 c_86)
                    · first | exact h9.1 (of_decide_eq_true (bt1 c_101)) | exact c_108 h9.2
                  rw [autE, if_neg (fun q => q h00), if_neg (fun q => q h01), if_neg h02, if_neg hna, if_neg (by have h9 := c_123; rw [rv_len, p_q.2.1] at h9; have := (nI_ltI (b := 200) (by have := w_q.1; omega) (by decide)).mp h9; omega)]
                · skip
                  refine C.bipush (v := 11) dX11_faultOfRequest_126 (by decide) ?_
                  refine C.goto (tgt := 132) dX11_faultOfRequest_128 (by decide) ?_
                  refine C.iret dX11_faultOfRequest_132 rfl ?_
                  refine ⟨congrArg (fun z => some (Value.int z)) ?_, rfl, rfl⟩
                  have hna : ¬ askS (T 2) (fv g 3) (ro (T 5) c 1) < 0 := fun q => by
                    have h9 := (ask_neg w_w.1 (w_c.2.2.2.2.2.2.2.2 c hc).2).mp q
                    rw [← hx] at h9
                    rcases h9 with (h9 | h9) | h9
                    · exact c_75 h9
                    · exact h9 (bt1 c_86)
                    · first | exact h9.1 (of_decide_eq_true (bt1 c_101)) | exact c_108 h9.2
                  rw [autE, if_neg (fun q => q h00), if_neg (fun q => q h01), if_neg h02, if_neg hna, if_pos (by have h9 := c_123; rw [rv_len, p_q.2.1] at h9; have := Nat.le_of_not_lt fun z => h9 ((nI_ltI (b := 200) (by have := w_q.1; omega) (by decide)).mpr z); have := w_q.1; omega)]
              · skip
                refine C.aload_nR dX11_faultOfRequest_104 rfl ?_
                refine C.getD dX11_faultOfRequest_105 fl_X11_211 u1 rfl ?_
                refine C.if_ne (tgt := 113) dX11_faultOfRequest_108 (by decide) (fun c_108 => ?_) (fun c_108 => ?_)
                · skip
                  refine C.aload_nR dX11_faultOfRequest_113 rfl ?_
                  refine C.getS (k9 := 0) (fs := [.ref (S 1), .ref (S 2), .ref (S 3), .ref (S 4), .ref (S 5), .ref (S 6), .ref (S 7), .ref (S 8), .ref (S 9), .ref (S 10), .ref (S 11), .ref (S 12), .int (N 26), .int (N 27), .int (N 28), .int (N 25), .int (N 5), .int (N 6)]) dX11_faultOfRequest_114 fl_X11_52 rfl p_n rfl ?_
                  refine C.callLS0 (k9 := 8) [] dX11_faultOfRequest_117 mdJx4a65c_size_8abf5 imJx4a65c_size_8abf5 seJx4a65c_size_8abf5 rfl p_q.1 lk_X11_123 rfl rfl rfl rfl (cCt.w0 (R := fun r => r = some (.int (nI (rv (A 8)).length))) fun σ9 h9 => c_list_size (h9.at (k := 8) rfl p_q.1)) ?_
                  rintro _ G9 D9 ⟨rfl, e9, e8⟩
                  have e9 := e9.symm; subst e9; have e8 := e8.symm; subst e8
                  refine C.sipush (v := 200) dX11_faultOfRequest_120 (by decide) ?_
                  refine C.icmp_lt (tgt := 131) dX11_faultOfRequest_123 (by decide) (fun c_123 => ?_) (fun c_123 => ?_)
                  · skip
                    refine C.iconst (v := 0) dX11_faultOfRequest_131 (by decide) ?_
                    refine C.iret dX11_faultOfRequest_132 rfl ?_
                    refine ⟨congrArg (fun z => some (Value.int z)) ?_, rfl, rfl⟩
                    have hna : ¬ askS (T 2) (fv g 3) (ro (T 5) c 1) < 0 := fun q => by
                      have h9 := (ask_neg w_w.1 (w_c.2.2.2.2.2.2.2.2 c hc).2).mp q
                      rw [← hx] at h9
                      rcases h9 with (h9 | h9) | h9
                      · exact c_75 h9
                      · exact h9 (bt1 c_86)
                      · first | exact h9.1 (of_decide_eq_true (bt1 c_101)) | exact c_108 h9.2
                    rw [autE, if_neg (fun q => q h00), if_neg (fun q => q h01), if_neg h02, if_neg hna, if_neg (by have h9 := c_123; rw [rv_len, p_q.2.1] at h9; have := (nI_ltI (b := 200) (by have := w_q.1; omega) (by decide)).mp h9; omega)]
                  · skip
                    refine C.bipush (v := 11) dX11_faultOfRequest_126 (by decide) ?_
                    refine C.goto (tgt := 132) dX11_faultOfRequest_128 (by decide) ?_
                    refine C.iret dX11_faultOfRequest_132 rfl ?_
                    refine ⟨congrArg (fun z => some (Value.int z)) ?_, rfl, rfl⟩
                    have hna : ¬ askS (T 2) (fv g 3) (ro (T 5) c 1) < 0 := fun q => by
                      have h9 := (ask_neg w_w.1 (w_c.2.2.2.2.2.2.2.2 c hc).2).mp q
                      rw [← hx] at h9
                      rcases h9 with (h9 | h9) | h9
                      · exact c_75 h9
                      · exact h9 (bt1 c_86)
                      · first | exact h9.1 (of_decide_eq_true (bt1 c_101)) | exact c_108 h9.2
                    rw [autE, if_neg (fun q => q h00), if_neg (fun q => q h01), if_neg h02, if_neg hna, if_pos (by have h9 := c_123; rw [rv_len, p_q.2.1] at h9; have := Nat.le_of_not_lt fun z => h9 ((nI_ltI (b := 200) (by have := w_q.1; omega) (by decide)).mpr z); have := w_q.1; omega)]
                · skip
                  refine C.iconst (v := 5) dX11_faultOfRequest_111 (by decide) ?_
                  refine C.iret dX11_faultOfRequest_112 rfl ?_
                  refine ⟨congrArg (fun z => some (Value.int z)) ?_, rfl, rfl⟩
                  rw [autE, if_neg (fun q => q h00), if_neg (fun q => q h01), if_neg h02, if_pos ((ask_neg w_w.1 (w_c.2.2.2.2.2.2.2.2 c hc).2).mpr (by rw [← hx]; first | exact Or.inl (Or.inl c_75) | exact Or.inl (Or.inr (fun q => Bool.false_ne_true (((bI_eq0 _).mp c_86).symm.trans q))) | exact Or.inr ⟨of_decide_eq_false ((bI_eq0 _).mp c_101), c_108⟩))]
            · skip
              refine C.iconst (v := 5) dX11_faultOfRequest_89 (by decide) ?_
              refine C.iret dX11_faultOfRequest_90 rfl ?_
              refine ⟨congrArg (fun z => some (Value.int z)) ?_, rfl, rfl⟩
              rw [autE, if_neg (fun q => q h00), if_neg (fun q => q h01), if_neg h02, if_pos ((ask_neg w_w.1 (w_c.2.2.2.2.2.2.2.2 c hc).2).mpr (by rw [← hx]; first | exact Or.inl (Or.inl c_75) | exact Or.inl (Or.inr (fun q => Bool.false_ne_true (((bI_eq0 _).mp c_86).symm.trans q))) | exact Or.inr ⟨of_decide_eq_false ((bI_eq0 _).mp c_101), c_108⟩))]
        · skip
          refine C.iconst (v := 1) dX11_faultOfRequest_71 (by decide) ?_
          refine C.iret dX11_faultOfRequest_72 rfl ?_
          refine ⟨congrArg (fun z => some (Value.int z)) ?_, rfl, rfl⟩
          rw [autE, if_neg (fun q => q h00), if_neg (fun q => q h01), if_pos (show (decide ((fv g 5).length = 43) && (fv g 5).all chb && decide (fv g 6 = sb_S256)) = false from by first | (rw [(bI_eq0 _).mp c_49]; rfl) | (rw [(bI_eq0 _).mp c_68, Bool.and_false]))]
    · skip
      have h01 : ¬ fv g 0 = sb_code := of_decide_eq_false ((bI_eq0 _).mp c_31)
      refine C.iconst (v := 4) dX11_faultOfRequest_34 (by decide) ?_
      refine C.iret dX11_faultOfRequest_35 rfl ?_
      refine ⟨congrArg (fun z => some (Value.int z)) ?_, rfl, rfl⟩
      rw [autE, if_neg (fun q => q h00), if_pos h01]
  · skip
    have h00 : ¬ 0 < (fv g 0).length := of_decide_eq_false ((bI_eq0 _).mp c_10)
    refine C.iconst (v := 1) dX11_faultOfRequest_13 (by decide) ?_
    refine C.iret dX11_faultOfRequest_14 rfl ?_
    refine ⟨congrArg (fun z => some (Value.int z)) ?_, rfl, rfl⟩
    rw [autE, if_pos h00]
