/-! the class: tokens and FAMILIES -/
theorem nd.ne {l : List Nat} (h : nd l) {i j : Nat} (hi : i < l.length) (hj : j < l.length) (hn : i ≠ j) : l.getD i 0 ≠ l.getD j 0 := fun e => hn (h i j hi hj e)
theorem stc_ro {C : List (List Int32)} {n c : Nat} {x : Int32} (hn : n < C.length) (hc : c < (C.getD n []).length) : ro (stc C n c x) n c = x := by rw [ro_stc, if_pos ⟨rfl, hn, rfl, hc⟩]
theorem rn_ne {C : List (List Int32)} {n c m d : Nat} {x : Int32} (h : c ≠ d ∨ n ≠ m) : rn (stc C n c x) m d = rn C m d := by rw [rn, ro_ne h, rn]
theorem cFm_back {D : kh} {l : List Nat} {F : List (List Int32)} (h : cFm D l F) (hl : rl F 5) {f : Nat} (hf : f < F.length) : cFm (kup D (l.getD f 0) (oFa (nI f) (ro F f 0) (ro F f 1) (ro F f 2) true (ro F f 3))) l (stc F f 4 1) := by
  refine ⟨by rw [stc_len]; exact h.1, h.2.1, fun n hn => ?_⟩
  rw [stc_len] at hn
  by_cases e : n = f
  · subst e
    rw [kup_s, stc_ro (c := 4) hn (by rw [hl n hn]; decide), ro_ne (Or.inl (by decide)), ro_ne (Or.inl (by decide)), ro_ne (Or.inl (by decide)), ro_ne (Or.inl (by decide))]
    rfl
  · rw [ro_ne (Or.inr (fun q => e q.symm)), ro_ne (Or.inr (fun q => e q.symm)), ro_ne (Or.inr (fun q => e q.symm)), ro_ne (Or.inr (fun q => e q.symm)), ro_ne (Or.inr (fun q => e q.symm))]
    exact kup_i (h.2.1.ne (by rw [h.1]; exact hn) (by rw [h.1]; exact hf) e) (h.2.2 n hn)
theorem cFm_turn {D : kh} {l : List Nat} {F : List (List Int32)} (h : cFm D l F) (hl : rl F 5) {f : Nat} (hf : f < F.length) (x : Int32) : cFm (kup D (l.getD f 0) (oFa (nI f) (ro F f 0) (ro F f 1) (ro F f 2) (decide (ro F f 4 = 1)) x)) l (stc F f 3 x) := by
  refine ⟨by rw [stc_len]; exact h.1, h.2.1, fun n hn => ?_⟩
  rw [stc_len] at hn
  by_cases e : n = f
  · subst e
    rw [kup_s, ro_ne (Or.inl (by decide)), ro_ne (Or.inl (by decide)), ro_ne (Or.inl (by decide)), ro_ne (Or.inl (by decide)), stc_ro hn (by rw [hl n hn]; decide)]
  · rw [ro_ne (Or.inr (fun q => e q.symm)), ro_ne (Or.inr (fun q => e q.symm)), ro_ne (Or.inr (fun q => e q.symm)), ro_ne (Or.inr (fun q => e q.symm)), ro_ne (Or.inr (fun q => e q.symm))]
    exact kup_i (h.2.1.ne (by rw [h.1]; exact hn) (by rw [h.1]; exact hf) e) (h.2.2 n hn)
theorem cFm_app {D D' : kh} {l : List Nat} {F : List (List Int32)} (h : cFm D l F) (hd : ∀ a c, D a = some c → D' a = some c) {q : Nat} {a b c : Int32} (hq : ∀ a c, D a = some c → a < q) (hn : D' q = some (oFa (nI F.length) a b c false 0)) : cFm D' (l ++ [q]) (F ++ [[a, b, c, 0, 0]]) := by
  refine ⟨by rw [List.length_append, List.length_append, h.1]; rfl, h.2.1.app fun i hi => Nat.ne_of_lt (hq _ _ (h.2.2 i (by rw [← h.1]; exact hi))), fun n hn2 => ?_⟩
  rw [List.length_append, List.length_singleton] at hn2
  by_cases e : n = F.length
  · rw [e, ro_appr rfl, ro_appr rfl, ro_appr rfl, ro_appr rfl, ro_appr rfl, ← h.1, gN_appr, h.1]
    exact hn
  · rw [ro_appl (by omega), ro_appl (by omega), ro_appl (by omega), ro_appl (by omega), ro_appl (by omega), gN_appl (by rw [h.1]; omega)]
    exact hd _ _ (h.2.2 n (by omega))
theorem cFm_el {D : kh} {l : List Nat} {F : List (List Int32)} (h : cFm D l F) : kEl D 3 (rv l) := el_of fun k hk => ⟨_, h.2.2 k (by rw [← h.1]; exact hk)⟩
theorem cTo_elE {D : kh} {la lr lf : List Nat} {E G : List (List Int32)} (h : cTo D la lr lf E G) : kEl D 11 (rv la) := el_of fun k hk => ⟨_, h.2.2.2.2.2.1 k (by rw [← h.1]; exact hk)⟩
theorem cTo_elG {D : kh} {la lr lf : List Nat} {E G : List (List Int32)} (h : cTo D la lr lf E G) : kEl D 11 (rv lr) := el_of fun k hk => by
  obtain ⟨sc, h9⟩ := h.2.2.2.2.2.2 k (by rw [← h.2.1]; exact hk)
  exact ⟨_, h9⟩
theorem cTo_rvk {D : kh} {la lr lf : List Nat} {E G : List (List Int32)} (h : cTo D la lr lf E G) (hl : rl E 5) {k : Nat} (hk : k < E.length) : cTo (kup D (la.getD k 0) (oTo (lf.getD (rn E k 1) 0) (ro E k 2) (ro E k 3) true)) la lr lf (stc E k 4 1) G := by
  obtain ⟨h1, h2, h3, h4, h5, h6, h7⟩ := h
  refine ⟨by rw [stc_len]; exact h1, h2, h3, h4, h5, fun n hn => ?_, fun n hn => ?_⟩
  · rw [stc_len] at hn
    by_cases e : n = k
    · subst e
      rw [kup_s, rn_ne (Or.inl (by decide)), ro_ne (Or.inl (by decide)), ro_ne (Or.inl (by decide)), stc_ro hn (by rw [hl n hn]; decide)]
      rfl
    · rw [rn_ne (Or.inr (fun q => e q.symm)), ro_ne (Or.inr (fun q => e q.symm)), ro_ne (Or.inr (fun q => e q.symm)), ro_ne (Or.inr (fun q => e q.symm))]
      exact kup_i (h3.ne (by rw [h1]; exact hn) (by rw [h1]; exact hk) e) (h6 n hn)
  · obtain ⟨sc, h8⟩ := h7 n hn
    exact ⟨sc, kup_i (fun q => h5 k n (by rw [h1]; exact hk) (by rw [h2]; exact hn) q.symm) h8⟩
theorem cTo_spent {D : kh} {la lr lf : List Nat} {E G : List (List Int32)} (h : cTo D la lr lf E G) (hl : rl G 4) {k : Nat} (hk : k < G.length) {sc : Int32} : cTo (kup D (lr.getD k 0) (oTo (lf.getD (rn G k 1) 0) sc (ro G k 2) true)) la lr lf E (stc G k 3 1) := by
  obtain ⟨h1, h2, h3, h4, h5, h6, h7⟩ := h
  refine ⟨h1, by rw [stc_len]; exact h2, h3, h4, h5, fun n hn => ?_, fun n hn => ?_⟩
  · exact kup_i (h5 n k (by rw [h1]; exact hn) (by rw [h2]; exact hk)) (h6 n hn)
  · rw [stc_len] at hn
    by_cases e : n = k
    · subst e
      refine ⟨sc, ?_⟩
      rw [kup_s, rn_ne (Or.inl (by decide)), ro_ne (Or.inl (by decide)), stc_ro hn (by rw [hl n hn]; decide)]
      rfl
    · obtain ⟨sc', h8⟩ := h7 n hn
      refine ⟨sc', ?_⟩
      rw [rn_ne (Or.inr (fun q => e q.symm)), ro_ne (Or.inr (fun q => e q.symm)), ro_ne (Or.inr (fun q => e q.symm))]
      exact kup_i (h4.ne (by rw [h2]; exact hn) (by rw [h2]; exact hk) e) h8
theorem cTo_addE {D D' : kh} {la lr lf : List Nat} {E G : List (List Int32)} (h : cTo D la lr lf E G) (hd : ∀ a c, D a = some c → D' a = some c) {q f : Nat} {hh x en : Int32} (hq : ∀ a c, D a = some c → a < q) (hf : f < 2 ^ 31) (hn : D' q = some (oTo (lf.getD f 0) x en false)) : cTo D' (la ++ [q]) lr lf (E ++ [[hh, nI f, x, en, 0]]) G := by
  obtain ⟨h1, h2, h3, h4, h5, h6, h7⟩ := h
  refine ⟨by rw [List.length_append, List.length_append, h1]; rfl, h2, h3.app fun i hi => Nat.ne_of_lt (hq _ _ (h6 i (by rw [← h1]; exact hi))), h4, fun i j hi hj e => ?_, fun n hn2 => ?_, fun n hn2 => ?_⟩
  · rw [List.length_append, List.length_singleton] at hi
    by_cases e2 : i = la.length
    · rw [e2, gN_appr] at e
      obtain ⟨sc, h8⟩ := h7 j (by rw [← h2]; exact hj)
      exact absurd e.symm (Nat.ne_of_lt (hq _ _ h8))
    · rw [gN_appl (by omega)] at e
      exact h5 i j (by omega) hj e
  · rw [List.length_append, List.length_singleton] at hn2
    by_cases e : n = E.length
    · rw [e, rn_appr (j := f) rfl hf, ro_appr rfl, ro_appr rfl, ro_appr rfl, ← h1, gN_appr]
      exact hn
    · rw [rn_appl (by omega), ro_appl (by omega), ro_appl (by omega), ro_appl (by omega), gN_appl (by rw [h1]; omega)]
      exact hd _ _ (h6 n (by omega))
  · obtain ⟨sc, h8⟩ := h7 n hn2
    exact ⟨sc, hd _ _ h8⟩
theorem cTo_addG {D D' : kh} {la lr lf : List Nat} {E G : List (List Int32)} (h : cTo D la lr lf E G) (hd : ∀ a c, D a = some c → D' a = some c) {q f : Nat} {hh x en : Int32} (hq : ∀ a c, D a = some c → a < q) (hf : f < 2 ^ 31) (hn : D' q = some (oTo (lf.getD f 0) x en false)) : cTo D' la (lr ++ [q]) lf E (G ++ [[hh, nI f, en, 0]]) := by
  obtain ⟨h1, h2, h3, h4, h5, h6, h7⟩ := h
  refine ⟨h1, by rw [List.length_append, List.length_append, h2]; rfl, h3, h4.app fun i hi => ?_, fun i j hi hj e => ?_, fun n hn2 => hd _ _ (h6 n hn2), fun n hn2 => ?_⟩
  · obtain ⟨sc, h8⟩ := h7 i (by rw [← h2]; exact hi)
    exact Nat.ne_of_lt (hq _ _ h8)
  · rw [List.length_append, List.length_singleton] at hj
    by_cases e2 : j = lr.length
    · rw [e2, gN_appr] at e
      exact absurd e (Nat.ne_of_lt (hq _ _ (h6 i (by rw [← h1]; exact hi))))
    · rw [gN_appl (by omega)] at e
      exact h5 i j hi (by omega) e
  · rw [List.length_append, List.length_singleton] at hn2
    by_cases e : n = G.length
    · refine ⟨x, ?_⟩
      rw [e, rn_appr (j := f) rfl hf, ro_appr rfl, ro_appr rfl, ← h2, gN_appr]
      exact hn
    · obtain ⟨sc, h8⟩ := h7 n (by omega)
      refine ⟨sc, ?_⟩
      rw [rn_appl (by omega), ro_appl (by omega), ro_appl (by omega), gN_appl (by rw [h2]; omega)]
      exact hd _ _ h8
theorem cTo_lf {D : kh} {la lr lf : List Nat} {E G : List (List Int32)} (h : cTo D la lr lf E G) (hE : ∀ n, n < E.length → rn E n 1 < lf.length) (hG : ∀ n, n < G.length → rn G n 1 < lf.length) (q : Nat) : cTo D la lr (lf ++ [q]) E G := by
  obtain ⟨h1, h2, h3, h4, h5, h6, h7⟩ := h
  refine ⟨h1, h2, h3, h4, h5, fun n hn => by rw [gN_appl (hE n hn)]; exact h6 n hn, fun n hn => ?_⟩
  obtain ⟨sc, h8⟩ := h7 n hn
  exact ⟨sc, by rw [gN_appl (hG n hn)]; exact h8⟩
theorem famRef_lf {lf : List Nat} {K : List (List Int32)} {n q : Nat} (h : ro K n 5 < 0 ∨ rn K n 5 < lf.length) : famRef (lf ++ [q]) K n = famRef lf K n := by
  rw [famRef, famRef]
  by_cases h2 : ro K n 5 < 0
  · rw [if_pos h2, if_pos h2]
  · rw [if_neg h2, if_neg h2, gN_appl (h.resolve_left h2)]
theorem cCo_fam {D : kh} {l lq lf : List Nat} {K : List (List Int32)} (h : cCo D l lq lf K) (hl : rl K 6) {k q : Nat} (hk : k < K.length) (hK : ∀ n, n < K.length → ro K n 5 < 0 ∨ rn K n 5 < lf.length) (hb : lf.length < 2 ^ 31) : cCo (kup D (l.getD k 0) (oCo (lq.getD (rn K k 1) 0) (ro K k 2) (ro K k 3) (ro K k 4) (.ref q))) l lq (lf ++ [q]) (stc K k 5 (nI lf.length)) := by
  refine ⟨by rw [stc_len]; exact h.1, h.2.1, fun n hn => ?_⟩
  rw [stc_len] at hn
  by_cases e : n = k
  · subst e
    rw [kup_s, rn_ne (Or.inl (by decide)), ro_ne (Or.inl (by decide)), ro_ne (Or.inl (by decide)), ro_ne (Or.inl (by decide))]
    have e5 : ro (stc K n 5 (nI lf.length)) n 5 = nI lf.length := stc_ro hn (by rw [hl n hn]; decide)
    have e6 : rn (stc K n 5 (nI lf.length)) n 5 = lf.length := by rw [rn, e5, nI_clamp hb]
    rw [famRef, e5, if_neg (nI_pos hb), e6, gN_appr]
  · have e5 : famRef (lf ++ [q]) (stc K k 5 (nI lf.length)) n = famRef lf K n := by
      rw [← famRef_lf (q := q) (hK n hn), famRef, famRef, rn_ne (Or.inr (fun z => e z.symm)), ro_ne (Or.inr (fun z => e z.symm))]
    rw [e5, rn_ne (Or.inr (fun z => e z.symm)), ro_ne (Or.inr (fun z => e z.symm)), ro_ne (Or.inr (fun z => e z.symm)), ro_ne (Or.inr (fun z => e z.symm))]
    exact kup_i (h.2.1.ne (by rw [h.1]; exact hn) (by rw [h.1]; exact hk) e) (h.2.2 n hn)

theorem k_addScopeWords {Λ : kL} {S : Nat → Nat} {G : Nat → kc} {D : kh} (hS : cInj S) {N : Nat → Int32} {v : List Int32} (hP : G 0 = oGs S N) (hO : tO S G 2 14 6200 v) {l : List Nat} (h6 : G 6 = kLi (rv l)) {W : List (List Int32)} (hw : txs D l W) (hW8 : W.length ≤ 8) (h12 : ft W 1 12) (hl : v.length + 104 ≤ 6200) (x : Int32) : cCt Λ mX11_addScopeWords 0 0 S [.ref (S 0), .int x] G D (apQ S G D 2 14 6200 (v ++ scw W x W.length)) := by
  refine cCt.of hS pn_X11 [some (.ref (S 0)), some (.int x), none, none] rfl (Nat.le_of_ble_eq_true rfl) fun X => ?_
  have hO9 := hO; obtain ⟨fo9, b1, b2, b3, b4, b5, b6⟩ := hO9
  refine C.iconst (v := 1) dX11_addScopeWords_0 (by decide) ?_
  refine C.istore_n (L' := [some (.ref (S 0)), some (.int x), some (.int 1), none]) dX11_addScopeWords_1 (by decide) rfl rfl ?_
  refine C.iconst (v := 0) dX11_addScopeWords_2 (by decide) ?_
  refine C.istore_n (L' := [some (.ref (S 0)), some (.int x), some (.int 1), some (.int 0)]) dX11_addScopeWords_3 (by decide) rfl rfl ?_
  have cut_4 : ∀ (k_4 : Nat) (i : Nat) (f : Nat → Int32), (i ≤ W.length) → (W.length + 1 ≤ i + k_4) → (tl f 0 (v ++ scw W x i).length = (v ++ scw W x i)) → (bts (v ++ scw W x i)) → C Λ X mX11_addScopeWords 0 0 S (apQ S G D 2 14 6200 (v ++ scw W x W.length)) 0 0 (gW S G 2 14 6200 f (v ++ scw W x i).length) D 4 [some (.ref (S 0)), some (.int x), some (.int (bI (alln (fun j => !sbt x j) i))), some (.int (nI i))] [] := by
    intro k_4
    induction k_4 with
    | zero => intro i f h1 h2 hf hb; exact absurd h2 (by omega)
    | succ k_4 ih_4 =>
      intro i f h1 h2 hf hb
      have hsl := scw_len (T := W) (fun k hk => (h12 k hk).2.1) x i h1
      refine C.iload_n dX11_addScopeWords_4 rfl ?_
      refine C.aload_nR dX11_addScopeWords_5 rfl ?_
      refine C.getS (k9 := 0) (fs := [.ref (S 1), .ref (S 2), .ref (S 3), .ref (S 4), .ref (S 5), .ref (S 6), .ref (S 7), .ref (S 8), .ref (S 9), .ref (S 10), .ref (S 11), .ref (S 12), .int (N 26), .int (N 27), .int (N 28), .int (N 25), .int (N 5), .int (N 6)]) dX11_addScopeWords_6 fl_X11_45 rfl hP rfl ?_
      refine C.callLS0 (k9 := 6) [] dX11_addScopeWords_9 mdJx4a65c_size_8abf5 imJx4a65c_size_8abf5 seJx4a65c_size_8abf5 rfl h6 lk_X11_123 rfl rfl rfl rfl (cCt.w0 (R := fun r => r = some (.int (nI (rv l).length))) fun σ9 h9 => c_list_size (h9.at (k := 6) rfl h6)) ?_
      rintro _ G9 D9 ⟨rfl, e9, e8⟩
      have e9 := e9.symm; subst e9; have e8 := e8.symm; subst e8
      refine C.icmp_ge (tgt := 79) dX11_addScopeWords_12 (by decide) (fun c_12 => ?_) (fun c_12 => ?_)
      · skip
        have ei : i = W.length := by have h9 := c_12; rw [rv_len, hw.1] at h9; exact nI_gen h9 h1 (by omega)
        refine C.vret dX11_addScopeWords_79 rfl ?_
        subst ei
        exact ⟨f, hf, hb, rfl, rfl, rfl⟩
      · skip
        have lt_i : i < W.length := by have h9 := c_12; rw [rv_len, hw.1] at h9; exact nI_ltn h9 (by omega) (by omega)
        have hu := hw.2 i lt_i
        have hw12 := (h12 i lt_i).2.1
        refine C.iconst (v := 1) dX11_addScopeWords_15 (by decide) ?_
        refine C.iload_n dX11_addScopeWords_16 rfl ?_
        refine C.ishl dX11_addScopeWords_17 ?_
        refine C.iload_n dX11_addScopeWords_18 rfl ?_
        refine C.callS0 [.int (1 <<< ((nI i : Int32) &&& 31)), .int x] dX11_addScopeWords_19 mdX11_isWithin ssX11_isWithin lk_X11_254 rfl rfl rfl rfl (cCt.w0 (R := fun r => r = some (.int (bI (sbt x i)))) fun σ9 h9 => (by have h8 := c_isWithin (Λ := Λ) (σ := σ9) (1 <<< (nI i &&& 31)) x; rw [wthn_bit (by omega)] at h8; exact h8)) ?_
        rintro _ G9 D9 ⟨rfl, e9, e8⟩
        have e9 := e9.symm; subst e9; have e8 := e8.symm; subst e8
        refine C.if_eq (tgt := 73) dX11_addScopeWords_22 (by decide) (fun c_22 => ?_) (fun c_22 => ?_)
        · skip
          have hsb : sbt x i = false := (bI_eq0 _).mp c_22
          refine C.iinc (v := nI (i + 1)) (L' := [some (.ref (S 0)), some (.int x), some (.int (bI (alln (fun j => !sbt x j) i))), some (.int (nI (i + 1)))]) dX11_addScopeWords_73 rfl (nI_1 i) (by decide) rfl rfl ?_
          refine C.goto (tgt := 4) dX11_addScopeWords_76 (by decide) ?_
          have t9 := ih_4 (i + 1) f (by omega) (by omega) (by rw [scw, if_neg (fun q => Bool.false_ne_true (hsb.symm.trans q))]; exact hf) (by rw [scw, if_neg (fun q => Bool.false_ne_true (hsb.symm.trans q))]; exact hb)
          rw [scw, if_neg (fun q => Bool.false_ne_true (hsb.symm.trans q)), alln_s, hsb] at t9
          rw [show (alln (fun j => !sbt x j) i && !false) = alln (fun j => !sbt x j) i from Bool.and_true _] at t9
          exact t9
        · skip
          have hsb : sbt x i = true := bt1 c_22
          have hu9 := hu; obtain ⟨r9, b9, c9, f9_, u9, z2⟩ := hu9
          refine C.iload_n dX11_addScopeWords_25 rfl ?_
          refine C.if_ne (tgt := 38) dX11_addScopeWords_26 (by decide) (fun c_26 => ?_) (fun c_26 => ?_)
          · skip
            refine C.aload_nR dX11_addScopeWords_38 rfl ?_
            refine C.getS (k9 := 0) (fs := [.ref (S 1), .ref (S 2), .ref (S 3), .ref (S 4), .ref (S 5), .ref (S 6), .ref (S 7), .ref (S 8), .ref (S 9), .ref (S 10), .ref (S 11), .ref (S 12), .int (N 26), .int (N 27), .int (N 28), .int (N 25), .int (N 5), .int (N 6)]) dX11_addScopeWords_39 fl_X11_18 rfl hP rfl ?_
            refine C.aload_nR dX11_addScopeWords_42 rfl ?_
            refine C.getS (k9 := 0) (fs := [.ref (S 1), .ref (S 2), .ref (S 3), .ref (S 4), .ref (S 5), .ref (S 6), .ref (S 7), .ref (S 8), .ref (S 9), .ref (S 10), .ref (S 11), .ref (S 12), .int (N 26), .int (N 27), .int (N 28), .int (N 25), .int (N 5), .int (N 6)]) dX11_addScopeWords_43 fl_X11_45 rfl hP rfl ?_
            refine C.iload_n dX11_addScopeWords_46 rfl ?_
            refine C.callLS0 (k9 := 6) [.int (nI i)] dX11_addScopeWords_47 mdJx4a65c_get_915e3 imJx4a65c_get_915e3 seJx4a65c_get_915e3 rfl h6 lk_X11_163 rfl rfl rfl rfl (cCt.w0 (R := fun r => r = some (.ref (l.getD i 0))) fun σ9 h9 => c_list_get (h9.at (k := 6) rfl h6) (rv_at (by rw [hw.1]; exact lt_i))) ?_
            rintro _ G9 D9 ⟨rfl, e9, e8⟩
            have e9 := e9.symm; subst e9; have e8 := e8.symm; subst e8
            refine C.castD dX11_addScopeWords_50 cl_X11_7 cs_10 kc_10 u9 ?_
            refine C.iconst (v := 0) dX11_addScopeWords_53 (by decide) ?_
            refine C.aload_nR dX11_addScopeWords_54 rfl ?_
            refine C.getS (k9 := 0) (fs := [.ref (S 1), .ref (S 2), .ref (S 3), .ref (S 4), .ref (S 5), .ref (S 6), .ref (S 7), .ref (S 8), .ref (S 9), .ref (S 10), .ref (S 11), .ref (S 12), .int (N 26), .int (N 27), .int (N 28), .int (N 25), .int (N 5), .int (N 6)]) dX11_addScopeWords_55 fl_X11_45 rfl hP rfl ?_
            refine C.iload_n dX11_addScopeWords_58 rfl ?_
            refine C.callLS0 (k9 := 6) [.int (nI i)] dX11_addScopeWords_59 mdJx4a65c_get_915e3 imJx4a65c_get_915e3 seJx4a65c_get_915e3 rfl h6 lk_X11_163 rfl rfl rfl rfl (cCt.w0 (R := fun r => r = some (.ref (l.getD i 0))) fun σ9 h9 => c_list_get (h9.at (k := 6) rfl h6) (rv_at (by rw [hw.1]; exact lt_i))) ?_
            rintro _ G9 D9 ⟨rfl, e9, e8⟩
            have e9 := e9.symm; subst e9; have e8 := e8.symm; subst e8
            refine C.castD dX11_addScopeWords_62 cl_X11_7 cs_10 kc_10 u9 ?_
            refine C.callVD0 [] dX11_addScopeWords_65 mdX9_size imX9_size seX9_size kc_10 u9 lk_X11_86 rfl rfl rfl rfl (cCt.w0 (R := fun r => r = some (.int (nI (W.getD i []).length))) fun σ9 h9 => v_size (hu.mono h9.2.1)) ?_
            rintro _ G9 D9 ⟨rfl, e9, e8⟩
            have e9 := e9.symm; subst e9; have e8 := e8.symm; subst e8
            have hct := o_addPart (Λ := Λ) (D := D) hS (show tO S (gW S G 2 14 6200 f (v ++ scw W x i).length) 2 14 6200 (v ++ scw W x i) from (tO.gW (by decide) (by rw [List.length_append]; omega) (by decide) hf hb)) rfl rfl (hu.u (by decide) (by decide)) (g := 0) (m := (W.getD i []).length) (by omega) (by simp only [List.length_append, List.length_singleton]; omega) (h12 i lt_i).2.2
            rw [List.drop_zero, List.take_length] at hct
            refine C.callVS0 (k9 := 2) [.ref (l.getD i 0), .int 0, .int (nI (W.getD i []).length)] dX11_addScopeWords_68 mdX9_addPart imX9_addPart seX9_addPart kc_10 rfl rfl lk_X11_97 rfl rfl rfl rfl hct ?_
            rintro _ _ D9 ⟨f9_1, h_f9_1, b_f9_1, rfl, rfl, e8⟩; have e8 := e8.symm; subst e8
            rw [gW_gW _ _ _ _ _ _ _ (by decide)]
            refine C.iconst (v := 0) dX11_addScopeWords_71 (by decide) ?_
            refine C.istore_n (L' := [some (.ref (S 0)), some (.int x), some (.int 0), some (.int (nI i))]) dX11_addScopeWords_72 (by decide) rfl rfl ?_
            refine C.iinc (v := nI (i + 1)) (L' := [some (.ref (S 0)), some (.int x), some (.int 0), some (.int (nI (i + 1)))]) dX11_addScopeWords_73 rfl (nI_1 i) (by decide) rfl rfl ?_
            refine C.goto (tgt := 4) dX11_addScopeWords_76 (by decide) ?_
            have es : v ++ scw W x (i + 1) = ((v ++ scw W x i) ++ W.getD i []) := by rw [scw, if_pos hsb, if_pos (bt1 c_26), List.append_nil, List.append_assoc]
            have t9 := ih_4 (i + 1) f9_1 (by omega) (by omega) (by rw [es]; exact h_f9_1) (by rw [es]; exact b_f9_1)
            rw [es, alln_s, hsb] at t9
            rw [show (alln (fun j => !sbt x j) i && !true) = false from Bool.and_false _] at t9
            exact t9
          · skip
            refine C.aload_nR dX11_addScopeWords_29 rfl ?_
            refine C.getS (k9 := 0) (fs := [.ref (S 1), .ref (S 2), .ref (S 3), .ref (S 4), .ref (S 5), .ref (S 6), .ref (S 7), .ref (S 8), .ref (S 9), .ref (S 10), .ref (S 11), .ref (S 12), .int (N 26), .int (N 27), .int (N 28), .int (N 25), .int (N 5), .int (N 6)]) dX11_addScopeWords_30 fl_X11_18 rfl hP rfl ?_
            refine C.bipush (v := 32) dX11_addScopeWords_33 (by decide) ?_
            refine C.callVS0 (k9 := 2) [.int 32] dX11_addScopeWords_35 mdX9_add imX9_add seX9_add kc_10 rfl rfl lk_X11_459 rfl rfl rfl rfl (o_add hS (show tO S (gW S G 2 14 6200 f (v ++ scw W x i).length) 2 14 6200 (v ++ scw W x i) from (tO.gW (by decide) (by rw [List.length_append]; omega) (by decide) hf hb)) rfl rfl (by rw [List.length_append]; omega) 32) ?_
            rintro _ _ D9 ⟨f9_2, h_f9_2, b_f9_2, rfl, rfl, e8⟩; have e8 := e8.symm; subst e8
            rw [gW_gW _ _ _ _ _ _ _ (by decide)]
            refine C.aload_nR dX11_addScopeWords_38 rfl ?_
            refine C.getS (k9 := 0) (fs := [.ref (S 1), .ref (S 2), .ref (S 3), .ref (S 4), .ref (S 5), .ref (S 6), .ref (S 7), .ref (S 8), .ref (S 9), .ref (S 10), .ref (S 11), .ref (S 12), .int (N 26), .int (N 27), .int (N 28), .int (N 25), .int (N 5), .int (N 6)]) dX11_addScopeWords_39 fl_X11_18 rfl hP rfl ?_
            refine C.aload_nR dX11_addScopeWords_42 rfl ?_
            refine C.getS (k9 := 0) (fs := [.ref (S 1), .ref (S 2), .ref (S 3), .ref (S 4), .ref (S 5), .ref (S 6), .ref (S 7), .ref (S 8), .ref (S 9), .ref (S 10), .ref (S 11), .ref (S 12), .int (N 26), .int (N 27), .int (N 28), .int (N 25), .int (N 5), .int (N 6)]) dX11_addScopeWords_43 fl_X11_45 rfl hP rfl ?_
            refine C.iload_n dX11_addScopeWords_46 rfl ?_
            refine C.callLS0 (k9 := 6) [.int (nI i)] dX11_addScopeWords_47 mdJx4a65c_get_915e3 imJx4a65c_get_915e3 seJx4a65c_get_915e3 rfl h6 lk_X11_163 rfl rfl rfl rfl (cCt.w0 (R := fun r => r = some (.ref (l.getD i 0))) fun σ9 h9 => c_list_get (h9.at (k := 6) rfl h6) (rv_at (by rw [hw.1]; exact lt_i))) ?_
            rintro _ G9 D9 ⟨rfl, e9, e8⟩
            have e9 := e9.symm; subst e9; have e8 := e8.symm; subst e8
            refine C.castD dX11_addScopeWords_50 cl_X11_7 cs_10 kc_10 u9 ?_
            refine C.iconst (v := 0) dX11_addScopeWords_53 (by decide) ?_
            refine C.aload_nR dX11_addScopeWords_54 rfl ?_
            refine C.getS (k9 := 0) (fs := [.ref (S 1), .ref (S 2), .ref (S 3), .ref (S 4), .ref (S 5), .ref (S 6), .ref (S 7), .ref (S 8), .ref (S 9), .ref (S 10), .ref (S 11), .ref (S 12), .int (N 26), .int (N 27), .int (N 28), .int (N 25), .int (N 5), .int (N 6)]) dX11_addScopeWords_55 fl_X11_45 rfl hP rfl ?_
            refine C.iload_n dX11_addScopeWords_58 rfl ?_
            refine C.callLS0 (k9 := 6) [.int (nI i)] dX11_addScopeWords_59 mdJx4a65c_get_915e3 imJx4a65c_get_915e3 seJx4a65c_get_915e3 rfl h6 lk_X11_163 rfl rfl rfl rfl (cCt.w0 (R := fun r => r = some (.ref (l.getD i 0))) fun σ9 h9 => c_list_get (h9.at (k := 6) rfl h6) (rv_at (by rw [hw.1]; exact lt_i))) ?_
            rintro _ G9 D9 ⟨rfl, e9, e8⟩
            have e9 := e9.symm; subst e9; have e8 := e8.symm; subst e8
            refine C.castD dX11_addScopeWords_62 cl_X11_7 cs_10 kc_10 u9 ?_
            refine C.callVD0 [] dX11_addScopeWords_65 mdX9_size imX9_size seX9_size kc_10 u9 lk_X11_86 rfl rfl rfl rfl (cCt.w0 (R := fun r => r = some (.int (nI (W.getD i []).length))) fun σ9 h9 => v_size (hu.mono h9.2.1)) ?_
            rintro _ G9 D9 ⟨rfl, e9, e8⟩
            have e9 := e9.symm; subst e9; have e8 := e8.symm; subst e8
            have hct := o_addPart (Λ := Λ) (D := D) hS (show tO S (gW S G 2 14 6200 f9_2 ((v ++ scw W x i) ++ [b8 32]).length) 2 14 6200 ((v ++ scw W x i) ++ [b8 32]) from (tO.gW (by decide) (by simp only [List.length_append, List.length_singleton]; omega) (by decide) h_f9_2 b_f9_2)) rfl rfl (hu.u (by decide) (by decide)) (g := 0) (m := (W.getD i []).length) (by omega) (by simp only [List.length_append, List.length_singleton]; omega) (h12 i lt_i).2.2
            rw [List.drop_zero, List.take_length] at hct
            refine C.callVS0 (k9 := 2) [.ref (l.getD i 0), .int 0, .int (nI (W.getD i []).length)] dX11_addScopeWords_68 mdX9_addPart imX9_addPart seX9_addPart kc_10 rfl rfl lk_X11_97 rfl rfl rfl rfl hct ?_
            rintro _ _ D9 ⟨f9_3, h_f9_3, b_f9_3, rfl, rfl, e8⟩; have e8 := e8.symm; subst e8
            rw [gW_gW _ _ _ _ _ _ _ (by decide)]
            refine C.iconst (v := 0) dX11_addScopeWords_71 (by decide) ?_
            refine C.istore_n (L' := [some (.ref (S 0)), some (.int x), some (.int 0), some (.int (nI i))]) dX11_addScopeWords_72 (by decide) rfl rfl ?_
            refine C.iinc (v := nI (i + 1)) (L' := [some (.ref (S 0)), some (.int x), some (.int 0), some (.int (nI (i + 1)))]) dX11_addScopeWords_73 rfl (nI_1 i) (by decide) rfl rfl ?_
            refine C.goto (tgt := 4) dX11_addScopeWords_76 (by decide) ?_
            have es : v ++ scw W x (i + 1) = (((v ++ scw W x i) ++ [b8 32]) ++ W.getD i []) := by rw [scw, if_pos hsb, if_neg (fun q => Bool.false_ne_true (((bI_eq0 _).mp c_26).symm.trans q)), List.append_assoc, List.append_assoc, List.append_assoc]; rfl
            have t9 := ih_4 (i + 1) f9_3 (by omega) (by omega) (by rw [es]; exact h_f9_3) (by rw [es]; exact b_f9_3)
            rw [es, alln_s, hsb] at t9
            rw [show (alln (fun j => !sbt x j) i && !true) = false from Bool.and_false _] at t9
            exact t9
  have t9 := cut_4 (W.length + 1) 0 fo9 (by omega) (by omega) (by rw [show v ++ scw W x 0 = v from List.append_nil v]; exact b5) (by rw [show v ++ scw W x 0 = v from List.append_nil v]; exact b6)
  rw [show v ++ scw W x 0 = v from List.append_nil v, gW_id b1 b2] at t9
  exact t9

theorem q_dice {Λ : kL} {S : Nat → Nat} {G : Nat → kc} {D : kh} (hS : cInj S) {A L : Nat → List Nat} {N : Nat → Int32} {B : Nat → List Int32} {T R : Nat → List (List Int32)} (hR : cR Λ S G D A L N B T R) (hW : wf N B T R) (hSt : kSt Λ) (hJ : kJd Λ) (a b c d : Int32) : cCt Λ mX11_dice 5 200 S [.ref (S 0), .int a, .int b, .int c, .int d] G D (cP Λ S (opDice N B T R a b c d)) := by
  refine cCt.of hS pn_X11 [some (.ref (S 0)), some (.int a), some (.int b), some (.int c), some (.int d)] rfl (Nat.le_of_ble_eq_true rfl) fun X => ?_
  have hR0 := hR; have hW0 := hW
  obtain ⟨p_a, p_b, p_n, p_k, p_f, p_h, p_w, p_c, p_r, p_q, p_o, p_m, p_t, p_d⟩ := hR
  obtain ⟨w_a, w_n, w_w, w_c, w_r, w_x, w_q, w_k, w_f, w_t, w_m, w_l⟩ := hW
  have p_a9 := p_a; obtain ⟨ft, a1, a2, a3, a4, a5, a6⟩ := p_a9
  have p_b9 := p_b; obtain ⟨fo9, b1, b2, b3, b4, b5, b6⟩ := p_b9
  refine C.aload_nR dX11_dice_0 rfl ?_
  refine C.getS (k9 := 0) (fs := [.ref (S 1), .ref (S 2), .ref (S 3), .ref (S 4), .ref (S 5), .ref (S 6), .ref (S 7), .ref (S 8), .ref (S 9), .ref (S 10), .ref (S 11), .ref (S 12), .int (N 26), .int (N 27), .int (N 28), .int (N 25), .int (N 5), .int (N 6)]) dX11_dice_1 fl_X11_31 rfl p_n rfl ?_
  refine C.iload_n dX11_dice_4 rfl ?_
  refine C.iload_n dX11_dice_5 rfl ?_
  refine C.iload_n dX11_dice_6 rfl ?_
  refine C.iload dX11_dice_7 rfl ?_
  refine C.less (bc' := 0 + 5) (bs' := 0 + 200) (by omega) (by omega) ?_
  refine C.callVS (k9 := 4) [.int a, .int b, .int c, .int d] dX11_dice_9 mdX6_addDie imX6_addDie seX6_addDie kc_7 rfl p_k.2.1 lk_X11_177 rfl rfl rfl rfl (k_addDie hS hSt hJ p_k.2.1 p_d.1 p_d.2.2 (by rw [p_d.2.2.1]; exact w_x.1) a b c d) ?_
  rintro _ _ D2 (⟨hge, rfl, e9, e8⟩ | ⟨hlt, rfl, q, rfl, hdm, hH⟩)
  · have e9 := e9.symm; subst e9; have e8 := e8.symm; subst e8
    refine C.if_eq (tgt := 25) dX11_dice_12 (by decide) (fun c_12 => ?_) (fun c_12 => absurd rfl c_12)
    refine C.iconst (v := (-1)) dX11_dice_25 (by decide) ?_
    refine C.iret dX11_dice_26 rfl ?_
    rw [opDice, if_pos (by have := p_d.2.2.1; have := w_x.1; omega)]
    exact ⟨rfl, A, L, p_a, p_b, p_n, p_k, p_f, p_h, p_w, p_c, p_r, p_q, p_o, p_m, p_t, p_d⟩
  · skip
    refine C.if_eq (tgt := 25) dX11_dice_12 (by decide) (fun c_12 => absurd c_12 (by decide)) (fun c_12 => ?_)
    refine C.aload_nR dX11_dice_15 rfl ?_
    refine C.getS (k9 := 0) (fs := [.ref (S 1), .ref (S 2), .ref (S 3), .ref (S 4), .ref (S 5), .ref (S 6), .ref (S 7), .ref (S 8), .ref (S 9), .ref (S 10), .ref (S 11), .ref (S 12), .int (N 26), .int (N 27), .int (N 28), .int (N 25), .int (N 5), .int (N 6)]) dX11_dice_16 fl_X11_31 rfl p_n rfl ?_
    refine C.callVS0 (k9 := 4) [] dX11_dice_19 mdX6_waitingCount imX6_waitingCount seX6_waitingCount kc_7 rfl p_k.2.1 lk_X11_181 rfl rfl rfl rfl (cCt.w0 (R := fun r => r = some (.int (nI (rv (A 45 ++ [q])).length))) fun σ9 h9 => c_Handles_waitingCount (h9.at (k := 4) rfl p_k.2.1) (h9.at (k := 45) rfl rfl)) ?_
    rintro _ G9 D9 ⟨rfl, e9, e8⟩
    have e9 := e9.symm; subst e9; have e8 := e8.symm; subst e8
    refine C.goto (tgt := 26) dX11_dice_22 (by decide) ?_
    refine C.iret dX11_dice_26 rfl ?_
    rw [opDice, if_neg (by have := p_d.2.2.1; omega)]
    refine ⟨congrArg (fun z => some (Value.int z)) (by rw [rv_len, List.length_append, p_d.2.2.1]; rfl), setA A 45 (A 45 ++ [q]), L, p_a, p_b, p_n, p_k, p_f, p_h, ⟨p_w.1, p_w.2.mono hdm⟩, ⟨p_c.1, p_c.2.mono hdm⟩, p_r.mono hdm, ⟨p_q.1, p_q.2.mono hdm⟩, ⟨p_o.1, p_o.2.mono hdm⟩, ⟨p_m.1, p_m.2.mono hdm⟩, ⟨p_t.1, p_t.2.1, p_t.2.2.mono hdm⟩, ⟨rfl, p_d.2.1, hH⟩⟩

theorem q_count {Λ : kL} {S : Nat → Nat} {G : Nat → kc} {D : kh} (hS : cInj S) {A L : Nat → List Nat} {N : Nat → Int32} {B : Nat → List Int32} {T R : Nat → List (List Int32)} (hR : cR Λ S G D A L N B T R) (hW : wf N B T R) (x : Int32) : cCt Λ mX11_count 0 0 S [.ref (S 0), .int x] G D (cP Λ S (opCnt N B T R x)) := by
  refine cCt.of hS pn_X11 [some (.ref (S 0)), some (.int x)] rfl (Nat.le_of_ble_eq_true rfl) fun X => ?_
  have hR0 := hR; have hW0 := hW
  obtain ⟨p_a, p_b, p_n, p_k, p_f, p_h, p_w, p_c, p_r, p_q, p_o, p_m, p_t, p_d⟩ := hR
  obtain ⟨w_a, w_n, w_w, w_c, w_r, w_x, w_q, w_k, w_f, w_t, w_m, w_l⟩ := hW
  have p_a9 := p_a; obtain ⟨ft, a1, a2, a3, a4, a5, a6⟩ := p_a9
  have p_b9 := p_b; obtain ⟨fo9, b1, b2, b3, b4, b5, b6⟩ := p_b9
  refine C.iload_n dX11_count_0 rfl ?_
  by_cases sw_1 : x.toInt < 0 ∨ 11 < x.toInt
  · refine C.tableOut (tgt := 151) dX11_count_1 sw_1 (by decide) ?_
    refine C.iconst (v := (-1)) dX11_count_151 (by decide) ?_
    refine C.iret dX11_count_152 rfl ?_
    refine ⟨congrArg (fun z => some (Value.int z)) ?_, A, L, p_a, p_b, p_n, p_k, p_f, p_h, p_w, p_c, p_r, p_q, p_o, p_m, p_t, p_d⟩
    show _ = (if x = 0 then _ else _)
    rw [if_neg (sw_no (x := x) (v := 0) 0 11 sw_1 (by decide)), if_neg (sw_no (x := x) (v := 1) 0 11 sw_1 (by decide)), if_neg (sw_no (x := x) (v := 2) 0 11 sw_1 (by decide)), if_neg (sw_no (x := x) (v := 3) 0 11 sw_1 (by decide)), if_neg (sw_no (x := x) (v := 4) 0 11 sw_1 (by decide)), if_neg (sw_no (x := x) (v := 5) 0 11 sw_1 (by decide)), if_neg (sw_no (x := x) (v := 6) 0 11 sw_1 (by decide)), if_neg (sw_no (x := x) (v := 7) 0 11 sw_1 (by decide)), if_neg (sw_no (x := x) (v := 8) 0 11 sw_1 (by decide)), if_neg (sw_no (x := x) (v := 9) 0 11 sw_1 (by decide)), if_neg (sw_no (x := x) (v := 10) 0 11 sw_1 (by decide)), if_neg (sw_no (x := x) (v := 11) 0 11 sw_1 (by decide))]
  by_cases sw_1_0 : x = 0
  · refine C.tableIn (off := 63) (tgt := 64) dX11_count_1 (by rw [sw_1_0]; decide) (by rw [sw_1_0]; decide) (by rw [sw_1_0]; rfl) (by decide) ?_
    refine C.aload_nR dX11_count_64 rfl ?_
    refine C.getS (k9 := 0) (fs := [.ref (S 1), .ref (S 2), .ref (S 3), .ref (S 4), .ref (S 5), .ref (S 6), .ref (S 7), .ref (S 8), .ref (S 9), .ref (S 10), .ref (S 11), .ref (S 12), .int (N 26), .int (N 27), .int (N 28), .int (N 25), .int (N 5), .int (N 6)]) dX11_count_65 fl_X11_45 rfl p_n rfl ?_
    refine C.callLS0 (k9 := 6) [] dX11_count_68 mdJx4a65c_size_8abf5 imJx4a65c_size_8abf5 seJx4a65c_size_8abf5 rfl p_w.1 lk_X11_123 rfl rfl rfl rfl (cCt.w0 (R := fun r => r = some (.int (nI (rv (A 6)).length))) fun σ9 h9 => c_list_size (h9.at (k := 6) rfl p_w.1)) ?_
    rintro _ G9 D9 ⟨rfl, e9, e8⟩
    have e9 := e9.symm; subst e9; have e8 := e8.symm; subst e8
    refine C.iret dX11_count_71 rfl ?_
    refine ⟨congrArg (fun z => some (Value.int z)) ?_, A, L, p_a, p_b, p_n, p_k, p_f, p_h, p_w, p_c, p_r, p_q, p_o, p_m, p_t, p_d⟩
    show _ = (if x = 0 then _ else _)
    rw [if_pos sw_1_0, rv_len, p_w.2.1]
  by_cases sw_1_1 : x = 1
  · refine C.tableIn (off := 71) (tgt := 72) dX11_count_1 (by rw [sw_1_1]; decide) (by rw [sw_1_1]; decide) (by rw [sw_1_1]; rfl) (by decide) ?_
    refine C.aload_nR dX11_count_72 rfl ?_
    refine C.getS (k9 := 0) (fs := [.ref (S 1), .ref (S 2), .ref (S 3), .ref (S 4), .ref (S 5), .ref (S 6), .ref (S 7), .ref (S 8), .ref (S 9), .ref (S 10), .ref (S 11), .ref (S 12), .int (N 26), .int (N 27), .int (N 28), .int (N 25), .int (N 5), .int (N 6)]) dX11_count_73 fl_X11_49 rfl p_n rfl ?_
    refine C.callLS0 (k9 := 7) [] dX11_count_76 mdJx4a65c_size_8abf5 imJx4a65c_size_8abf5 seJx4a65c_size_8abf5 rfl p_c.1 lk_X11_123 rfl rfl rfl rfl (cCt.w0 (R := fun r => r = some (.int (nI (rv (A 7)).length))) fun σ9 h9 => c_list_size (h9.at (k := 7) rfl p_c.1)) ?_
    rintro _ G9 D9 ⟨rfl, e9, e8⟩
    have e9 := e9.symm; subst e9; have e8 := e8.symm; subst e8
    refine C.iret dX11_count_79 rfl ?_
    refine ⟨congrArg (fun z => some (Value.int z)) ?_, A, L, p_a, p_b, p_n, p_k, p_f, p_h, p_w, p_c, p_r, p_q, p_o, p_m, p_t, p_d⟩
    show _ = (if x = 0 then _ else _)
    rw [if_neg sw_1_0, if_pos sw_1_1, rv_len, p_c.2.1]
  by_cases sw_1_2 : x = 2
  · refine C.tableIn (off := 79) (tgt := 80) dX11_count_1 (by rw [sw_1_2]; decide) (by rw [sw_1_2]; decide) (by rw [sw_1_2]; rfl) (by decide) ?_
    refine C.aload_nR dX11_count_80 rfl ?_
    refine C.getS (k9 := 0) (fs := [.ref (S 1), .ref (S 2), .ref (S 3), .ref (S 4), .ref (S 5), .ref (S 6), .ref (S 7), .ref (S 8), .ref (S 9), .ref (S 10), .ref (S 11), .ref (S 12), .int (N 26), .int (N 27), .int (N 28), .int (N 25), .int (N 5), .int (N 6)]) dX11_count_81 fl_X11_31 rfl p_n rfl ?_
    refine C.callVS0 (k9 := 4) [] dX11_count_84 mdX6_waitingCount imX6_waitingCount seX6_waitingCount kc_7 rfl p_k.2.1 lk_X11_181 rfl rfl rfl rfl (cCt.w0 (R := fun r => r = some (.int (nI (rv (A 45)).length))) fun σ9 h9 => c_Handles_waitingCount (h9.at (k := 4) rfl p_k.2.1) (h9.at (k := 45) rfl p_d.1)) ?_
    rintro _ G9 D9 ⟨rfl, e9, e8⟩
    have e9 := e9.symm; subst e9; have e8 := e8.symm; subst e8
    refine C.iret dX11_count_87 rfl ?_
    refine ⟨congrArg (fun z => some (Value.int z)) ?_, A, L, p_a, p_b, p_n, p_k, p_f, p_h, p_w, p_c, p_r, p_q, p_o, p_m, p_t, p_d⟩
    show _ = (if x = 0 then _ else _)
    rw [if_neg sw_1_0, if_neg sw_1_1, if_pos sw_1_2, rv_len, p_d.2.2.1]
  by_cases sw_1_3 : x = 3
  · refine C.tableIn (off := 87) (tgt := 88) dX11_count_1 (by rw [sw_1_3]; decide) (by rw [sw_1_3]; decide) (by rw [sw_1_3]; rfl) (by decide) ?_
    refine C.aload_nR dX11_count_88 rfl ?_
    refine C.getS (k9 := 0) (fs := [.ref (S 1), .ref (S 2), .ref (S 3), .ref (S 4), .ref (S 5), .ref (S 6), .ref (S 7), .ref (S 8), .ref (S 9), .ref (S 10), .ref (S 11), .ref (S 12), .int (N 26), .int (N 27), .int (N 28), .int (N 25), .int (N 5), .int (N 6)]) dX11_count_89 fl_X11_52 rfl p_n rfl ?_
    refine C.callLS0 (k9 := 8) [] dX11_count_92 mdJx4a65c_size_8abf5 imJx4a65c_size_8abf5 seJx4a65c_size_8abf5 rfl p_q.1 lk_X11_123 rfl rfl rfl rfl (cCt.w0 (R := fun r => r = some (.int (nI (rv (A 8)).length))) fun σ9 h9 => c_list_size (h9.at (k := 8) rfl p_q.1)) ?_
    rintro _ G9 D9 ⟨rfl, e9, e8⟩
    have e9 := e9.symm; subst e9; have e8 := e8.symm; subst e8
    refine C.iret dX11_count_95 rfl ?_
    refine ⟨congrArg (fun z => some (Value.int z)) ?_, A, L, p_a, p_b, p_n, p_k, p_f, p_h, p_w, p_c, p_r, p_q, p_o, p_m, p_t, p_d⟩
    show _ = (if x = 0 then _ else _)
    rw [if_neg sw_1_0, if_neg sw_1_1, if_neg sw_1_2, if_pos sw_1_3, rv_len, p_q.2.1]
  by_cases sw_1_4 : x = 4
  · refine C.tableIn (off := 95) (tgt := 96) dX11_count_1 (by rw [sw_1_4]; decide) (by rw [sw_1_4]; decide) (by rw [sw_1_4]; rfl) (by decide) ?_
    refine C.aload_nR dX11_count_96 rfl ?_
    refine C.callVS0 (k9 := 0) [] dX11_count_97 mdX11_openRequests imX11_openRequests seX11_openRequests kc_12 rfl p_n lk_X11_381 rfl rfl rfl rfl (k_openRequests hS hR0 hW0) ?_
    rintro _ G9 D9 ⟨rfl, e9, e8⟩
    have e9 := e9.symm; subst e9; have e8 := e8.symm; subst e8
    refine C.iret dX11_count_100 rfl ?_
    refine ⟨congrArg (fun z => some (Value.int z)) ?_, A, L, p_a, p_b, p_n, p_k, p_f, p_h, p_w, p_c, p_r, p_q, p_o, p_m, p_t, p_d⟩
    show _ = (if x = 0 then _ else _)
    rw [if_neg sw_1_0, if_neg sw_1_1, if_neg sw_1_2, if_neg sw_1_3, if_pos sw_1_4]
  by_cases sw_1_5 : x = 5
  · refine C.tableIn (off := 100) (tgt := 101) dX11_count_1 (by rw [sw_1_5]; decide) (by rw [sw_1_5]; decide) (by rw [sw_1_5]; rfl) (by decide) ?_
    refine C.aload_nR dX11_count_101 rfl ?_
    refine C.getS (k9 := 0) (fs := [.ref (S 1), .ref (S 2), .ref (S 3), .ref (S 4), .ref (S 5), .ref (S 6), .ref (S 7), .ref (S 8), .ref (S 9), .ref (S 10), .ref (S 11), .ref (S 12), .int (N 26), .int (N 27), .int (N 28), .int (N 25), .int (N 5), .int (N 6)]) dX11_count_102 fl_X11_55 rfl p_n rfl ?_
    refine C.callLS0 (k9 := 9) [] dX11_count_105 mdJx4a65c_size_8abf5 imJx4a65c_size_8abf5 seJx4a65c_size_8abf5 rfl p_o.1 lk_X11_123 rfl rfl rfl rfl (cCt.w0 (R := fun r => r = some (.int (nI (rv (A 9)).length))) fun σ9 h9 => c_list_size (h9.at (k := 9) rfl p_o.1)) ?_
    rintro _ G9 D9 ⟨rfl, e9, e8⟩
    have e9 := e9.symm; subst e9; have e8 := e8.symm; subst e8
    refine C.iret dX11_count_108 rfl ?_
    refine ⟨congrArg (fun z => some (Value.int z)) ?_, A, L, p_a, p_b, p_n, p_k, p_f, p_h, p_w, p_c, p_r, p_q, p_o, p_m, p_t, p_d⟩
    show _ = (if x = 0 then _ else _)
    rw [if_neg sw_1_0, if_neg sw_1_1, if_neg sw_1_2, if_neg sw_1_3, if_neg sw_1_4, if_pos sw_1_5, rv_len, p_o.2.1]
  by_cases sw_1_6 : x = 6
  · refine C.tableIn (off := 108) (tgt := 109) dX11_count_1 (by rw [sw_1_6]; decide) (by rw [sw_1_6]; decide) (by rw [sw_1_6]; rfl) (by decide) ?_
    refine C.aload_nR dX11_count_109 rfl ?_
    refine C.getS (k9 := 0) (fs := [.ref (S 1), .ref (S 2), .ref (S 3), .ref (S 4), .ref (S 5), .ref (S 6), .ref (S 7), .ref (S 8), .ref (S 9), .ref (S 10), .ref (S 11), .ref (S 12), .int (N 26), .int (N 27), .int (N 28), .int (N 25), .int (N 5), .int (N 6)]) dX11_count_110 fl_X11_58 rfl p_n rfl ?_
    refine C.callLS0 (k9 := 10) [] dX11_count_113 mdJx4a65c_size_8abf5 imJx4a65c_size_8abf5 seJx4a65c_size_8abf5 rfl p_m.1 lk_X11_123 rfl rfl rfl rfl (cCt.w0 (R := fun r => r = some (.int (nI (rv (A 10)).length))) fun σ9 h9 => c_list_size (h9.at (k := 10) rfl p_m.1)) ?_
    rintro _ G9 D9 ⟨rfl, e9, e8⟩
    have e9 := e9.symm; subst e9; have e8 := e8.symm; subst e8
    refine C.iret dX11_count_116 rfl ?_
    refine ⟨congrArg (fun z => some (Value.int z)) ?_, A, L, p_a, p_b, p_n, p_k, p_f, p_h, p_w, p_c, p_r, p_q, p_o, p_m, p_t, p_d⟩
    show _ = (if x = 0 then _ else _)
    rw [if_neg sw_1_0, if_neg sw_1_1, if_neg sw_1_2, if_neg sw_1_3, if_neg sw_1_4, if_neg sw_1_5, if_pos sw_1_6, rv_len, p_m.2.1]
  by_cases sw_1_7 : x = 7
  · refine C.tableIn (off := 116) (tgt := 117) dX11_count_1 (by rw [sw_1_7]; decide) (by rw [sw_1_7]; decide) (by rw [sw_1_7]; rfl) (by decide) ?_
    refine C.aload_nR dX11_count_117 rfl ?_
    refine C.getS (k9 := 0) (fs := [.ref (S 1), .ref (S 2), .ref (S 3), .ref (S 4), .ref (S 5), .ref (S 6), .ref (S 7), .ref (S 8), .ref (S 9), .ref (S 10), .ref (S 11), .ref (S 12), .int (N 26), .int (N 27), .int (N 28), .int (N 25), .int (N 5), .int (N 6)]) dX11_count_118 fl_X11_61 rfl p_n rfl ?_
    refine C.callLS0 (k9 := 11) [] dX11_count_121 mdJx4a65c_size_8abf5 imJx4a65c_size_8abf5 seJx4a65c_size_8abf5 rfl p_t.1 lk_X11_123 rfl rfl rfl rfl (cCt.w0 (R := fun r => r = some (.int (nI (rv (A 11)).length))) fun σ9 h9 => c_list_size (h9.at (k := 11) rfl p_t.1)) ?_
    rintro _ G9 D9 ⟨rfl, e9, e8⟩
    have e9 := e9.symm; subst e9; have e8 := e8.symm; subst e8
    refine C.iret dX11_count_124 rfl ?_
    refine ⟨congrArg (fun z => some (Value.int z)) ?_, A, L, p_a, p_b, p_n, p_k, p_f, p_h, p_w, p_c, p_r, p_q, p_o, p_m, p_t, p_d⟩
    show _ = (if x = 0 then _ else _)
    rw [if_neg sw_1_0, if_neg sw_1_1, if_neg sw_1_2, if_neg sw_1_3, if_neg sw_1_4, if_neg sw_1_5, if_neg sw_1_6, if_pos sw_1_7, rv_len, p_t.2.2.1]
  by_cases sw_1_8 : x = 8
  · refine C.tableIn (off := 124) (tgt := 125) dX11_count_1 (by rw [sw_1_8]; decide) (by rw [sw_1_8]; decide) (by rw [sw_1_8]; rfl) (by decide) ?_
    refine C.aload_nR dX11_count_125 rfl ?_
    refine C.getS (k9 := 0) (fs := [.ref (S 1), .ref (S 2), .ref (S 3), .ref (S 4), .ref (S 5), .ref (S 6), .ref (S 7), .ref (S 8), .ref (S 9), .ref (S 10), .ref (S 11), .ref (S 12), .int (N 26), .int (N 27), .int (N 28), .int (N 25), .int (N 5), .int (N 6)]) dX11_count_126 fl_X11_64 rfl p_n rfl ?_
    refine C.callLS0 (k9 := 12) [] dX11_count_129 mdJx4a65c_size_8abf5 imJx4a65c_size_8abf5 seJx4a65c_size_8abf5 rfl p_t.2.1 lk_X11_123 rfl rfl rfl rfl (cCt.w0 (R := fun r => r = some (.int (nI (rv (A 12)).length))) fun σ9 h9 => c_list_size (h9.at (k := 12) rfl p_t.2.1)) ?_
    rintro _ G9 D9 ⟨rfl, e9, e8⟩
    have e9 := e9.symm; subst e9; have e8 := e8.symm; subst e8
    refine C.iret dX11_count_132 rfl ?_
    refine ⟨congrArg (fun z => some (Value.int z)) ?_, A, L, p_a, p_b, p_n, p_k, p_f, p_h, p_w, p_c, p_r, p_q, p_o, p_m, p_t, p_d⟩
    show _ = (if x = 0 then _ else _)
    rw [if_neg sw_1_0, if_neg sw_1_1, if_neg sw_1_2, if_neg sw_1_3, if_neg sw_1_4, if_neg sw_1_5, if_neg sw_1_6, if_neg sw_1_7, if_pos sw_1_8, rv_len, p_t.2.2.2.1]
  by_cases sw_1_9 : x = 9
  · refine C.tableIn (off := 132) (tgt := 133) dX11_count_1 (by rw [sw_1_9]; decide) (by rw [sw_1_9]; decide) (by rw [sw_1_9]; rfl) (by decide) ?_
    refine C.aload_nR dX11_count_133 rfl ?_
    refine C.callVS0 (k9 := 0) [] dX11_count_134 mdX11_familiesTakenBack imX11_familiesTakenBack seX11_familiesTakenBack kc_12 rfl p_n lk_X11_384 rfl rfl rfl rfl (k_familiesTakenBack hS hR0 hW0) ?_
    rintro _ G9 D9 ⟨rfl, e9, e8⟩
    have e9 := e9.symm; subst e9; have e8 := e8.symm; subst e8
    refine C.iret dX11_count_137 rfl ?_
    refine ⟨congrArg (fun z => some (Value.int z)) ?_, A, L, p_a, p_b, p_n, p_k, p_f, p_h, p_w, p_c, p_r, p_q, p_o, p_m, p_t, p_d⟩
    show _ = (if x = 0 then _ else _)
    rw [if_neg sw_1_0, if_neg sw_1_1, if_neg sw_1_2, if_neg sw_1_3, if_neg sw_1_4, if_neg sw_1_5, if_neg sw_1_6, if_neg sw_1_7, if_neg sw_1_8, if_pos sw_1_9]
  by_cases sw_1_10 : x = 10
  · refine C.tableIn (off := 137) (tgt := 138) dX11_count_1 (by rw [sw_1_10]; decide) (by rw [sw_1_10]; decide) (by rw [sw_1_10]; rfl) (by decide) ?_
    refine C.aload_nR dX11_count_138 rfl ?_
    refine C.getS (k9 := 0) (fs := [.ref (S 1), .ref (S 2), .ref (S 3), .ref (S 4), .ref (S 5), .ref (S 6), .ref (S 7), .ref (S 8), .ref (S 9), .ref (S 10), .ref (S 11), .ref (S 12), .int (N 26), .int (N 27), .int (N 28), .int (N 25), .int (N 5), .int (N 6)]) dX11_count_139 fl_X11_77 rfl p_n rfl ?_
    refine C.iret dX11_count_142 rfl ?_
    refine ⟨congrArg (fun z => some (Value.int z)) ?_, A, L, p_a, p_b, p_n, p_k, p_f, p_h, p_w, p_c, p_r, p_q, p_o, p_m, p_t, p_d⟩
    show _ = (if x = 0 then _ else _)
    rw [if_neg sw_1_0, if_neg sw_1_1, if_neg sw_1_2, if_neg sw_1_3, if_neg sw_1_4, if_neg sw_1_5, if_neg sw_1_6, if_neg sw_1_7, if_neg sw_1_8, if_neg sw_1_9, if_pos sw_1_10]
  by_cases sw_1_11 : x = 11
  · refine C.tableIn (off := 142) (tgt := 143) dX11_count_1 (by rw [sw_1_11]; decide) (by rw [sw_1_11]; decide) (by rw [sw_1_11]; rfl) (by decide) ?_
    refine C.aload_nR dX11_count_143 rfl ?_
    refine C.getS (k9 := 0) (fs := [.ref (S 1), .ref (S 2), .ref (S 3), .ref (S 4), .ref (S 5), .ref (S 6), .ref (S 7), .ref (S 8), .ref (S 9), .ref (S 10), .ref (S 11), .ref (S 12), .int (N 26), .int (N 27), .int (N 28), .int (N 25), .int (N 5), .int (N 6)]) dX11_count_144 fl_X11_14 rfl p_n rfl ?_
    refine C.callVS0 (k9 := 1) [] dX11_count_147 mdX9_size imX9_size seX9_size kc_10 rfl a1 lk_X11_86 rfl rfl rfl rfl (cCt.w0 (R := fun r => r = some (.int (nI (B 0).length))) fun σ9 h9 => v_size ((show tO S G 1 13 2000 (B 0) from p_a).s.tx h9 rfl rfl)) ?_
    rintro _ G9 D9 ⟨rfl, e9, e8⟩
    have e9 := e9.symm; subst e9; have e8 := e8.symm; subst e8
    refine C.iret dX11_count_150 rfl ?_
    refine ⟨congrArg (fun z => some (Value.int z)) ?_, A, L, p_a, p_b, p_n, p_k, p_f, p_h, p_w, p_c, p_r, p_q, p_o, p_m, p_t, p_d⟩
    show _ = (if x = 0 then _ else _)
    rw [if_neg sw_1_0, if_neg sw_1_1, if_neg sw_1_2, if_neg sw_1_3, if_neg sw_1_4, if_neg sw_1_5, if_neg sw_1_6, if_neg sw_1_7, if_neg sw_1_8, if_neg sw_1_9, if_neg sw_1_10, if_pos sw_1_11]
  exact absurd (show x.toInt < 0 ∨ 11 < x.toInt by have n_0 : ¬ x.toInt = 0 := fun q => sw_1_0 (i32_eq.mpr (q.trans (by decide))); have n_1 : ¬ x.toInt = 1 := fun q => sw_1_1 (i32_eq.mpr (q.trans (by decide))); have n_2 : ¬ x.toInt = 2 := fun q => sw_1_2 (i32_eq.mpr (q.trans (by decide))); have n_3 : ¬ x.toInt = 3 := fun q => sw_1_3 (i32_eq.mpr (q.trans (by decide))); have n_4 : ¬ x.toInt = 4 := fun q => sw_1_4 (i32_eq.mpr (q.trans (by decide))); have n_5 : ¬ x.toInt = 5 := fun q => sw_1_5 (i32_eq.mpr (q.trans (by decide))); have n_6 : ¬ x.toInt = 6 := fun q => sw_1_6 (i32_eq.mpr (q.trans (by decide))); have n_7 : ¬ x.toInt = 7 := fun q => sw_1_7 (i32_eq.mpr (q.trans (by decide))); have n_8 : ¬ x.toInt = 8 := fun q => sw_1_8 (i32_eq.mpr (q.trans (by decide))); have n_9 : ¬ x.toInt = 9 := fun q => sw_1_9 (i32_eq.mpr (q.trans (by decide))); have n_10 : ¬ x.toInt = 10 := fun q => sw_1_10 (i32_eq.mpr (q.trans (by decide))); have n_11 : ¬ x.toInt = 11 := fun q => sw_1_11 (i32_eq.mpr (q.trans (by decide))); omega) sw_1
